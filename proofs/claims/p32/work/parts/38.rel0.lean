/-! REL0: the fresh states are related -/
theorem z11_0 {j : Nat} (h5 : j ≠ 5) (h6 : j ≠ 6) (h7 : j ≠ 7) : zz11 0 j = 0 := by
  unfold zz11
  rw [sU_s, sU_n h7, sU_n h6, sU_n h5]
theorem ok0 : OK (zz11 0) := by
  refine ⟨0, 0, 0, 0, ⟨rfl, rfl, rfl, rfl, by decide, by decide, by decide, by decide⟩, ⟨0, rfl, by decide⟩, ⟨⟨30, rfl, by decide⟩, ⟨60, rfl, by decide, by decide⟩, ⟨100, rfl, by decide⟩⟩, fun k h => absurd h (Nat.not_lt_zero _), fun k h => absurd h (Nat.not_lt_zero _), fun k h => absurd h (Nat.not_lt_zero _), fun k h => absurd h (Nat.not_lt_zero _), fun k h => absurd h (Nat.not_lt_zero _), fun k _ hk => ?_, fun k _ hk => ?_, fun k _ hk => ?_, fun k hk => ?_⟩
  · exact ⟨z11_0 (by omega) (by omega) (by omega), z11_0 (by omega) (by omega) (by omega)⟩
  · exact ⟨z11_0 (by omega) (by omega) (by omega), z11_0 (by omega) (by omega) (by omega), z11_0 (by omega) (by omega) (by omega), z11_0 (by omega) (by omega) (by omega), z11_0 (by omega) (by omega) (by omega), z11_0 (by omega) (by omega) (by omega)⟩
  · exact ⟨z11_0 (by omega) (by omega) (by omega), z11_0 (by omega) (by omega) (by omega), z11_0 (by omega) (by omega) (by omega), z11_0 (by omega) (by omega) (by omega), z11_0 (by omega) (by omega) (by omega), z11_0 (by omega) (by omega) (by omega), z11_0 (by omega) (by omega) (by omega), z11_0 (by omega) (by omega) (by omega), z11_0 (by omega) (by omega) (by omega)⟩
  · exact ⟨fun _ => z11_0 (by omega) (by omega) (by omega), 0, z11_0 (by omega) (by omega) (by omega), by decide⟩
theorem zz5_0 {r f i : Nat} (h : r ≠ 4) : zz5 r f i = 0 := by
  unfold zz5
  rw [sU_n h]
theorem mp0 : mp 0 = 0 := by decide
theorem rr0 : RR zz5 (zz11 0) := by
  have e : ∀ {r f i j : Nat}, r ≠ 4 → j ≠ 5 → j ≠ 6 → j ≠ 7 → zz5 r f i = zz11 0 j := fun h1 h2 h3 h4 => (zz5_0 h1).trans (z11_0 h2 h3 h4).symm
  have em : ∀ {r f i j : Nat}, r ≠ 4 → j ≠ 5 → j ≠ 6 → j ≠ 7 → zz5 r f i = mp (zz11 0 j) := fun h1 h2 h3 h4 => by rw [zz5_0 h1, z11_0 h2 h3 h4, mp0]
  refine ⟨⟨rfl, rfl, rfl, rfl, rfl, fun i hi => by rcases (show i = 0 ∨ i = 1 ∨ i = 2 by omega) with rfl | rfl | rfl <;> rfl⟩, ⟨?_, ?_, ?_, ?_⟩, ⟨?_, ?_, ?_, ?_, ?_, ?_⟩, ⟨?_, ?_, ?_, ?_, ?_, ?_, ?_, ?_, ?_⟩, ⟨?_, ?_, ?_⟩⟩
  all_goals intro k hk
  all_goals first
    | exact e (by decide) (by omega) (by omega) (by omega)
    | exact em (by decide) (by omega) (by omega) (by omega)
    | exact Or.inr (Or.inr (by rw [z11_0 (by decide) (by decide) (by decide)]; exact nI_le (a := 0) (Nat.zero_le k) (by omega)))
theorem rel0 : Rel zz10 zz11 :=
  ⟨⟨ok0, rr0⟩, rfl, ⟨0, 0, rfl, by decide, by decide, rfl, rfl, fun i h => absurd h (Nat.not_lt_zero _)⟩, Or.inl ⟨rfl, rfl⟩, 0, by decide, rfl, rfl, fun k h => absurd h (Nat.not_lt_zero _)⟩
