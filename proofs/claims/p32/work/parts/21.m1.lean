/-! MATH 1: the relation of the two states of a road -/
def pc (m : Nat) : Nat := m % 2 + m / 2 % 2 + m / 4 % 2 + m / 8 % 2 + m / 16 % 2 + m / 32 % 2
/-- what holds of a rider's numbers -/
def RD (g : T1) (nb k : Nat) : Prop := (g (128 + 9 * k + 2) = -4 ∨ ∃ j, j < nb ∧ g (128 + 9 * k + 2) = nI j) ∧ (∃ u, g (128 + 9 * k + 1) = nI u ∧ u ≤ 20000) ∧ (∃ b, g (128 + 9 * k + 3) = nI b ∧ b ≤ 9000) ∧ (∃ m f, g (128 + 9 * k + 6) = nI m ∧ m < 64 ∧ g (128 + 9 * k + 4) = nI f ∧ f ≤ 99 + 15 * pc m) ∧ (g (128 + 9 * k + 5) = 0 ∨ g (128 + 9 * k + 5) = 1)
theorem RD_congr {g g' : T1} {nb k : Nat} (h : ∀ w, w < 9 → g' (128 + 9 * k + w) = g (128 + 9 * k + w)) (hr : RD g nb k) : RD g' nb k := by
  unfold RD
  rw [h 1 (by omega), h 2 (by omega), h 3 (by omega), h 4 (by omega), h 5 (by omega), h 6 (by omega)]
  exact hr
/-- the reference's row of numbers, as it stands between calls -/
def IG (g : T1) (ns nb nr nv : Nat) : Prop :=
  (g 0 = nI ns ∧ g 1 = nI nb ∧ g 2 = nI nr ∧ g 3 = nI nv ∧ ns ≤ 6 ∧ nb ≤ 16 ∧ nr ≤ 8 ∧ nv ≤ 2) ∧
  (∃ t, g 4 = nI t ∧ t ≤ 9000) ∧
  ((∃ a, g 5 = nI a ∧ a ≤ 99) ∧ (∃ a, g 6 = nI a ∧ 1 ≤ a ∧ a ≤ 999) ∧ (∃ a, g 7 = nI a ∧ a ≤ 999)) ∧
  (∀ k, k < ns → ∃ x, g (8 + 4 * k) = nI x ∧ x ≤ 99) ∧
  (∀ k, k < ns → ∃ d, g (8 + 4 * k + 1) = nI d ∧ 1 ≤ d ∧ d ≤ 8 ∧ cw g 0 (nI k) nb ≤ d) ∧
  (∀ k, k < nb → ((g (32 + 6 * k) = 0 ∧ ∃ j, j < ns ∧ g (32 + 6 * k + 1) = nI j) ∨ (g (32 + 6 * k) = 1 ∧ ∃ j, j < nr ∧ g (32 + 6 * k + 1) = nI j) ∨ (g (32 + 6 * k) = 2 ∧ ∃ j, j < nv ∧ g (32 + 6 * k + 1) = nI j) ∨ (g (32 + 6 * k) = 3 ∧ g (32 + 6 * k + 1) = -4)) ∧ (g (32 + 6 * k + 3) = 0 ∨ g (32 + 6 * k + 3) = 1)) ∧
  (∀ k, k < nr → RD g nb k) ∧
  (∀ k, k < nv → (∃ j, j < ns ∧ g (200 + 3 * k) = nI j) ∧ ∃ m, g (200 + 3 * k + 1) = nI m ∧ m ≤ 6 ∧ cw g 2 (nI k) nb ≤ m) ∧
  ((∀ k, ns ≤ k → k < 6 → g (8 + 4 * k + 2) = 0 ∧ g (8 + 4 * k + 3) = 0) ∧
  (∀ k, nb ≤ k → k < 16 → g (32 + 6 * k) = 0 ∧ g (32 + 6 * k + 1) = 0 ∧ g (32 + 6 * k + 2) = 0 ∧ g (32 + 6 * k + 3) = 0 ∧ g (32 + 6 * k + 4) = 0 ∧ g (32 + 6 * k + 5) = 0) ∧
  (∀ k, nr ≤ k → k < 8 → g (128 + 9 * k) = 0 ∧ g (128 + 9 * k + 1) = 0 ∧ g (128 + 9 * k + 2) = 0 ∧ g (128 + 9 * k + 3) = 0 ∧ g (128 + 9 * k + 4) = 0 ∧ g (128 + 9 * k + 5) = 0 ∧ g (128 + 9 * k + 6) = 0 ∧ g (128 + 9 * k + 7) = 0 ∧ g (128 + 9 * k + 8) = 0) ∧
  (∀ k, k < 2 → (nv ≤ k → g (200 + 3 * k + 2) = 0) ∧ ∃ a, g (200 + 3 * k + 2) = nI a ∧ a ≤ 20000))
def OK (g : T1) : Prop := ∃ ns nb nr nv, IG g ns nb nr nv
/-- -4 there is -1 here -/
def mp (x : Int32) : Int32 := if x = -4 then -1 else x
def RR (p : T3) (g : T1) : Prop :=
  (p 0 4 0 = g 0 ∧ p 1 6 0 = g 1 ∧ p 2 9 0 = g 2 ∧ p 3 3 0 = g 3 ∧ p 4 1 0 = g 4 ∧ (∀ i, i < 3 → p 4 0 i = g (5 + i))) ∧
  ((∀ k, k < 6 → p 0 0 k = g (8 + 4 * k)) ∧ (∀ k, k < 6 → p 0 1 k = g (8 + 4 * k + 1)) ∧ (∀ k, k < 6 → p 0 2 k = g (8 + 4 * k + 2)) ∧ (∀ k, k < 6 → p 0 3 k = g (8 + 4 * k + 3))) ∧
  ((∀ k, k < 16 → p 1 0 k = g (32 + 6 * k)) ∧ (∀ k, k < 16 → p 1 1 k = mp (g (32 + 6 * k + 1))) ∧ (∀ k, k < 16 → p 1 2 k = g (32 + 6 * k + 2)) ∧ (∀ k, k < 16 → p 1 3 k = g (32 + 6 * k + 3)) ∧ (∀ k, k < 16 → p 1 4 k = g (32 + 6 * k + 4)) ∧ (∀ k, k < 16 → p 1 5 k = g (32 + 6 * k + 5))) ∧
  ((∀ k, k < 8 → p 2 0 k = g (128 + 9 * k)) ∧ (∀ k, k < 8 → p 2 1 k = g (128 + 9 * k + 1)) ∧ (∀ k, k < 8 → p 2 2 k = g (128 + 9 * k + 8)) ∧ (∀ k, k < 8 → p 2 3 k = g (128 + 9 * k + 7)) ∧ (∀ k, k < 8 → p 2 4 k = mp (g (128 + 9 * k + 2))) ∧ (∀ k, k < 8 → p 2 5 k = g (128 + 9 * k + 3)) ∧ (∀ k, k < 8 → p 2 6 k = g (128 + 9 * k + 4)) ∧ (∀ k, k < 8 → p 2 4 k = -1 ∨ p 2 7 k = 1 - g (128 + 9 * k + 5) ∨ g 2 ≤ nI k) ∧ (∀ k, k < 8 → p 2 8 k = g (128 + 9 * k + 6))) ∧
  ((∀ k, k < 2 → p 3 0 k = g (200 + 3 * k)) ∧ (∀ k, k < 2 → p 3 1 k = g (200 + 3 * k + 1)) ∧ (∀ k, k < 2 → p 3 2 k = g (200 + 3 * k + 2)))
/-- 'changes' of the reference, with what it leaves as it was -/
def CH (σ σc : T2) : Prop := fX11_changes σ = some σc ∧ σc 0 = σ 0
/-- one change on both sides: the same answer; if it is no error, the states stay related -/
def OPR (g : T1) (X : Option (Int32 × T3)) (M : T2 → Option (Int32 × T2)) : Prop :=
  ∃ (r : Int32) (p' : T3) (g' : T1), X = some (r, p') ∧ (∀ σ σc : T2, σ 0 = g → CH σ σc → M σ = some (r, if r < 0 then σ else sU σc 0 g')) ∧ (¬ r < 0 → OK g' ∧ RR p' g')
theorem opr_e {g : T1} {X : Option (Int32 × T3)} {M : T2 → Option (Int32 × T2)} (r : Int32) (hr : r < 0) {p' : T3} (h1 : X = some (r, p')) (h2 : ∀ σ σc : T2, σ 0 = g → CH σ σc → M σ = some (r, σ)) : OPR g X M :=
  ⟨r, p', g, h1, fun σ σc h3 h4 => by rw [if_pos hr]; exact h2 σ σc h3 h4, fun h => absurd hr h⟩
theorem opr_o {g : T1} {X : Option (Int32 × T3)} {M : T2 → Option (Int32 × T2)} (r : Int32) (g' : T1) (hr : ¬ r < 0) {p' : T3} (h1 : X = some (r, p')) (h2 : ∀ σ σc : T2, σ 0 = g → CH σ σc → M σ = some (r, sU σc 0 g')) (h3 : OK g') (h4 : RR p' g') : OPR g X M :=
  ⟨r, p', g', h1, fun σ σc h5 h6 => by rw [if_neg hr]; exact h2 σ σc h5 h6, fun _ => ⟨h3, h4⟩⟩
theorem cw_congr {g g' : T1} {st wh : Int32} : ∀ (n : Nat), (∀ k, k < n → g' (32 + 6 * k) = g (32 + 6 * k) ∧ g' (32 + 6 * k + 1) = g (32 + 6 * k + 1)) → cw g' st wh n = cw g st wh n
  | 0, _ => rfl
  | n + 1, h => by
    obtain ⟨h1, h2⟩ := h n (by omega)
    rw [cw, cw, cw_congr n (fun k hk => h k (by omega)), h1, h2]
/-- one bicycle put elsewhere -/
theorem cw_put {g g' : T1} {st wh : Int32} {b : Nat} : ∀ (n : Nat), b < n → (∀ k, k < n → k ≠ b → g' (32 + 6 * k) = g (32 + 6 * k) ∧ g' (32 + 6 * k + 1) = g (32 + 6 * k + 1)) → cw g' st wh n + (if g (32 + 6 * b) = st ∧ g (32 + 6 * b + 1) = wh then 1 else 0) = cw g st wh n + (if g' (32 + 6 * b) = st ∧ g' (32 + 6 * b + 1) = wh then 1 else 0)
  | 0, hb, _ => absurd hb (Nat.not_lt_zero _)
  | n + 1, hb, h => by
    rw [cw, cw]
    by_cases e : b = n
    · subst e
      rw [cw_congr b (fun k hk => h k (by omega) (by omega))]
      omega
    · have := cw_put (st := st) (wh := wh) n (by omega) (fun k hk hne => h k (by omega) hne)
      obtain ⟨h1, h2⟩ := h n (by omega) (by omega)
      rw [h1, h2]
      omega
theorem cw_put_le {g g' : T1} {st wh : Int32} {b n : Nat} (hb : b < n) (h : ∀ k, k < n → k ≠ b → g' (32 + 6 * k) = g (32 + 6 * k) ∧ g' (32 + 6 * k + 1) = g (32 + 6 * k + 1)) : cw g' st wh n ≤ cw g st wh n + (if g' (32 + 6 * b) = st ∧ g' (32 + 6 * b + 1) = wh then 1 else 0) := by
  have := cw_put (st := st) (wh := wh) n hb h
  omega
/-- how many bicycles are in a state somewhere, as the class counts -/
theorem X_countAt_lp {B : T2} {g : T1} {st wh : Int32} {nb : Nat} (hb : B 6 0 = nI nb) (h16 : nb ≤ 16) (h0 : ∀ k, k < 16 → B 0 k = g (32 + 6 * k)) (h1 : ∀ k, k < nb → g (32 + 6 * k) = st → (B 1 k = wh ↔ g (32 + 6 * k + 1) = wh)) : ∀ (n j : Nat) (acc : Int32), j ≤ nb → nb - j < n → acc = nI (cw g st wh j) → fX1_countAt_5 B st wh n acc (nI j) = some (nI (cw g st wh nb)) := by
  intro n
  induction n with
  | zero => intro j acc h1 h2; omega
  | succ n ih =>
    intro j acc hj1 hj2 hj3
    rw [fX1_countAt_5, hb]
    by_cases hj : j = nb
    · subst hj
      rw [if_pos (nI_le (Nat.le_refl _) (by omega)), hj3]
    · rw [if_neg (nI_ge (by omega) (by omega)), gi_nI (by omega) (by decide), cl_nI (by omega), h0 j (by omega)]
      by_cases c1 : g (32 + 6 * j) = st
      · rw [if_pos c1, gi_nI (by omega) (by decide)]
        by_cases c2 : g (32 + 6 * j + 1) = wh
        · rw [if_pos ((h1 j (by omega) c1).mpr c2)]
          unfold fX1_countAt_39
          rw [nI_1]
          refine ih (j + 1) _ (by omega) (by omega) ?_
          rw [hj3, cw, if_pos ⟨c1, c2⟩, nI_1]
        · rw [if_neg (fun h => c2 ((h1 j (by omega) c1).mp h))]
          unfold fX1_countAt_39
          rw [nI_1]
          refine ih (j + 1) _ (by omega) (by omega) ?_
          rw [hj3, cw, if_neg (fun h => c2 h.2), Nat.add_zero]
      · rw [if_neg c1]
        unfold fX1_countAt_39
        rw [nI_1]
        refine ih (j + 1) _ (by omega) (by omega) ?_
        rw [hj3, cw, if_neg (fun h => c1 h.1), Nat.add_zero]
theorem mp_nI {x : Int32} {k : Nat} (hk : k < 1000) : mp x = nI k ↔ x = nI k := by
  unfold mp
  by_cases h : x = -4
  · rw [if_pos h, h]
    have h1 : ∀ (y : Int32), y < 0 → y = nI k → False := fun y hy e => nI_pos (n := k) (by omega) (by rw [← e]; exact hy)
    exact ⟨fun e => (h1 _ (by decide) e).elim, fun e => (h1 _ (by decide) e).elim⟩
  · rw [if_neg h]
theorem X_countAt {p : T3} {g : T1} {ns nb nr nv k : Nat} (hI : IG g ns nb nr nv) (hR : RR p g) (st : Int32) (hk : k < 1000) : fX1_countAt (p 1) st (nI k) = some (nI (cw g st (nI k) nb)) := by
  obtain ⟨⟨-, hb, -, -, -, h16, -, -⟩, -⟩ := hI
  obtain ⟨⟨-, r1, -⟩, -, ⟨b0, b1, -⟩, -⟩ := hR
  unfold fX1_countAt
  rw [zl0]
  refine X_countAt_lp (r1.trans hb) h16 b0 (fun j hj _ => ?_) fuel 0 _ (by omega) (by unfold fuel; omega) rfl
  rw [b1 j (by omega)]
  exact mp_nI hk
theorem X_docked {p : T3} {g : T1} {ns nb nr nv k : Nat} (hI : IG g ns nb nr nv) (hR : RR p g) (hk : k < 1000) : fX5_docked p (nI k) = some (nI (cw g 0 (nI k) nb)) := by
  unfold fX5_docked
  rw [X_countAt hI hR 0 hk, bd_s]
theorem X6_has {p : T3} {g : T1} {ns nb nr nv : Nat} (hI : IG g ns nb nr nv) (hR : RR p g) (q : Int32) : fX6_has (p 0) q = hs q ns := by
  obtain ⟨⟨h, -⟩, -⟩ := hI
  obtain ⟨⟨r, -⟩, -⟩ := hR
  unfold fX6_has hs
  rw [r, h]
theorem X1_has {p : T3} {g : T1} {ns nb nr nv : Nat} (hI : IG g ns nb nr nv) (hR : RR p g) (q : Int32) : fX1_has (p 1) q = hs q nb := by
  obtain ⟨⟨-, h, -⟩, -⟩ := hI
  obtain ⟨⟨-, r, -⟩, -⟩ := hR
  unfold fX1_has hs
  rw [r, h]
theorem X4_has {p : T3} {g : T1} {ns nb nr nv : Nat} (hI : IG g ns nb nr nv) (hR : RR p g) (q : Int32) : fX4_has (p 2) q = hs q nr := by
  obtain ⟨⟨-, -, h, -⟩, -⟩ := hI
  obtain ⟨⟨-, -, r, -⟩, -⟩ := hR
  unfold fX4_has hs
  rw [r, h]
theorem X8_has {p : T3} {g : T1} {ns nb nr nv : Nat} (hI : IG g ns nb nr nv) (hR : RR p g) (q : Int32) : fX8_has (p 3) q = hs q nv := by
  obtain ⟨⟨-, -, -, h, -⟩, -⟩ := hI
  obtain ⟨⟨-, -, -, r, -⟩, -⟩ := hR
  unfold fX8_has hs
  rw [r, h]
/-- 1 if a dock is free -/
def fr (g : T1) (nb k : Nat) : Int32 := if g (8 + 4 * k + 1) ≤ nI (cw g 0 (nI k) nb) then 0 else 1
theorem X_free {p : T3} {g : T1} {ns nb nr nv k : Nat} (hI : IG g ns nb nr nv) (hR : RR p g) (hk : k < ns) : fX5_hasFreeDock p (nI k) = some (fr g nb k) := by
  have h6 : ns ≤ 6 := hI.1.2.2.2.2.1
  unfold fX5_hasFreeDock
  rw [X6_has hI hR, hs_t hk (by omega), bd_s, if_neg ne10, X_docked hI hR (by omega), bd_s, gi_nI (by omega) (by decide), cl_nI (by omega), hR.2.1.2.1 k (by omega)]
  unfold fr
  split <;> rfl
theorem M_free {σ : T2} {ns nb nr nv k : Nat} (hI : IG (σ 0) ns nb nr nv) (hk : k < ns) : fX11_isFree σ (nI k) = some (fr (σ 0) nb k) := by
  have h6 : ns ≤ 6 := hI.1.2.2.2.2.1
  rw [M_isFree hI.1.2.1 hI.1.2.2.2.2.2.1 (by omega)]
  unfold fr
  split <;> rfl
theorem fr_1 {g : T1} {ns nb nr nv k : Nat} (hI : IG g ns nb nr nv) (hk : k < ns) (h : ¬ fr g nb k = 0) : ∃ d, g (8 + 4 * k + 1) = nI d ∧ 1 ≤ d ∧ d ≤ 8 ∧ cw g 0 (nI k) nb < d := by
  obtain ⟨d, h1, h2, h3, h4⟩ := hI.2.2.2.2.1 k hk
  refine ⟨d, h1, h2, h3, ?_⟩
  unfold fr at h
  rw [h1] at h
  by_cases c : nI d ≤ nI (cw g 0 (nI k) nb)
  · rw [if_pos c] at h; exact absurd rfl h
  · rw [nI_leI (by omega) (by have := cw_le g 0 (nI k) nb; have := hI.1.2.2.2.2.2.1; omega)] at c
    omega
