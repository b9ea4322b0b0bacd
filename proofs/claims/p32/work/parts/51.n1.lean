/-! LAW 1: the law's small functions -/
section L1
variable {G P B D R Q V g : T1} {ns nb nr nv : Nat}
theorem L_docked_lp (h : LR G P B D R Q V g) (hb : g 1 = nI nb) (h16 : nb ≤ 16) (p : Int32) : ∀ (n j : Nat) (acc : Int32), j ≤ nb → nb - j < n → acc = nI (cw g 0 p j) → fL_docked_5 G B p n acc (nI j) = some (nI (cw g 0 p nb)) := by
  intro n
  induction n with
  | zero => intro j acc h1 h2; omega
  | succ n ih =>
    intro j acc hj1 hj2 hj3
    rw [fL_docked_5, ct1, h.G1, hb]
    by_cases hj : j = nb
    · subst hj
      rw [if_pos (nI_le (Nat.le_refl _) (by omega)), hj3]
    · have st : ∀ t : Nat, t = (if g (32 + 6 * j) = 0 ∧ g (32 + 6 * j + 1) = p then 1 else 0) → fL_docked_40 (fL_docked_5 G B p n) G B p (nI j) acc (nI t) = some (nI (cw g 0 p nb)) := fun t ht => by
        unfold fL_docked_40
        rw [nI_1]
        exact ih (j + 1) _ (by omega) (by omega) (by rw [hj3, nI_add, cw, ht])
      rw [if_neg (nI_ge (by omega) (by omega)), mu3, gi_nI (by omega) (by decide), cl_nI (by omega), h.B0 (by omega)]
      by_cases c1 : g (32 + 6 * j) = 0
      · rw [if_pos c1, nI_1, gi_nI (by omega) (by decide), cl_nI (by omega), h.B1 (by omega)]
        by_cases c2 : g (32 + 6 * j + 1) = p
        · rw [if_pos c2]
          exact st 1 (by rw [if_pos ⟨c1, c2⟩])
        · rw [if_neg c2]
          exact st 0 (by rw [if_neg (fun q => c2 q.2)])
      · rw [if_neg c1]
        exact st 0 (by rw [if_neg (fun q => c1 q.1)])
theorem L_docked (h : LR G P B D R Q V g) (hb : g 1 = nI nb) (h16 : nb ≤ 16) (p : Int32) : fL_docked G B p = some (nI (cw g 0 p nb)) := L_docked_lp h hb h16 p fuel 0 _ (by omega) (by unfold fuel; omega) rfl
theorem L_carried_lp (h : LR G P B D R Q V g) (hb : g 1 = nI nb) (h16 : nb ≤ 16) (p : Int32) : ∀ (n j : Nat) (acc : Int32), j ≤ nb → nb - j < n → acc = nI (cw g 2 p j) → fL_carried_5 G B p n acc (nI j) = some (nI (cw g 2 p nb)) := by
  intro n
  induction n with
  | zero => intro j acc h1 h2; omega
  | succ n ih =>
    intro j acc hj1 hj2 hj3
    rw [fL_carried_5, ct1, h.G1, hb]
    by_cases hj : j = nb
    · subst hj
      rw [if_pos (nI_le (Nat.le_refl _) (by omega)), hj3]
    · have st : ∀ t : Nat, t = (if g (32 + 6 * j) = 2 ∧ g (32 + 6 * j + 1) = p then 1 else 0) → fL_carried_41 (fL_carried_5 G B p n) G B p (nI j) acc (nI t) = some (nI (cw g 2 p nb)) := fun t ht => by
        unfold fL_carried_41
        rw [nI_1]
        exact ih (j + 1) _ (by omega) (by omega) (by rw [hj3, nI_add, cw, ht])
      rw [if_neg (nI_ge (by omega) (by omega)), mu3, gi_nI (by omega) (by decide), cl_nI (by omega), h.B0 (by omega)]
      by_cases c1 : g (32 + 6 * j) = 2
      · rw [if_pos c1, nI_1, gi_nI (by omega) (by decide), cl_nI (by omega), h.B1 (by omega)]
        by_cases c2 : g (32 + 6 * j + 1) = p
        · rw [if_pos c2]
          exact st 1 (by rw [if_pos ⟨c1, c2⟩])
        · rw [if_neg c2]
          exact st 0 (by rw [if_neg (fun q => c2 q.2)])
      · rw [if_neg c1]
        exact st 0 (by rw [if_neg (fun q => c1 q.1)])
theorem L_carried (h : LR G P B D R Q V g) (hb : g 1 = nI nb) (h16 : nb ≤ 16) (p : Int32) : fL_carried G B p = some (nI (cw g 2 p nb)) := L_carried_lp h hb h16 p fuel 0 _ (by omega) (by unfold fuel; omega) rfl
theorem L_free (h : LR G P B D R Q V g) (hI : IG g ns nb nr nv) {k : Nat} (hk : k < ns) : fL_free G P B (nI k) = some (fr g nb k) := by
  have h6 : ns ≤ 6 := hI.1.2.2.2.2.1
  rw [fL_free, L_docked h hI.1.2.1 hI.1.2.2.2.2.2.1, bd_s, mu4, nI_1, gi_nI (by omega) (by decide), cl_nI (by omega), h.P1 (by omega)]
  unfold fr
  split <;> rfl
theorem L_way (h : LR G P B D R Q V g) {a b x y : Nat} (ha : a < 6) (hb : b < 6) (h1 : g (8 + 4 * a) = nI x) (h2 : g (8 + 4 * b) = nI y) (hx : x ≤ 99) (hy : y ≤ 99) : fL_way P (nI a) (nI b) = some (nI (if y ≤ x then x - y else y - x)) := by
  rw [fL_way, mu4, mu4]
  simp (disch := omega) only [gi_nI, cl_nI]
  rw [h.P0 ha, h.P0 hb, h1, h2]
  by_cases c : x ≤ y
  · rw [if_pos (nI_le c (by omega)), pk_sub c]
    by_cases e : y ≤ x
    · rw [if_pos e, show y - x = x - y by omega]
    · rw [if_neg e]
  · rw [if_neg (nI_ge (by omega) (by omega)), pk_sub (by omega), if_pos (by omega)]
theorem L_fee_lp {r : Int32} : ∀ (n m : Nat) (acc : Int32), m + 4 < 5 * n → m < 2 ^ 30 → fL_fee_37 G R Q r n acc (nI m) = some (acc + nI ((m + 4) / 5)) := by
  intro n
  induction n with
  | zero => intro m acc h1; omega
  | succ n ih =>
    intro m acc h1 h2
    rw [fL_fee_37]
    by_cases c : m = 0
    · subst c
      rw [if_pos (by decide)]
      exact congrArg some (Int32.add_zero acc).symm
    · rw [if_neg (nI_nle (by omega) (by omega)), ← Int32.sub_eq_add_neg]
      by_cases c2 : 5 ≤ m
      · rw [show nI m - 5 = nI (m - 5) from pk_sub (b := 5) c2, ih (m - 5) _ (by omega) (by omega), Int32.add_assoc, show (1 : Int32) + nI ((m - 5 + 4) / 5) = nI (1 + (m - 5 + 4) / 5) from nI_add 1 _]
        rw [show 1 + (m - 5 + 4) / 5 = (m + 4) / 5 by omega]
      · have hn : nI m - 5 ≤ 0 := Int32.le_of_lt (pk_sneg (a := m) (b := 5) (by decide) (by omega))
        cases n with
        | zero => omega
        | succ n =>
          rw [fL_fee_37, if_pos hn, show (m + 4) / 5 = 1 by omega]
          rfl
theorem L_fee (h : LR G P B D R Q V g) (hI : IG g ns nb nr nv) {k F : Nat} (hk : k < nr) (hF : ∀ σ : T2, σ 0 = g → fX11_fee σ (nI k) = some (nI F)) : fL_fee G R Q (nI k) = some (nI F) := by
  obtain ⟨⟨h0, h1, h2, h3, hs6, hb16, hr8, hv2⟩, ⟨tm, h4, ht⟩, ⟨⟨t5, h5, ht5⟩, ⟨t6, h6, ht6, ht6b⟩, ⟨t7, h7, ht7⟩⟩, hpl, hdk, hbc, hrd, hvn, hzS, hzB, hzR, hzV⟩ := id hI
  obtain ⟨q1, q2, ⟨b, hb, hb2⟩, ⟨m, f, hm, hm2, hf, hf2⟩, q5⟩ := id (hrd k hk)
  have hpc := pc_le m hm2
  have e := hF (fun _ => g) rfl
  rw [fX11_fee, M_ofR3 (by omega), bd_s, M_ofR4 (by omega), bd_s, ct4, hb, hf, h4] at e
  have e0 : ∀ t, fX11_fee_34 (fun _ => g) (nI k) t = some (t + (1 - g (128 + 9 * k + 5))) := fun t => by
    rw [fX11_fee_34, M_ofR5 (by omega), bd_s, Int32.sub_eq_add_neg, Int32.sub_eq_add_neg, Int32.add_assoc]
  rw [bn_s, e0, e0] at e
  have key : ∀ t0 : Int32, t0 = 1 - g (128 + 9 * k + 5) → fL_fee_14 G R Q (nI k) t0 = some (nI F) := fun t0 ht0 => by
    unfold fL_fee_14
    rw [mu5, pl3, pl4, gi_nI (by omega) (by decide), gi_nI (by omega) (by decide), ct4, cl_nI (by omega), cl_nI (by omega), h.G4, h.R3 (by omega), h.R4 (by omega), hb, hf, h4, bn_s, ← e]
    by_cases c : nI tm - nI b - nI f ≤ 0
    · rw [if_pos c, ← ht0, Int32.zero_add]
      show fL_fee_37 G R Q (nI k) (4095 + 1) t0 _ = _
      rw [fL_fee_37, if_pos c]
    · have hle : b + f < tm := by
        refine Nat.not_le.mp (fun q => c ?_)
        by_cases c3 : b ≤ tm
        · rw [pk_sub c3]
          by_cases c4 : f = tm - b
          · rw [c4, Int32.sub_self]; decide
          · exact Int32.le_of_lt (pk_sneg (by omega) (by omega))
        · rw [Int32.sub_sub, nI_add]
          exact Int32.le_of_lt (pk_sneg (by omega) (by omega))
      rw [if_neg c, pk_sub (by omega), pk_sub (by omega), ← ht0]
      rw [L_fee_lp fuel (tm - b - f) t0 (by unfold fuel; omega) (by omega), show nI (tm - b - f) + 4 = nI (tm - b - f + 4) from nI_add _ 4, show (5 : Int32) = nI 5 from rfl, pk_div (by omega) (by decide) (by decide), Int32.add_comm]
  rw [fL_fee, mu4, gi_nI (by omega) (by decide), cl_nI (by omega), h.Q0 (by omega)]
  rcases q5 with q | q
  · rw [q, if_neg (by decide)]
    exact key 1 (by rw [q]; rfl)
  · rw [q, if_pos rfl]
    exact key 0 (by rw [q]; rfl)
end L1
