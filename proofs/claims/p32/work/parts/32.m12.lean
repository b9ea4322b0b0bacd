/-! MATH 12: the relation of the whole states; changes, keep, restore, undo -/
/-- the two histories -/
def HR (y : T4) (σ1 : T1) (n o : Nat) : Prop := n ≤ 4 ∧ o < 4 ∧ y 4 0 0 0 = nI n ∧ y 4 0 0 1 = nI o ∧ ∀ i, i < n → OK (fun k => σ1 (206 * i + k)) ∧ RR (y ((o + i) % 4)) (fun k => σ1 (206 * i + k))
def Rel (x : T5) (σ : T2) : Prop :=
  (OK (σ 0) ∧ RR (x 1 0) (σ 0)) ∧ σ 6 2 = 0 ∧ (∃ n o, σ 6 1 = nI n ∧ HR (x 0) (σ 1) n o) ∧
  ((σ 6 0 = 0 ∧ x 1 3 2 0 0 = 0) ∨ (σ 6 0 = 1 ∧ x 1 3 2 0 0 = 1 ∧ OK (σ 3) ∧ RR (x 1 2) (σ 3))) ∧
  (∃ tl, tl ≤ 60 ∧ σ 6 3 = nI tl ∧ x 1 3 1 2 0 = nI tl ∧ ∀ k, k < tl → x 1 3 1 0 k = σ 4 k ∧ ∃ c, σ 4 k = nI c ∧ 32 ≤ c ∧ c ≤ 126)
theorem mod_e {a : Nat} (ha : a < 2 ^ 31) : nI a - nI a / 4 * 4 = nI (a % 4) := pk_rem (d := 4) ha (by decide) (by decide)
theorem X_rec30 {y : T4} {p : T3} {g : T1} {m o : Nat} (h0 : y 4 0 0 0 = nI m) (h1 : y 4 0 0 1 = nI o) (hm : m ≤ 3) (ho : o < 4) (hR : RR p g) : ∃ y', fX3_record_30 p y = some y' ∧ y' 4 0 0 0 = nI (m + 1) ∧ y' 4 0 0 1 = nI o ∧ (∀ k, k < 4 → k ≠ (o + m) % 4 → y' k = y k) ∧ RR (y' ((o + m) % 4)) g := by
  obtain ⟨s, hs⟩ : ∃ s, s = (o + m) % 4 := ⟨_, rfl⟩
  have hs4 : s < 4 := by omega
  unfold fX3_record_30
  rw [h0, h1, nI_add, mod_e (by omega), ← hs, gi_nI hs4 (by decide), cl_nI (by omega)]
  obtain ⟨u, e1, e2⟩ := X_copy (y s) hR
  rcases (show s = 0 ∨ s = 1 ∨ s = 2 ∨ s = 3 by omega) with rfl | rfl | rfl | rfl
  · refine ⟨sU (sU y 0 u) 4 (sU (y 4) 0 (sU (y 4 0) 0 (sU (y 4 0 0) 0 (nI (m + 1))))), ?_, ?_, ?_, fun k hk hne => ?_, ?_⟩
    · rw [if_pos rfl, e1, bd_s]
      simp (disch := omega) only [bn_s, sU_n, h0, nI_1]
    · simp (disch := omega) only [sU_s, sU_n]
    · simp (disch := omega) only [sU_s, sU_n]; exact h1
    · simp (disch := omega) only [sU_s, sU_n]
    · simp (disch := omega) only [sU_s, sU_n]; exact e2
  · refine ⟨sU (sU y 1 u) 4 (sU (y 4) 0 (sU (y 4 0) 0 (sU (y 4 0 0) 0 (nI (m + 1))))), ?_, ?_, ?_, fun k hk hne => ?_, ?_⟩
    · rw [if_neg (by decide), if_pos rfl, e1, bd_s]
      simp (disch := omega) only [bn_s, sU_n, h0, nI_1]
    · simp (disch := omega) only [sU_s, sU_n]
    · simp (disch := omega) only [sU_s, sU_n]; exact h1
    · simp (disch := omega) only [sU_s, sU_n]
    · simp (disch := omega) only [sU_s, sU_n]; exact e2
  · refine ⟨sU (sU y 2 u) 4 (sU (y 4) 0 (sU (y 4 0) 0 (sU (y 4 0 0) 0 (nI (m + 1))))), ?_, ?_, ?_, fun k hk hne => ?_, ?_⟩
    · rw [if_neg (by decide), if_neg (by decide), if_pos rfl, e1, bd_s]
      simp (disch := omega) only [bn_s, sU_n, h0, nI_1]
    · simp (disch := omega) only [sU_s, sU_n]
    · simp (disch := omega) only [sU_s, sU_n]; exact h1
    · simp (disch := omega) only [sU_s, sU_n]
    · simp (disch := omega) only [sU_s, sU_n]; exact e2
  · refine ⟨sU (sU y 3 u) 4 (sU (y 4) 0 (sU (y 4 0) 0 (sU (y 4 0 0) 0 (nI (m + 1))))), ?_, ?_, ?_, fun k hk hne => ?_, ?_⟩
    · rw [if_neg (by decide), if_neg (by decide), if_neg (by decide), e1, bd_s]
      simp (disch := omega) only [bn_s, sU_n, h0, nI_1]
    · simp (disch := omega) only [sU_s, sU_n]
    · simp (disch := omega) only [sU_s, sU_n]; exact h1
    · simp (disch := omega) only [sU_s, sU_n]
    · simp (disch := omega) only [sU_s, sU_n]; exact e2
theorem X_record {y : T4} {p : T3} {g : T1} {n o : Nat} (h0 : y 4 0 0 0 = nI n) (h1 : y 4 0 0 1 = nI o) (hn : n ≤ 4) (ho : o < 4) (hR : RR p g) : ∃ y' o', fX3_record y p = some y' ∧ o' < 4 ∧ y' 4 0 0 0 = nI (nx n) ∧ y' 4 0 0 1 = nI o' ∧ (∀ i, i + 1 < nx n → y' ((o' + i) % 4) = y ((o + (if n = 4 then i + 1 else i)) % 4)) ∧ RR (y' ((o' + (nx n - 1)) % 4)) g := by
  unfold nx
  rw [fX3_record]
  by_cases e : n = 4
  · subst e
    rw [if_pos (show y 4 0 0 0 = 4 from h0), if_pos rfl]
    simp (disch := omega) only [bn_s, sU_s, sU_n, sU_sU, h0, h1, nI_1, mod_e]
    obtain ⟨y', e1, e2, e3, e4, e5⟩ := X_rec30 (y := sU y 4 (sU (y 4) 0 (sU (y 4 0) 0 (sU (sU (y 4 0 0) 1 (nI ((o + 1) % 4))) 0 (nI 4 - 1))))) (m := 3) (o := (o + 1) % 4) (by simp (disch := omega) only [sU_s, sU_n]; exact nI_pred 3) (by simp (disch := omega) only [sU_s, sU_n]) (by omega) (by omega) hR
    refine ⟨y', (o + 1) % 4, e1, by omega, e2, e3, fun i hi => ?_, e5⟩
    rw [e4 _ (by omega) (by omega), sU_n (by omega)]
    refine congrArg y ?_
    simp only [ite_true]
    omega
  · rw [if_neg (show ¬ y 4 0 0 0 = 4 from fun q => e ((nI_eq (a := n) (b := 4) (by omega) (by omega)).mp (h0.symm.trans q))), if_neg e]
    obtain ⟨y', e1, e2, e3, e4, e5⟩ := X_rec30 h0 h1 (by omega) ho hR
    refine ⟨y', o, e1, ho, e2, e3, fun i hi => ?_, e5⟩
    rw [e4 _ (by omega) (by omega), if_neg e]
/-- behind a change: the histories -/
theorem HR_rec {y y' : T4} {s h g : T1} {n o o' : Nat} (hH : HR y s n o) (hg : OK g) (a1 : o' < 4) (a2 : y' 4 0 0 0 = nI (nx n)) (a3 : y' 4 0 0 1 = nI o') (a4 : ∀ i, i + 1 < nx n → y' ((o' + i) % 4) = y ((o + (if n = 4 then i + 1 else i)) % 4)) (a5 : RR (y' ((o' + (nx n - 1)) % 4)) g) (b1 : ∀ i k, i + 1 < nx n → k < 206 → h (206 * i + k) = s (206 * (if n = 4 then i + 1 else i) + k)) (b2 : ∀ k, k < 206 → h (206 * (nx n - 1) + k) = g k) : HR y' h (nx n) o' := by
  obtain ⟨hn, ho, c1, c2, c3⟩ := hH
  have hx : nx n ≤ 4 := by unfold nx; split <;> omega
  refine ⟨hx, a1, a2, a3, fun i hi => ?_⟩
  by_cases e : i + 1 < nx n
  · obtain ⟨d1, d2⟩ := c3 (if n = 4 then i + 1 else i) (by unfold nx at e; split <;> (split at e <;> omega))
    refine ⟨OK_congr d1 (fun k hk => b1 i k e hk), ?_⟩
    rw [a4 i e]
    exact RR_congr d2 (fun k hk => b1 i k e hk)
  · have e2 : i = nx n - 1 := by omega
    subst e2
    exact ⟨OK_congr hg b2, RR_congr a5 b2⟩
theorem X_settle {x : T5} {r : Int32} {n o : Nat} {s h g0 g1 : T1} (hr : ¬ r < 0) (hH : HR (x 0) s n o) (hg : OK g0) (h0 : RR (x 1 0) g0) (h1 : RR (x 1 1) g1) (b1 : ∀ i k, i + 1 < nx n → k < 206 → h (206 * i + k) = s (206 * (if n = 4 then i + 1 else i) + k)) (b2 : ∀ k, k < 206 → h (206 * (nx n - 1) + k) = g0 k) : ∃ x' o', fX10_settle x r = some (r, x') ∧ HR (x' 0) h (nx n) o' ∧ RR (x' 1 0) g1 ∧ x' 1 2 = x 1 2 ∧ x' 1 3 = x 1 3 := by
  obtain ⟨y', o', e1, e2, e3, e4, e5, e6⟩ := X_record hH.2.2.1 hH.2.2.2.1 hH.1 hH.2.1 h0
  obtain ⟨u, f1, f2⟩ := X_copy (x 1 0) h1
  refine ⟨sU (sU x 0 y') 1 (sU (x 1) 0 u), o', ?_, ?_, ?_, ?_, ?_⟩
  · rw [fX10_settle, if_neg hr, e1, bd_s]
    simp (disch := omega) only [bn_s, sU_n, f1, bd_s]
  · simp (disch := omega) only [sU_s, sU_n]
    exact HR_rec hH hg e2 e3 e4 e5 e6 b1 b2
  · simp (disch := omega) only [sU_s, sU_n]; exact f2
  · simp (disch := omega) only [sU_s, sU_n]
  · simp (disch := omega) only [sU_s, sU_n]
def LIFT (x : T5) (X : Option (Int32 × T5)) (σ : T2) (M : Option (Int32 × T2)) : Prop := ∃ r x' σ', X = some (r, x') ∧ M = some (r, σ') ∧ Rel x' σ'
/-- a change of the road, on the whole states -/
theorem lift {x : T5} {σ : T2} {X : Option (Int32 × T5)} {F : T3 → Option (Int32 × T3)} {M : T2 → Option (Int32 × T2)} (hRel : Rel x σ) (h : ∀ p : T3, RR p (σ 0) → OPR (σ 0) (F p) M) (hX : X = bd (fX10_freshDraft x) (fun q2 => bd (F (q2 1 1)) (fun q7 => bn (sU q2 1 (sU (q2 1) 1 q7.2)) (fun S1_7 => bd (fX10_settle S1_7 q7.1) (fun q10 => some (q10.1, q10.2)))))) : LIFT x X σ (M σ) := by
  obtain ⟨⟨hO, hR⟩, h2, ⟨n, o, hn, hH⟩, hk, ht⟩ := hRel
  obtain ⟨u, u1, u2⟩ := X_copy (x 1 1) hR
  obtain ⟨r, p', g', e1, e2, e3⟩ := h u u2
  obtain ⟨hh, c1, c2, c3⟩ := M_changes h2 hn hH.1
  have hC : CH σ (sU (sU σ 1 hh) 6 (sU (σ 6) 1 (nI (nx n)))) := ⟨c1, by simp (disch := omega) only [sU_n]⟩
  have e4 := e2 σ _ rfl hC
  have X1 : X = bd (fX10_settle (sU x 1 (sU (x 1) 1 p')) r) (fun q10 => some (q10.1, q10.2)) := by
    rw [hX, fX10_freshDraft, u1, bd_s, bn_s, bd_s]
    simp (disch := omega) only [sU_s, sU_n, e1, bd_s, bn_s, sU_sU]
  by_cases hr : r < 0
  · refine ⟨r, sU x 1 (sU (x 1) 1 p'), σ, ?_, ?_, ?_⟩
    · rw [X1, fX10_settle, if_pos hr, bd_s]
    · rw [e4, if_pos hr]
    · refine ⟨⟨hO, ?_⟩, h2, ⟨n, o, hn, ?_⟩, ?_, ?_⟩
      · simp (disch := omega) only [sU_s, sU_n]; exact hR
      · simp (disch := omega) only [sU_s, sU_n]; exact hH
      · simp (disch := omega) only [sU_s, sU_n]; exact hk
      · simp (disch := omega) only [sU_s, sU_n]; exact ht
  · obtain ⟨hO', hR'⟩ := e3 hr
    obtain ⟨x', o', f1, f2, f3, f4, f5⟩ := X_settle (x := sU x 1 (sU (x 1) 1 p')) (r := r) (g0 := σ 0) (g1 := g') (h := hh) hr (by simp (disch := omega) only [sU_n]; exact hH) hO (by simp (disch := omega) only [sU_s, sU_n]; exact hR) (by simp (disch := omega) only [sU_s, sU_n]; exact hR') c2 c3
    refine ⟨r, x', _, ?_, e4.trans (by rw [if_neg hr]), ?_⟩
    · rw [X1, f1, bd_s]
    · refine ⟨⟨?_, ?_⟩, ?_, ⟨nx n, o', ?_, ?_⟩, ?_, ?_⟩
      · simp (disch := omega) only [sU_s, sU_n]; exact hO'
      · simp (disch := omega) only [sU_s, sU_n]; exact f3
      · simp (disch := omega) only [sU_s, sU_n]; exact h2
      · simp (disch := omega) only [sU_s, sU_n]
      · simp (disch := omega) only [sU_s, sU_n]; exact f2
      · rw [f4, f5]; simp (disch := omega) only [sU_s, sU_n]; exact hk
      · rw [f5]; simp (disch := omega) only [sU_s, sU_n]; exact ht
theorem L_station {x : T5} {σ : T2} (h : Rel x σ) (p1 p2 : Int32) : LIFT x (fX10_station x p1 p2) σ (fX11_station σ p1 p2) := lift (M := fun σ => fX11_station σ p1 p2) h (fun p hp => op_station h.1.1 hp p1 p2) rfl
theorem L_bicycle {x : T5} {σ : T2} (h : Rel x σ) (p1 : Int32) : LIFT x (fX10_bicycle x p1) σ (fX11_bicycle σ p1) := lift (M := fun σ => fX11_bicycle σ p1) h (fun p hp => op_bicycle h.1.1 hp p1) rfl
theorem L_rider {x : T5} {σ : T2} (h : Rel x σ) : LIFT x (fX10_rider x ) σ (fX11_rider σ ) := lift (M := fun σ => fX11_rider σ ) h (fun p hp => op_rider h.1.1 hp ) rfl
theorem L_van {x : T5} {σ : T2} (h : Rel x σ) (p1 p2 : Int32) : LIFT x (fX10_van x p1 p2) σ (fX11_van σ p1 p2) := lift (M := fun σ => fX11_van σ p1 p2) h (fun p hp => op_van h.1.1 hp p1 p2) rfl
theorem L_pass {x : T5} {σ : T2} (h : Rel x σ) (p1 : Int32) : LIFT x (fX10_pass x p1) σ (fX11_pass σ p1) := lift (M := fun σ => fX11_pass σ p1) h (fun p hp => op_pass h.1.1 hp p1) rfl
theorem L_rent {x : T5} {σ : T2} (h : Rel x σ) (p1 p2 : Int32) : LIFT x (fX10_rent x p1 p2) σ (fX11_rent σ p1 p2) := lift (M := fun σ => fX11_rent σ p1 p2) h (fun p hp => op_rent h.1.1 hp p1 p2) rfl
theorem L_back {x : T5} {σ : T2} (h : Rel x σ) (p1 p2 : Int32) : LIFT x (fX10_back x p1 p2) σ (fX11_back σ p1 p2) := lift (M := fun σ => fX11_back σ p1 p2) h (fun p hp => op_back h.1.1 hp p1 p2) rfl
theorem L_full {x : T5} {σ : T2} (h : Rel x σ) (p1 p2 : Int32) : LIFT x (fX10_full x p1 p2) σ (fX11_full σ p1 p2) := lift (M := fun σ => fX11_full σ p1 p2) h (fun p hp => op_full h.1.1 hp p1 p2) rfl
theorem L_report {x : T5} {σ : T2} (h : Rel x σ) (p1 : Int32) : LIFT x (fX10_report x p1) σ (fX11_report σ p1) := lift (M := fun σ => fX11_report σ p1) h (fun p hp => op_report h.1.1 hp p1) rfl
theorem L_take {x : T5} {σ : T2} (h : Rel x σ) (p1 p2 : Int32) : LIFT x (fX10_take x p1 p2) σ (fX11_take σ p1 p2) := lift (M := fun σ => fX11_take σ p1 p2) h (fun p hp => op_take h.1.1 hp p1 p2) rfl
theorem L_put {x : T5} {σ : T2} (h : Rel x σ) (p1 p2 : Int32) : LIFT x (fX10_put x p1 p2) σ (fX11_put σ p1 p2) := lift (M := fun σ => fX11_put σ p1 p2) h (fun p hp => op_put h.1.1 hp p1 p2) rfl
theorem L_go {x : T5} {σ : T2} (h : Rel x σ) (p1 p2 : Int32) : LIFT x (fX10_go x p1 p2) σ (fX11_go σ p1 p2) := lift (M := fun σ => fX11_go σ p1 p2) h (fun p hp => op_go h.1.1 hp p1 p2) rfl
theorem L_mend {x : T5} {σ : T2} (h : Rel x σ) (p1 p2 : Int32) : LIFT x (fX10_mend x p1 p2) σ (fX11_mend σ p1 p2) := lift (M := fun σ => fX11_mend σ p1 p2) h (fun p hp => op_mend h.1.1 hp p1 p2) rfl
theorem L_pause {x : T5} {σ : T2} (h : Rel x σ) (p1 : Int32) : LIFT x (fX10_pause x p1) σ (fX11_pause σ p1) := lift (M := fun σ => fX11_pause σ p1) h (fun p hp => op_pause h.1.1 hp p1) rfl
theorem L_set {x : T5} {σ : T2} (h : Rel x σ) (p1 p2 : Int32) : LIFT x (fX10_set x p1 p2) σ (fX11_set σ p1 p2) := lift (M := fun σ => fX11_set σ p1 p2) h (fun p hp => op_set h.1.1 hp p1 p2) rfl
theorem L_keep {x : T5} {σ : T2} (h : Rel x σ) : LIFT x (fX10_keep x) σ (fX11_keep σ) := by
  obtain ⟨⟨hO, hR⟩, h2, ⟨n, o, hn, hH⟩, hk, ht⟩ := h
  obtain ⟨u, u1, u2⟩ := X_copy (x 1 2) hR
  obtain ⟨w, w1, w2⟩ := M_copies (σ 0) (σ 3)
  refine ⟨σ 0 4, sU x 1 (sU (sU (x 1) 2 u) 3 (sU (x 1 3) 2 (sU (x 1 3 2) 0 (sU (x 1 3 2 0) 0 1)))), sU (sU σ 3 w) 6 (sU (σ 6) 0 1), ?_, ?_, ?_⟩
  · rw [fX10_keep, u1, bd_s]
    simp (disch := omega) only [bn_s, sU_s, sU_n, sU_sU, hR.1.2.2.2.2.1]
  · rw [fX11_keep, w1, bd_s]
    simp (disch := omega) only [bn_s, sU_s, sU_n, ct4]
  · refine ⟨⟨?_, ?_⟩, ?_, ⟨n, o, ?_, ?_⟩, Or.inr ⟨?_, ?_, ?_, ?_⟩, ?_⟩
    · simp (disch := omega) only [sU_s, sU_n]; exact hO
    · simp (disch := omega) only [sU_s, sU_n]; exact hR
    · simp (disch := omega) only [sU_s, sU_n]; exact h2
    · simp (disch := omega) only [sU_s, sU_n]; exact hn
    · simp (disch := omega) only [sU_s, sU_n]; exact hH
    · simp (disch := omega) only [sU_s, sU_n]
    · simp (disch := omega) only [sU_s, sU_n]
    · simp (disch := omega) only [sU_s, sU_n]; exact OK_congr hO w2
    · simp (disch := omega) only [sU_s, sU_n]; exact RR_congr u2 w2
    · simp (disch := omega) only [sU_s, sU_n]; exact ht
theorem L_restore {x : T5} {σ : T2} (h : Rel x σ) : LIFT x (fX10_restore x) σ (fX11_restore σ) := by
  obtain ⟨⟨hO, hR⟩, h2, ⟨n, o, hn, hH⟩, hk, ht⟩ := id h
  rcases hk with ⟨k1, k2⟩ | ⟨k1, k2, k3, k4⟩
  · exact ⟨-2, x, σ, by rw [fX10_restore, if_pos k2], by rw [fX11_restore, if_pos k1], h⟩
  · obtain ⟨u, u1, u2⟩ := X_copy (x 1 1) k4
    obtain ⟨w, w1, w2⟩ := M_copies (σ 3) (σ 0)
    obtain ⟨hh, c1, c2, c3⟩ := M_changes h2 hn hH.1
    have hO3 := OK_congr k3 w2
    obtain ⟨t, t1, t2⟩ : ∃ t, σ 3 4 = nI t ∧ t ≤ 9000 := by
      obtain ⟨_, _, _, _, hI⟩ := k3
      exact hI.2.1
    have hr : ¬ nI t < 0 := nI_pos (by omega)
    obtain ⟨x', o', f1, f2, f3, f4, f5⟩ := X_settle (x := sU x 1 (sU (x 1) 1 u)) (r := nI t) (g0 := σ 0) (g1 := w) (h := hh) hr (by simp (disch := omega) only [sU_n]; exact hH) hO (by simp (disch := omega) only [sU_s, sU_n]; exact hR) (by simp (disch := omega) only [sU_s, sU_n]; exact RR_congr u2 w2) c2 c3
    refine ⟨nI t, x', sU (sU (sU σ 1 hh) 6 (sU (σ 6) 1 (nI (nx n)))) 0 w, ?_, ?_, ?_⟩
    · rw [fX10_restore, if_neg (by rw [k2]; exact ne10), u1, bd_s]
      simp (disch := omega) only [bn_s, sU_s, sU_n]
      rw [u2.1.2.2.2.2.1, t1, f1, bd_s]
    · rw [fX11_restore, if_neg (by rw [k1]; exact ne10), c1, bd_s]
      simp (disch := omega) only [sU_s, sU_n, w1, bd_s, bn_s, ct4]
      rw [w2 4 (by omega), t1]
    · refine ⟨⟨?_, ?_⟩, ?_, ⟨nx n, o', ?_, ?_⟩, Or.inr ⟨?_, ?_, ?_, ?_⟩, ?_⟩
      · simp (disch := omega) only [sU_s, sU_n]; exact hO3
      · simp (disch := omega) only [sU_s, sU_n]; exact f3
      · simp (disch := omega) only [sU_s, sU_n]; exact h2
      · simp (disch := omega) only [sU_s, sU_n]
      · simp (disch := omega) only [sU_s, sU_n]; exact f2
      · simp (disch := omega) only [sU_s, sU_n]; exact k1
      · rw [f5]; simp (disch := omega) only [sU_s, sU_n]; exact k2
      · simp (disch := omega) only [sU_s, sU_n]; exact k3
      · rw [f4]; simp (disch := omega) only [sU_s, sU_n]; exact k4
      · rw [f5]; simp (disch := omega) only [sU_s, sU_n]; exact ht
theorem M_undo_lp {m : Nat} (hm : m ≤ 3) : ∀ (n j : Nat) (σ : T2), j ≤ 206 → 206 - j < n → σ 6 1 = nI m → ∃ h : T1, fX11_undo_22 n σ (nI j) = some (nI m, sU σ 0 h) ∧ (∀ k, k < 206 → h k = if k < j then σ 0 k else σ 1 (206 * m + k)) := by
  intro n
  induction n with
  | zero => intro j σ h1 h2; omega
  | succ n ih =>
    intro j σ h1 h2 h3
    rw [fX11_undo_22, show (206 : Int32) = nI 206 from rfl]
    by_cases hj : j = 206
    · subst hj
      exact ⟨σ 0, by rw [if_pos (nI_le (Nat.le_refl _) (by omega)), h3, sU_id], fun k hk => by rw [if_pos hk]⟩
    · rw [if_neg (nI_ge (by omega) (by omega)), h3, pk_mul, nI_add, gi_nI (by omega) (by decide), gi_nI (by omega) (by decide), bn_s, cl_nI (by omega), cl_nI (by omega), nI_1]
      obtain ⟨h, e1, e2⟩ := ih (j + 1) (sU σ 0 (sU (σ 0) j (σ 1 (206 * m + j)))) (by omega) (by omega) (by rw [sU_n (by omega)]; exact h3)
      refine ⟨h, by rw [e1, sU_sU], fun k hk => ?_⟩
      rw [e2 k hk, sU_s, sU_n (f := σ) (i := 0) (j := 1) (by omega)]
      by_cases c1 : k < j
      · rw [if_pos (by omega), if_pos c1, sU_n (by omega)]
      · rw [if_neg c1]
        by_cases c2 : k = j
        · subst c2; rw [if_pos (by omega), sU_s]
        · rw [if_neg (by omega)]
theorem X_take {y : T4} {p : T3} {g : T1} {m o : Nat} (h0 : y 4 0 0 0 = nI (m + 1)) (h1 : y 4 0 0 1 = nI o) (hm : m ≤ 3) (ho : o < 4) (hR : RR (y ((o + m) % 4)) g) : ∃ u, fX3_takeLatest y p = some (1, sU y 4 (sU (y 4) 0 (sU (y 4 0) 0 (sU (y 4 0 0) 0 (nI m)))), u) ∧ RR u g := by
  obtain ⟨s, hs⟩ : ∃ s, s = (o + m) % 4 := ⟨_, rfl⟩
  have hs4 : s < 4 := by omega
  rw [← hs] at hR
  rw [fX3_takeLatest, h0, if_neg (nI_ne0 (by omega) (by omega)), nI_pred, bn_s]
  simp (disch := omega) only [sU_s, sU_n, h1, nI_add, mod_e]
  rw [← hs, gi_nI hs4 (by decide), cl_nI (by omega)]
  obtain ⟨u, e1, e2⟩ := X_copy p hR
  refine ⟨u, ?_, e2⟩
  rcases (show s = 0 ∨ s = 1 ∨ s = 2 ∨ s = 3 by omega) with rfl | rfl | rfl | rfl
  · rw [if_pos rfl, e1, bd_s]
  · rw [if_neg (by decide), if_pos rfl, e1, bd_s]
  · rw [if_neg (by decide), if_neg (by decide), if_pos rfl, e1, bd_s]
  · rw [if_neg (by decide), if_neg (by decide), if_neg (by decide), e1, bd_s]
theorem L_undo {x : T5} {σ : T2} (h : Rel x σ) : LIFT x (fX10_undo x) σ (fX11_undo σ) := by
  obtain ⟨⟨hO, hR⟩, h2, ⟨n, o, hn, hH⟩, hk, ht⟩ := id h
  obtain ⟨n4, o4, i1, i2, i3⟩ := id hH
  cases n with
  | zero =>
    refine ⟨-2, sU (sU x 0 (x 0)) 1 (sU (x 1) 0 (x 1 0)), σ, ?_, by rw [fX11_undo, if_pos (show σ 6 1 = 0 from hn)], ?_⟩
    · rw [fX10_undo, fX3_takeLatest, if_pos (show x 0 4 0 0 0 = 0 from i1), bd_s]
      simp (disch := omega) only [bn_s, sU_n, i00, ite_true]
    · rw [sU_id, sU_id, sU_id]; exact h
  | succ m =>
    obtain ⟨d1, d2⟩ := i3 m (by omega)
    obtain ⟨u, u1, u2⟩ := X_take (p := x 1 0) i1 i2 (by omega) o4 d2
    obtain ⟨w, w1, w2⟩ := M_undo_lp (m := m) (by omega) fuel 0 (sU σ 6 (sU (σ 6) 1 (nI m))) (by omega) (by unfold fuel; omega) (by rw [sU_s, sU_s])
    have w3 : ∀ k, k < 206 → w k = σ 1 (206 * m + k) := fun k hk => by rw [w2 k hk, if_neg (by omega), sU_n (by omega)]
    refine ⟨nI m, sU (sU x 0 (sU (x 0) 4 (sU (x 0 4) 0 (sU (x 0 4 0) 0 (sU (x 0 4 0 0) 0 (nI m)))))) 1 (sU (x 1) 0 u), sU (sU σ 6 (sU (σ 6) 1 (nI m))) 0 w, ?_, ?_, ?_⟩
    · rw [fX10_undo, u1, bd_s]
      simp (disch := omega) only [bn_s, sU_s, sU_n, i10, ite_false]
    · rw [fX11_undo, if_neg (by rw [hn]; exact nI_ne0 (by omega) (by omega)), hn, nI_pred, bn_s]
      exact w1
    · refine ⟨⟨?_, ?_⟩, ?_, ⟨m, o, ?_, ?_⟩, ?_, ?_⟩
      · simp (disch := omega) only [sU_s, sU_n]; exact OK_congr d1 w3
      · simp (disch := omega) only [sU_s, sU_n]; exact RR_congr u2 w3
      · simp (disch := omega) only [sU_s, sU_n]; exact h2
      · simp (disch := omega) only [sU_s, sU_n]
      · simp (disch := omega) only [sU_s, sU_n]
        refine ⟨by omega, o4, by simp (disch := omega) only [sU_s, sU_n], by simp (disch := omega) only [sU_s, sU_n]; exact i2, fun i hi => ?_⟩
        rw [sU_n (by omega)]
        exact i3 i (by omega)
      · simp (disch := omega) only [sU_s, sU_n]; exact hk
      · simp (disch := omega) only [sU_s, sU_n]; exact ht
