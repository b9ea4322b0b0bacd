/-! MATH 19: the commands of the text in a row -/
def fX7_flt (S : T2) (st rs ca : Int32) : T2 :=
  sU (sU (sU S 2 (sU (S 2) 2 st)) 2 (sU ((sU S 2 (sU (S 2) 2 st)) 2) 3 rs)) 2 (sU ((sU (sU S 2 (sU (S 2) 2 st)) 2 (sU ((sU S 2 (sU (S 2) 2 st)) 2) 3 rs)) 2) 4 ca)
def fX7_cnt (S : T2) : T2 := sU S 2 (sU (S 2) 1 (S 2 1 + 1))
def fX7_tryOn_l : Nat → T2 → T3 → Option (T2 × T3)
  | 0, _, _ => none
  | n + 1, S, R => if 60 ≤ S 2 1 then some (S, R) else if S 2 0 ≤ S 2 5 then some (S, R) else bd (fX7_hasFault S) (fun q => if q = 0 then bd (fX7_readCommand S) (fun q2 => match q2.1 with
    | none => fX7_tryOn_l n (fX7_cnt (fX7_flt q2.2 (S 2 5) 1 0)) R
    | some e => bd (fX9_doOn e R (q2.2 1 0) (q2.2 1 1)) (fun q3 => if q3.1 < 0 then fX7_tryOn_l n (fX7_cnt (fX7_flt q2.2 (S 2 5) 2 q3.1)) q3.2 else fX7_tryOn_l n (fX7_cnt q2.2) q3.2)) else some (S, R))
def fX7_start (S : T2) : T2 :=
  sU (sU (sU S 2 (sU (S 2) 2 (-1))) 2 (sU ((sU S 2 (sU (S 2) 2 (-1))) 2) 5 0)) 2 (sU ((sU (sU S 2 (sU (S 2) 2 (-1))) 2 (sU ((sU S 2 (sU (S 2) 2 (-1))) 2) 5 0)) 2) 1 0)
def fX7_tryOn (S : T2) (R : T3) : Option (T2 × T3) := fX7_tryOn_l fuel (fX7_start S) R
theorem nm1 {s : Nat} (hs : s ≤ 60) : ¬ nI s = -1 := fun e => nI_pos (n := s) (by omega) (by rw [e]; decide)
theorem X_stop {S : T2} {R : T3} {m s : Nat} (hs : s ≤ 60) (h : S 2 2 = nI s) : fX7_tryOn_l (m + 1) S R = some (S, R) := by
  rw [fX7_tryOn_l, fX7_hasFault, h, if_neg (nm1 hs), bd_s, if_neg ne10, ite_self, ite_self]
theorem M_stop {σ : T2} {m : Nat} {v : Int32} : fX11_plays_19 (m + 1) σ v 0 = some (v, sU σ 6 (sU (σ 6) 2 0)) := by
  rw [fX11_plays_19, if_pos (show (0 : Int32) = 0 from rfl), ite_self, fX11_plays_90, bn_s, if_pos (show (0 : Int32) = 0 from rfl)]
theorem flt_0 {S : T2} {a b d : Int32} : (fX7_cnt (fX7_flt S a b d)) 0 = S 0 := by unfold fX7_cnt fX7_flt; simp (disch := omega) only [sU_s, sU_n]
theorem flt_20 {S : T2} {a b d : Int32} : (fX7_cnt (fX7_flt S a b d)) 2 0 = S 2 0 := by unfold fX7_cnt fX7_flt; simp (disch := omega) only [sU_s, sU_n]
theorem flt_22 {S : T2} {a b d : Int32} : (fX7_cnt (fX7_flt S a b d)) 2 2 = a := by unfold fX7_cnt fX7_flt; simp (disch := omega) only [sU_s, sU_n]
theorem flt_23 {S : T2} {a b d : Int32} : (fX7_cnt (fX7_flt S a b d)) 2 3 = b := by unfold fX7_cnt fX7_flt; simp (disch := omega) only [sU_s, sU_n]
theorem flt_24 {S : T2} {a b d : Int32} : (fX7_cnt (fX7_flt S a b d)) 2 4 = d := by unfold fX7_cnt fX7_flt; simp (disch := omega) only [sU_s, sU_n]
def KP (σ σ' : T2) : Prop := (∀ i, i ≠ 0 → i ≠ 5 → i ≠ 6 → σ' i = σ i) ∧ σ' 6 2 = 0 ∧ σ' 6 0 = σ 6 0 ∧ σ' 6 1 = σ 6 1 ∧ σ' 6 3 = σ 6 3
def RES (S' : T2) (R' : T3) (σ' : T2) (M : Option (Int32 × T2)) : Prop :=
  (S' 2 2 = -1 ∧ M = some (-4, σ') ∧ (∃ k, k ≤ 60 ∧ S' 2 1 = nI k ∧ σ' 6 6 = nI k) ∧ OK (σ' 0) ∧ RR R' (σ' 0)) ∨
  (∃ s, s ≤ 60 ∧ S' 2 2 = nI s ∧ M = some (nI s, σ') ∧ ((S' 2 3 = 1 ∧ S' 2 4 = 0 ∧ σ' 6 5 = 0) ∨ (S' 2 3 = 2 ∧ S' 2 4 = σ' 6 5 ∧ σ' 6 5 < 0)))
theorem run {c : Nat → Nat} {tl : Nat} (hg : GT c tl) : ∀ (n r k : Nat) (S : T2) (R : T3) (σ : T2) (v1 : Int32), tl - r + 2 ≤ n → r ≤ tl → k ≤ r → TX S c tl r → TM σ c tl r → S 2 1 = nI k → σ 6 6 = nI k → S 2 2 = -1 → OK (σ 0) → RR R (σ 0) → σ 6 2 = 1 → ∃ S' R' σ', fX7_tryOn_l n S R = some (S', R') ∧ S' 0 = S 0 ∧ S' 2 0 = S 2 0 ∧ KP σ σ' ∧ RES S' R' σ' (fX11_plays_19 n σ v1 1) := by
  have g1 : tl ≤ 60 := hg.1
  intro n
  induction n with
  | zero => intro r k S R σ v1 h; omega
  | succ n ih =>
    intro r k S R σ v1 hn hr hk hX hM hk1 hk2 hf hO hR h1
    obtain ⟨m, rfl⟩ : ∃ m, n = m + 1 := ⟨n - 1, by omega⟩
    rw [fX7_tryOn_l, fX11_plays_19, hk1, hX.1, hX.2.1, hM.1, hM.2.1]
    by_cases e : r = tl
    · subst e
      rw [if_pos (nI_le (Nat.le_refl _) (by omega)), if_pos (nI_le (Nat.le_refl _) (by omega)), ite_self, fX11_plays_90, bn_s, if_neg ne10]
      refine ⟨S, R, _, rfl, rfl, hX.1, ⟨fun i p q w => by simp (disch := omega) only [sU_s, sU_n], by simp (disch := omega) only [sU_s, sU_n], by simp (disch := omega) only [sU_s, sU_n], by simp (disch := omega) only [sU_s, sU_n], by simp (disch := omega) only [sU_s, sU_n]⟩, Or.inl ⟨hf, rfl, ⟨k, by omega, hk1, by simp (disch := omega) only [sU_s, sU_n]; exact hk2⟩, by simp (disch := omega) only [sU_s, sU_n]; exact hO, by simp (disch := omega) only [sU_s, sU_n]; exact hR⟩⟩
    rw [if_neg (show ¬ (60 : Int32) ≤ nI k from nI_ge (b := 60) (by omega) (by decide)), if_neg (nI_ge (by omega) (by omega)), if_neg (nI_ge (by omega) (by omega)), if_neg ne10, fX7_hasFault, if_pos hf, bd_s, if_pos rfl]
    rcases cmd hg hr hX hM with ⟨e, S1, σ1, r', c1, c2, c3, c4, c5, c6, c7, c8, c9, c10, c11, c12⟩ | ⟨S1, σ1, c1, c2, c3, c4⟩
    · rw [c4, c5, bd_s, bd_s, if_neg (show ¬ ((1 : Int32), σ1).1 = 0 from ne10)]
      have o1 : σ1 0 = σ 0 := c12.1 0 (by omega) (by omega)
      obtain ⟨a, R1, g', d1, d2, d3⟩ := does (σ := σ1) (R := R) (b := S1 1 1) c1 (by rw [o1]; exact hO) (by rw [o1]; exact hR) ((c12.2 2 (by omega) (by omega)).trans h1) c8 c10
      rw [show fX11_calls ((1 : Int32), σ1).2 = _ from d2, bd_s]
      simp only [c9, d1, bd_s]
      by_cases ha : a < 0
      · rw [if_pos ha, if_pos ha, X_stop (s := r) (by omega) flt_22, fX11_plays_57, bn_s, if_neg (show ¬ (1 : Int32) = 0 from ne10), fX11_plays_75, fX11_plays_76, bn_s]
        simp (disch := omega) only [sU_s, sU_n]
        rw [if_pos ha, M_stop]
        refine ⟨_, _, _, rfl, flt_0.trans c11.1, flt_20.trans ((c11.2 0 (by omega)).trans hX.1), ⟨fun i p q w => ?_, ?_, ?_, ?_, ?_⟩, Or.inr ⟨r, by omega, flt_22, rfl, Or.inr ⟨flt_23, ?_, ?_⟩⟩⟩
        · simp (disch := omega) only [sU_s, sU_n]; exact c12.1 i q w
        · simp (disch := omega) only [sU_s, sU_n]
        · simp (disch := omega) only [sU_s, sU_n]; exact c12.2 0 (by omega) (by omega)
        · simp (disch := omega) only [sU_s, sU_n]; exact c12.2 1 (by omega) (by omega)
        · simp (disch := omega) only [sU_s, sU_n]; exact c12.2 3 (by omega) (by omega)
        · rw [flt_24]; simp (disch := omega) only [sU_s, sU_n]
        · simp (disch := omega) only [sU_s, sU_n]; exact ha
      · obtain ⟨o2, o3⟩ := d3 ha
        rw [if_neg ha, if_neg ha, fX11_plays_57, bn_s, if_neg (show ¬ (1 : Int32) = 0 from ne10), fX11_plays_76, bn_s]
        simp (disch := omega) only [sU_s, sU_n]
        rw [if_neg ha]
        have k1 : S1 2 1 = nI k := (c11.2 1 (by omega)).trans hk1
        have k2 : σ1 6 6 = nI k := (c12.2 6 (by omega) (by omega)).trans hk2
        have := ih r' (k + 1) (fX7_cnt S1) R1 (sU (sU (sU σ1 0 g') 6 (sU (σ1 6) 5 a)) 6 (sU (sU (σ1 6) 5 a) 6 (σ1 6 6 + 1))) (nI r) (by omega) c3 (by omega) ⟨by unfold fX7_cnt; simp (disch := omega) only [sU_s, sU_n]; exact c6.1, by unfold fX7_cnt; simp (disch := omega) only [sU_s, sU_n]; exact c6.2.1, fun j hj => by unfold fX7_cnt; simp (disch := omega) only [sU_s, sU_n]; exact c6.2.2 j hj⟩ ⟨by simp (disch := omega) only [sU_s, sU_n]; exact c7.1, by simp (disch := omega) only [sU_s, sU_n]; exact c7.2.1, fun j hj => by simp (disch := omega) only [sU_s, sU_n]; exact c7.2.2 j hj⟩ (by unfold fX7_cnt; simp (disch := omega) only [sU_s, sU_n]; rw [k1, nI_1]) (by simp (disch := omega) only [sU_s, sU_n]; rw [k2, nI_1]) (by unfold fX7_cnt; simp (disch := omega) only [sU_s, sU_n]; exact (c11.2 2 (by omega)).trans hf) (by simp (disch := omega) only [sU_s, sU_n]; exact o2) (by simp (disch := omega) only [sU_s, sU_n]; exact o3) (by simp (disch := omega) only [sU_s, sU_n]; exact (c12.2 2 (by omega) (by omega)).trans h1)
        obtain ⟨S', R', σ', f1, f2, f3, ⟨f4, f5, f6, f7, f8⟩, f9⟩ := this
        refine ⟨S', R', σ', f1, f2.trans (by unfold fX7_cnt; simp (disch := omega) only [sU_s, sU_n]; exact c11.1), f3.trans (by unfold fX7_cnt; simp (disch := omega) only [sU_s, sU_n]; exact (c11.2 0 (by omega)).trans hX.1), ⟨fun i p q w => (f4 i p q w).trans (by simp (disch := omega) only [sU_s, sU_n]; exact c12.1 i q w), f5, f6.trans (by simp (disch := omega) only [sU_s, sU_n]; exact c12.2 0 (by omega) (by omega)), f7.trans (by simp (disch := omega) only [sU_s, sU_n]; exact c12.2 1 (by omega) (by omega)), f8.trans (by simp (disch := omega) only [sU_s, sU_n]; exact c12.2 3 (by omega) (by omega))⟩, ?_⟩
        exact f9
    · rw [c1, c2, bd_s, bd_s, if_pos (show ((0 : Int32), σ1).1 = 0 from rfl)]
      simp only []
      rw [X_stop (s := r) (by omega) flt_22, fX11_plays_57, bn_s, if_pos (show (0 : Int32) = 0 from rfl), fX11_plays_75, fX11_plays_76, bn_s, M_stop]
      refine ⟨_, _, _, rfl, flt_0.trans c3.1, flt_20.trans ((c3.2 0 (by omega)).trans hX.1), ⟨fun i p q w => ?_, ?_, ?_, ?_, ?_⟩, Or.inr ⟨r, by omega, flt_22, rfl, Or.inl ⟨flt_23, flt_24, ?_⟩⟩⟩
      · simp (disch := omega) only [sU_s, sU_n]; exact c4.1 i q w
      · simp (disch := omega) only [sU_s, sU_n]
      · simp (disch := omega) only [sU_s, sU_n]; exact c4.2 0 (by omega) (by omega)
      · simp (disch := omega) only [sU_s, sU_n]; exact c4.2 1 (by omega) (by omega)
      · simp (disch := omega) only [sU_s, sU_n]; exact c4.2 3 (by omega) (by omega)
      · simp (disch := omega) only [sU_s, sU_n]
theorem runs {S : T2} {R : T3} {σ : T2} {tl : Nat} (t1 : tl ≤ 60) (t2 : σ 6 3 = nI tl) (t3 : S 2 0 = nI tl) (t4 : ∀ k, k < tl → S 0 k = σ 4 k ∧ ∃ c, σ 4 k = nI c ∧ 32 ≤ c ∧ c ≤ 126) (hO : OK (σ 0)) (hR : RR R (σ 0)) : ∃ S' R' σ', fX7_tryOn S R = some (S', R') ∧ S' 0 = S 0 ∧ S' 2 0 = S 2 0 ∧ KP σ σ' ∧ RES S' R' σ' (fX11_plays σ) := by
  have t5 : ∀ k, k < tl → σ 4 k = nI (σ 4 k).toNatClampNeg ∧ 32 ≤ (σ 4 k).toNatClampNeg ∧ (σ 4 k).toNatClampNeg ≤ 126 := fun k hk => by
    obtain ⟨-, d, e1, e2, e3⟩ := t4 k hk
    rw [e1, cl_nI (by omega)]
    exact ⟨rfl, e2, e3⟩
  have hg : GT (fun k => (σ 4 k).toNatClampNeg) tl := ⟨t1, fun k hk => (t5 k hk).2⟩
  obtain ⟨S', R', σ', f1, f2, f3, ⟨f4, f5, f6, f7, f8⟩, f9⟩ := run hg fuel 0 0 (fX7_start S) R (sU (sU (sU σ 6 (sU (σ 6) 2 1)) 6 (sU ((sU σ 6 (sU (σ 6) 2 1)) 6) 4 0)) 6 (sU ((sU (sU σ 6 (sU (σ 6) 2 1)) 6 (sU ((sU σ 6 (sU (σ 6) 2 1)) 6) 4 0)) 6) 6 0)) 0 (by unfold fuel; omega) (by omega) (by omega) ⟨by unfold fX7_start; simp (disch := omega) only [sU_s, sU_n]; exact t3, by unfold fX7_start; simp (disch := omega) only [sU_s, sU_n]; rfl, fun k hk => by unfold fX7_start; simp (disch := omega) only [sU_s, sU_n]; exact ((t4 k hk).1).trans (t5 k hk).1⟩ ⟨by simp (disch := omega) only [sU_s, sU_n]; exact t2, by simp (disch := omega) only [sU_s, sU_n]; rfl, fun k hk => by simp (disch := omega) only [sU_s, sU_n]; exact (t5 k hk).1⟩ (by unfold fX7_start; simp (disch := omega) only [sU_s, sU_n]; rfl) (by simp (disch := omega) only [sU_s, sU_n]; rfl) (by unfold fX7_start; simp (disch := omega) only [sU_s, sU_n]) (by simp (disch := omega) only [sU_s, sU_n]; exact hO) (by simp (disch := omega) only [sU_s, sU_n]; exact hR) (by simp (disch := omega) only [sU_s, sU_n])
  refine ⟨S', R', σ', f1, f2.trans (by unfold fX7_start; simp (disch := omega) only [sU_s, sU_n]), f3.trans (by unfold fX7_start; simp (disch := omega) only [sU_s, sU_n]), ⟨fun i p q w => (f4 i p q w).trans (by simp (disch := omega) only [sU_s, sU_n]), f5, f6.trans (by simp (disch := omega) only [sU_s, sU_n]), f7.trans (by simp (disch := omega) only [sU_s, sU_n]), f8.trans (by simp (disch := omega) only [sU_s, sU_n])⟩, ?_⟩
  rw [fX11_plays]
  exact f9
