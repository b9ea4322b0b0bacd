/-! MATH 20: fault and play -/
def fX10_tryDraft (x : T5) : Option T5 := bd (fX10_freshDraft x) (fun x1 => bd (fX7_tryOn (x1 1 3 1) (x1 1 1)) (fun q => some (sU (sU x1 1 (sU (x1 1) 1 q.2)) 1 (sU ((sU x1 1 (sU (x1 1) 1 q.2)) 1) 3 (sU ((sU x1 1 (sU (x1 1) 1 q.2)) 1 3) 1 q.1)))))
def fX10_fault (x : T5) (p1 : Int32) : Option (Int32 × T5) := if p1 < 0 then some (-1, x) else if p1 ≤ 2 then bd (fX10_tryDraft x) (fun y => bd (fX7_aboutFault (y 1 3 1) p1) (fun r => some (r, y))) else some (-1, x)
def fX10_play (x : T5) : Option (Int32 × T5) := bd (fX10_tryDraft x) (fun y => bd (fX7_hasFault (y 1 3 1)) (fun f => if f = 0 then bd (fX10_settle y (y 1 3 1 2 1)) (fun s => some (s.1, s.2)) else some (-2, y)))
theorem tryDraft {x : T5} {σ : T2} (h : Rel x σ) : ∃ u, RR u (σ 0) ∧ ∀ S' R', fX7_tryOn (x 1 3 1) u = some (S', R') → ∃ y, fX10_tryDraft x = some y ∧ y 0 = x 0 ∧ y 1 0 = x 1 0 ∧ y 1 1 = R' ∧ y 1 2 = x 1 2 ∧ y 1 3 1 = S' ∧ y 1 3 2 = x 1 3 2 := by
  obtain ⟨⟨hO, hR⟩, -⟩ := h
  obtain ⟨u, u1, u2⟩ := X_copy (x 1 1) hR
  refine ⟨u, u2, fun S' R' e => ?_⟩
  obtain ⟨x1, hx1⟩ : ∃ x1, x1 = sU x 1 (sU (x 1) 1 u) := ⟨_, rfl⟩
  have F : fX10_freshDraft x = some x1 := by
    rw [fX10_freshDraft, u1, bd_s, bn_s, hx1]
  have z1 : x1 1 1 = u := by rw [hx1]; simp (disch := omega) only [sU_s, sU_n]
  have z2 : x1 1 3 = x 1 3 := by rw [hx1]; simp (disch := omega) only [sU_s, sU_n]
  refine ⟨sU (sU x1 1 (sU (x1 1) 1 R')) 1 (sU ((sU x1 1 (sU (x1 1) 1 R')) 1) 3 (sU ((sU x1 1 (sU (x1 1) 1 R')) 1 3) 1 S')), ?_, ?_, ?_, ?_, ?_, ?_, ?_⟩
  · rw [fX10_tryDraft, F, bd_s, z1, z2, e, bd_s]
  all_goals rw [hx1]
  all_goals simp (disch := omega) only [sU_s, sU_n]
theorem Rel_back {x y : T5} {σ σf : T2} (h : Rel x σ) (y0 : y 0 = x 0) (y10 : y 1 0 = x 1 0) (y12 : y 1 2 = x 1 2) (y132 : y 1 3 2 = x 1 3 2) (yt : y 1 3 1 0 = x 1 3 1 0) (yl : y 1 3 1 2 0 = x 1 3 1 2 0) (k0 : ∀ k, k < 206 → σf 0 k = σ 0 k) (k1 : σf 1 = σ 1) (k3 : σf 3 = σ 3) (k4 : σf 4 = σ 4) (k62 : σf 6 2 = 0) (k60 : σf 6 0 = σ 6 0) (k61 : σf 6 1 = σ 6 1) (k63 : σf 6 3 = σ 6 3) : Rel y σf := by
  obtain ⟨⟨hO, hR⟩, h2, hn, hk, ht⟩ := h
  unfold Rel
  rw [y0, y10, y12, y132, yt, yl, k1, k3, k4, k62, k60, k61, k63]
  exact ⟨⟨OK_congr hO k0, RR_congr hR k0⟩, rfl, hn, hk, ht⟩
theorem L_fault {x : T5} {σ : T2} (h : Rel x σ) (p1 : Int32) : LIFT x (fX10_fault x p1) σ (fX11_fault σ p1) := by
  obtain ⟨⟨hO, hR⟩, h2, hn, hk, tl, t1, t2, t3, t4⟩ := id h
  rw [fX10_fault, fX11_fault]
  rcases rng p1 2 (by decide) with ⟨q1, q2, -⟩ | ⟨k, q1, rfl, q3⟩
  · refine ⟨-1, x, σ, ?_, ?_, h⟩
    · rcases q2 with q2 | ⟨q2, q4⟩
      · rw [if_pos q2]
      · rw [if_neg q2, if_neg (show ¬ p1 ≤ 2 from q4)]
    · rw [show fX11_in p1 0 2 = some 0 from q1, bd_s, if_pos rfl]
  rw [show fX11_in (nI k) 0 2 = some 1 from q3, bd_s, if_neg ne10, if_neg (nI_pos (by omega)), if_pos (show nI k ≤ 2 from nI_le (b := 2) q1 (by decide))]
  obtain ⟨w1, w2, w3⟩ := M_copies (σ 0) (σ 2)
  obtain ⟨u, u1, u2⟩ := tryDraft h
  obtain ⟨S', R', σ', f1, f2, f3, ⟨f4, f5, f6, f7, f8⟩, f9⟩ := runs (S := x 1 3 1) (R := u) (σ := sU σ 2 w1) t1 (by simp (disch := omega) only [sU_s, sU_n]; exact t2) t3 (fun k hk => by simp (disch := omega) only [sU_s, sU_n]; exact t4 k hk) (by simp (disch := omega) only [sU_s, sU_n]; exact hO) (by simp (disch := omega) only [sU_s, sU_n]; exact u1)
  obtain ⟨y, y1, y2, y3, y4, y5, y6, y7⟩ := u2 S' R' f1
  have e2 : σ' 2 = w1 := (f4 2 (by omega) (by omega) (by omega)).trans (by simp (disch := omega) only [sU_s, sU_n])
  obtain ⟨v1, v2, v3⟩ := M_copies (σ' 2) (σ' 0)
  have back : Rel y (sU σ' 0 v1) := Rel_back h y2 y3 y5 y7 (by rw [y6]; exact f2) (by rw [y6]; exact f3) (fun k hk => by simp (disch := omega) only [sU_s, sU_n]; rw [v3 k hk, e2, w3 k hk]) (by simp (disch := omega) only [sU_s, sU_n]; exact (f4 1 (by omega) (by omega) (by omega)).trans (by simp (disch := omega) only [sU_s, sU_n])) (by simp (disch := omega) only [sU_s, sU_n]; exact (f4 3 (by omega) (by omega) (by omega)).trans (by simp (disch := omega) only [sU_s, sU_n])) (by simp (disch := omega) only [sU_s, sU_n]; exact (f4 4 (by omega) (by omega) (by omega)).trans (by simp (disch := omega) only [sU_s, sU_n])) (by simp (disch := omega) only [sU_s, sU_n]; exact f5) (by simp (disch := omega) only [sU_s, sU_n]; exact f6.trans (by simp (disch := omega) only [sU_s, sU_n])) (by simp (disch := omega) only [sU_s, sU_n]; exact f7.trans (by simp (disch := omega) only [sU_s, sU_n])) (by simp (disch := omega) only [sU_s, sU_n]; exact f8.trans (by simp (disch := omega) only [sU_s, sU_n]))
  rw [y1, bd_s, y6, w2, bd_s, bn_s, fX7_aboutFault, fX7_hasFault]
  rcases f9 with ⟨r1, r2, -⟩ | ⟨s, s1, r1, r2, r3⟩
  · refine ⟨-4, y, sU σ' 0 v1, ?_, ?_, back⟩
    · rw [if_pos r1, bd_s, if_pos rfl, bd_s]
    · rw [r2, bd_s, v2, bd_s, bn_s, if_pos (show ((-4 : Int32), σ').1 = -4 from rfl)]
  have n4 : ¬ nI s = -4 := fun e => nI_pos (n := s) (by omega) (by rw [e]; decide)
  rw [if_neg (show ¬ S' 2 2 = -1 by rw [r1]; exact nm1 s1), bd_s, if_neg ne10, r2, bd_s, v2, bd_s, bn_s, if_neg (show ¬ (nI s, σ').1 = -4 from n4)]
  simp (disch := omega) only [sU_s, sU_n]
  rcases (show k = 0 ∨ k = 1 ∨ k = 2 by omega) with rfl | rfl | rfl
  · refine ⟨nI s, y, sU σ' 0 v1, ?_, ?_, back⟩
    · rw [if_neg (show ¬ nI 0 = 2 by decide), fX7_aboutFault_23, if_pos (show nI 0 = 0 from rfl), bd_s, r1]
    · rw [if_pos (show nI 0 = 0 from rfl)]
  · rw [if_neg (show ¬ nI 1 = 2 by decide), fX7_aboutFault_23, if_neg (show ¬ nI 1 = 0 by decide), if_pos (show nI 1 = 1 from rfl), bd_s, if_neg (show ¬ nI 1 = 0 by decide), if_pos (show nI 1 = 1 from rfl)]
    rcases r3 with ⟨z1, z2, z3⟩ | ⟨z1, z2, z3⟩
    · exact ⟨1, y, sU σ' 0 v1, by rw [z1], by rw [if_pos z3], back⟩
    · exact ⟨2, y, sU σ' 0 v1, by rw [z1], by rw [if_neg (fun e => by rw [e] at z3; exact absurd z3 (by decide))], back⟩
  · rw [if_pos (show nI 2 = 2 from rfl), if_neg (show ¬ nI 2 = 0 by decide), if_neg (show ¬ nI 2 = 1 by decide)]
    rcases r3 with ⟨z1, z2, z3⟩ | ⟨z1, z2, z3⟩
    · exact ⟨-4, y, sU σ' 0 v1, by rw [if_pos z1, bd_s], by rw [if_pos z3], back⟩
    · refine ⟨σ' 6 5, y, sU σ' 0 v1, ?_, ?_, back⟩
      · rw [if_neg (by rw [z1]; decide), fX7_aboutFault_23, if_neg (show ¬ nI 2 = 0 by decide), if_neg (show ¬ nI 2 = 1 by decide), bd_s, z2]
      · rw [if_neg (fun e => by rw [e] at z3; exact absurd z3 (by decide))]
theorem L_play {x : T5} {σ : T2} (h : Rel x σ) : LIFT x (fX10_play x) σ (fX11_play σ) := by
  obtain ⟨⟨hO, hR⟩, h2, ⟨n, o, hn, hH⟩, hk, tl, t1, t2, t3, t4⟩ := id h
  rw [fX10_play, fX11_play]
  obtain ⟨w1, w2, w3⟩ := M_copies (σ 0) (σ 2)
  obtain ⟨u, u1, u2⟩ := tryDraft h
  obtain ⟨S', R', σ', f1, f2, f3, ⟨f4, f5, f6, f7, f8⟩, f9⟩ := runs (S := x 1 3 1) (R := u) (σ := sU σ 2 w1) t1 (by simp (disch := omega) only [sU_s, sU_n]; exact t2) t3 (fun k hk => by simp (disch := omega) only [sU_s, sU_n]; exact t4 k hk) (by simp (disch := omega) only [sU_s, sU_n]; exact hO) (by simp (disch := omega) only [sU_s, sU_n]; exact u1)
  obtain ⟨y, y1, y2, y3, y4, y5, y6, y7⟩ := u2 S' R' f1
  have e2 : σ' 2 = w1 := (f4 2 (by omega) (by omega) (by omega)).trans (by simp (disch := omega) only [sU_s, sU_n])
  obtain ⟨v1, v2, v3⟩ := M_copies (σ' 2) (σ' 0)
  have k0 : ∀ k, k < 206 → v1 k = σ 0 k := fun k hk => by rw [v3 k hk, e2, w3 k hk]
  have a1 : σ' 1 = σ 1 := (f4 1 (by omega) (by omega) (by omega)).trans (by simp (disch := omega) only [sU_s, sU_n])
  have a3 : σ' 3 = σ 3 := (f4 3 (by omega) (by omega) (by omega)).trans (by simp (disch := omega) only [sU_s, sU_n])
  have a4 : σ' 4 = σ 4 := (f4 4 (by omega) (by omega) (by omega)).trans (by simp (disch := omega) only [sU_s, sU_n])
  have a60 : σ' 6 0 = σ 6 0 := f6.trans (by simp (disch := omega) only [sU_s, sU_n])
  have a61 : σ' 6 1 = σ 6 1 := f7.trans (by simp (disch := omega) only [sU_s, sU_n])
  have a63 : σ' 6 3 = σ 6 3 := f8.trans (by simp (disch := omega) only [sU_s, sU_n])
  rw [y1, bd_s, y6, w2, bd_s, bn_s, fX7_hasFault]
  rcases f9 with ⟨r1, r2, ⟨k, k1, k2, k3⟩, -⟩ | ⟨s, s1, r1, r2, -⟩
  case inr =>
    have n4 : ¬ nI s = -4 := fun e => nI_pos (n := s) (by omega) (by rw [e]; decide)
    refine ⟨-2, y, sU σ' 0 v1, ?_, ?_, Rel_back h y2 y3 y5 y7 (by rw [y6]; exact f2) (by rw [y6]; exact f3) (fun k hk => by simp (disch := omega) only [sU_s, sU_n]; exact k0 k hk) (by simp (disch := omega) only [sU_s, sU_n]; exact a1) (by simp (disch := omega) only [sU_s, sU_n]; exact a3) (by simp (disch := omega) only [sU_s, sU_n]; exact a4) (by simp (disch := omega) only [sU_s, sU_n]; exact f5) (by simp (disch := omega) only [sU_s, sU_n]; exact a60) (by simp (disch := omega) only [sU_s, sU_n]; exact a61) (by simp (disch := omega) only [sU_s, sU_n]; exact a63)⟩
    · rw [if_neg (show ¬ S' 2 2 = -1 by rw [r1]; exact nm1 s1), bd_s, if_neg ne10]
    · rw [r2, bd_s, v2, bd_s, bn_s, if_neg (show ¬ (nI s, σ').1 = -4 from n4)]
  rw [if_pos r1, bd_s, if_pos rfl, r2, bd_s, v2, bd_s, bn_s, if_pos (show ((-4 : Int32), σ').1 = -4 from rfl)]
  obtain ⟨hh, c1, c2, c3⟩ := M_changes (σ := sU σ' 0 v1) (n := n) (by simp (disch := omega) only [sU_s, sU_n]; exact f5) (by simp (disch := omega) only [sU_s, sU_n]; exact a61.trans hn) hH.1
  rw [c1, bd_s]
  obtain ⟨S2, R2, σ2, g1, g2, g3, ⟨g4, g5, g6, g7, g8⟩, g9⟩ := runs (S := x 1 3 1) (R := u) (σ := sU (sU (sU σ' 0 v1) 1 hh) 6 (sU ((sU σ' 0 v1) 6) 1 (nI (nx n)))) t1 (by simp (disch := omega) only [sU_s, sU_n]; exact a63.trans t2) t3 (fun k hk => by simp (disch := omega) only [sU_s, sU_n]; rw [a4]; exact t4 k hk) (by simp (disch := omega) only [sU_s, sU_n]; exact OK_congr hO k0) (by simp (disch := omega) only [sU_s, sU_n]; exact RR_congr u1 k0)
  have E := g1.symm.trans f1
  injection E with E
  injection E with E1 E2
  subst E1
  subst E2
  rcases g9 with ⟨r3, r4, ⟨k', l1, l2, l3⟩, o1, o2⟩ | ⟨s, s1, r3, -⟩
  case inr => exact absurd (r3.symm.trans r1) (nm1 s1)
  rw [r4, bd_s, if_pos (show ((-4 : Int32), σ2).1 = -4 from rfl), l2]
  obtain ⟨x', o', p1, p2, p3, p4, p5⟩ := X_settle (x := y) (r := nI k') (n := n) (o := o) (s := σ 1) (h := hh) (g0 := v1) (g1 := σ2 0) (nI_pos (by omega)) (by rw [y2]; exact hH) (OK_congr hO k0) (by rw [y3]; exact RR_congr hR k0) (by rw [y4]; exact o2) (fun i k q w => (c2 i k q w).trans (by simp (disch := omega) only [sU_s, sU_n]; rw [a1])) (fun k q => (c3 k q).trans (by simp (disch := omega) only [sU_s, sU_n]))
  refine ⟨nI k', x', σ2, by rw [p1, bd_s], by rw [← l3], ?_⟩
  have b1 : σ2 1 = hh := (g4 1 (by omega) (by omega) (by omega)).trans (by simp (disch := omega) only [sU_s, sU_n])
  have b3 : σ2 3 = σ 3 := (g4 3 (by omega) (by omega) (by omega)).trans (by simp (disch := omega) only [sU_s, sU_n]; exact a3)
  have b4 : σ2 4 = σ 4 := (g4 4 (by omega) (by omega) (by omega)).trans (by simp (disch := omega) only [sU_s, sU_n]; exact a4)
  refine ⟨⟨o1, p3⟩, g5, ⟨nx n, o', g7.trans (by simp (disch := omega) only [sU_s, sU_n]), by rw [b1]; exact p2⟩, ?_, tl, t1, (g8.trans (by simp (disch := omega) only [sU_s, sU_n]; exact a63)).trans t2, ?_, ?_⟩
  · rw [p4, p5, y5, y7, b3, show σ2 6 0 = σ 6 0 from g6.trans (by simp (disch := omega) only [sU_s, sU_n]; exact a60)]
    exact hk
  · rw [p5, y6, g3]; exact t3
  · rw [p5, y6, g2, b4]; exact t4
