/-! LAW 4: rides: pass, rent -/
theorem sU_cm {α : Type} {f : Nat → α} {i j : Nat} {a b : α} (h : i ≠ j) : sU (sU f i a) j b = sU (sU f j b) i a := by
  funext q
  by_cases e1 : q = i
  · subst e1
    rw [sU_n h, sU_s, sU_s]
  · by_cases e2 : q = j
    · subst e2
      rw [sU_s, sU_n e1, sU_s]
    · rw [sU_n e2, sU_n e1, sU_n e1, sU_n e2]
/-- the first of two with the fewer minutes -/
def lcb (f : Nat → Int32) : Option Nat → Option Nat → Option Nat
  | none, o => o
  | some a, none => some a
  | some a, some b => if f a ≤ f b then some a else some b
theorem cb_r (f : Nat → Int32) : ∀ o, lcb f o none = o
  | none => rfl
  | some _ => rfl
theorem cb_as (f : Nat → Int32) : ∀ o p q, lcb f (lcb f o p) q = lcb f o (lcb f p q)
  | none, _, _ => rfl
  | some a, none, q => rfl
  | some a, some b, none => by rw [cb_r, cb_r]
  | some a, some b, some c => by
    show lcb f (if f a ≤ f b then some a else some b) (some c) = lcb f (some a) (if f b ≤ f c then some b else some c)
    by_cases h1 : f a ≤ f b
    · rw [if_pos h1]
      by_cases h2 : f b ≤ f c
      · rw [if_pos h2]
        show (if f a ≤ f c then some a else some c) = if f a ≤ f b then some a else some b
        rw [if_pos h1, if_pos (Int32.le_trans h1 h2)]
      · rw [if_neg h2]
    · rw [if_neg h1]
      by_cases h2 : f b ≤ f c
      · rw [if_pos h2]
        show (if f b ≤ f c then some b else some c) = if f a ≤ f b then some a else some b
        rw [if_neg h1, if_pos h2]
      · rw [if_neg h2]
        show (if f b ≤ f c then some b else some c) = if f a ≤ f c then some a else some c
        rw [if_neg h2, if_neg (fun q => h1 (Int32.le_trans q (Int32.le_of_lt (Int32.not_le.mp h2))))]
def lsg (g : T1) (s : Int32) (k : Nat) : Option Nat := if g (32 + 6 * k) = 0 ∧ g (32 + 6 * k + 1) = s ∧ g (32 + 6 * k + 3) = 0 then some k else none
def llb (g : T1) (s : Int32) : Nat → Nat → Option Nat
  | _, 0 => none
  | j, c + 1 => lcb (fun b => g (32 + 6 * b + 2)) (lsg g s j) (llb g s (j + 1) c)
theorem bs_cb {g : T1} {s : Int32} (n : Nat) : bs g s (n + 1) = lcb (fun b => g (32 + 6 * b + 2)) (bs g s n) (lsg g s n) := by
  rw [bs]
  unfold lsg
  by_cases c : g (32 + 6 * n) = 0 ∧ g (32 + 6 * n + 1) = s ∧ g (32 + 6 * n + 3) = 0
  · rw [if_pos c, if_pos c]
    cases bs g s n <;> rfl
  · rw [if_neg c, if_neg c, cb_r]
theorem llb_bs {g : T1} {s : Int32} : ∀ c j, lcb (fun b => g (32 + 6 * b + 2)) (bs g s j) (llb g s j c) = bs g s (j + c)
  | 0, j => cb_r _ _
  | c + 1, j => by
    rw [llb, ← cb_as, ← bs_cb, llb_bs c (j + 1)]
    exact congrArg _ (by omega)
theorem llb_lt {g : T1} {s : Int32} : ∀ c j b, llb g s j c = some b → j ≤ b ∧ b < j + c
  | 0, j, b, h => by cases h
  | c + 1, j, b, h => by
    rw [llb] at h
    have key : ∀ o p : Option Nat, lcb (fun b => g (32 + 6 * b + 2)) o p = some b → o = some b ∨ p = some b := fun o p e => by
      cases o with
      | none => exact Or.inr e
      | some a =>
        cases p with
        | none => exact Or.inl e
        | some d =>
          change (if _ then _ else _) = _ at e
          split at e
          · exact Or.inl e
          · exact Or.inr e
    rcases key _ _ h with q | q
    · unfold lsg at q
      split at q
      · cases q; omega
      · cases q
    · have := llb_lt c (j + 1) b q
      omega
section B4
variable {T : Nat} {G P B D R Q V : T1} {x : T5} {σ : T2}
theorem L_best {nb : Nat} {g : T1} (hL : LR G P B D R Q V g) (hb : nb ≤ 16) {r s : Nat} {v11 p8 : Int32} : ∀ (n j : Nat), j ≤ nb → j < n → ∃ n', fL_rides_170 G 1 p8 n P B D R Q x (nI r) (nI s) v11 (ob (-1) (llb g (nI s) j (nb - j))) (nI j - 1) = fL_rides_170 G 1 p8 (n' + 1) P B D R Q x (nI r) (nI s) v11 (ob (-1) (llb g (nI s) 0 nb)) (nI 0 - 1) := by
  intro n
  induction n with
  | zero => intro j h1 h2; omega
  | succ n ih =>
    intro j h1 h2
    cases j with
    | zero => exact ⟨n, rfl⟩
    | succ j =>
      obtain ⟨n', hn⟩ := ih j (by omega) (by omega)
      refine ⟨n', Eq.trans ?_ hn⟩
      have ej : nb - j = (nb - (j + 1)) + 1 := by omega
      have em : nI j + (-1) = nI j - 1 := (Int32.sub_eq_add_neg _ _).symm
      rw [nI_pred, fL_rides_170, if_neg (nI_pos (by omega)), mu3, gi_nI (by omega) (by decide), cl_nI (by omega), hL.B0 (by omega), ej, llb]
      have skip : lsg g (nI s) j = none → fL_rides_211 (fL_rides_170 G 1 p8 n) G 1 p8 P B D R Q x (nI r) (nI s) v11 (ob (-1) (llb g (nI s) (j + 1) (nb - (j + 1)))) (nI j) = fL_rides_170 G 1 p8 n P B D R Q x (nI r) (nI s) v11 (ob (-1) (lcb (fun b => g (32 + 6 * b + 2)) (lsg g (nI s) j) (llb g (nI s) (j + 1) (nb - (j + 1))))) (nI j - 1) := fun e => by
        rw [e]
        unfold fL_rides_211 fL_rides_212
        rw [if_pos rfl]
        unfold fL_rides_248 fL_rides_250
        rw [em]
        rfl
      by_cases c1 : g (32 + 6 * j) = 0
      case neg =>
        rw [if_neg c1]
        exact skip (if_neg (fun q => c1 q.1))
      rw [if_pos c1, nI_1, gi_nI (by omega) (by decide), cl_nI (by omega), hL.B1 (by omega)]
      by_cases c2 : g (32 + 6 * j + 1) = nI s
      case neg =>
        rw [if_neg c2]
        exact skip (if_neg (fun q => c2 q.2.1))
      rw [if_pos c2, gi_nI (by omega) (by decide), hL.D0 (by omega)]
      by_cases c3 : g (32 + 6 * j + 3) = 0
      case neg =>
        rw [if_neg c3]
        exact skip (if_neg (fun q => c3 q.2.2))
      rw [if_pos c3, show lsg g (nI s) j = some j from if_pos ⟨c1, c2, c3⟩]
      unfold fL_rides_212
      rw [if_neg ne10]
      cases e : llb g (nI s) (j + 1) (nb - (j + 1)) with
      | none =>
        rw [show ob (-1) none = -1 from rfl, if_pos (by decide)]
        unfold fL_rides_243 fL_rides_250
        rw [em]
        rfl
      | some b =>
        obtain ⟨hb1, hb2⟩ := llb_lt _ _ _ e
        rw [show ob (-1) (some b) = nI b from rfl, if_neg (nI_pos (by omega)), mu3, mu3, pl2, pl2, gi_nI (by omega) (by decide), gi_nI (by omega) (by decide), cl_nI (by omega), cl_nI (by omega), hL.B2 (by omega), hL.B2 (by omega)]
        show _ = fL_rides_170 G 1 p8 n P B D R Q x (nI r) (nI s) v11 (ob (-1) (if g (32 + 6 * j + 2) ≤ g (32 + 6 * b + 2) then some j else some b)) (nI j - 1)
        by_cases c4 : g (32 + 6 * j + 2) ≤ g (32 + 6 * b + 2)
        · rw [if_pos c4, if_neg (Int32.not_lt.mpr c4)]
          unfold fL_rides_243 fL_rides_250
          rw [em]
          rfl
        · rw [if_neg c4, if_pos (Int32.not_le.mp c4)]
          unfold fL_rides_248 fL_rides_250
          rw [em]
          rfl
theorem L_best0 {nb : Nat} {g : T1} (hL : LR G P B D R Q V g) (hb : nb ≤ 16) {r s : Nat} {v11 p8 : Int32} : ∃ n', fL_rides_170 G 1 p8 fuel P B D R Q x (nI r) (nI s) v11 (-1) (nI nb - 1) = fL_rides_170 G 1 p8 (n' + 1) P B D R Q x (nI r) (nI s) v11 (ob (-1) (bs g (nI s) nb)) (-1) := by
  obtain ⟨n', hn⟩ := L_best (x := x) hL hb (r := r) (s := s) (v11 := v11) (p8 := p8) fuel nb (Nat.le_refl _) (by unfold fuel; omega)
  have q := llb_bs (g := g) (s := nI s) nb 0
  rw [Nat.zero_add] at q
  rw [Nat.sub_self, show llb g (nI s) nb 0 = none from rfl, show ob (-1) none = -1 from rfl, show nI 0 - 1 = -1 by decide, show llb g (nI s) 0 nb = bs g (nI s) nb from q] at hn
  exact ⟨n', hn⟩
theorem A_rides0 (hJ : lJ T G P B D R Q V x σ) {y : Nat} (hy : y < 10000000) (hz0 : ¬ G 0 = 0) (hz2 : ¬ G 2 = 0) : ∃ (P' B' D' R' Q' : T1) (x' : T5) (σ' : T2), fL_rides G P B D R Q x 0 (nI y) = some (1, P', B', D', R', Q', x') ∧ lJ T G P' B' D' R' Q' V x' σ' := by
  obtain ⟨hRel, hL, hN, hB, t, htt, htT⟩ := id hJ
  obtain ⟨⟨⟨ns, nb, nr, nv, hI⟩, -⟩, -⟩ := id hRel
  obtain ⟨⟨h0, h1, h2, h3, hs6, hb16, hr8, hv2⟩, ⟨tm, h4, ht⟩, ⟨⟨t5, h5, ht5⟩, ⟨t6, h6, ht6, ht6b⟩, ⟨t7, h7, ht7⟩⟩, hpl, hdk, hbc, hrd, hvn, hzS, hzB, hzR, hzV⟩ := id hI
  have hn : 0 < ns := Nat.pos_of_ne_zero (fun e => hz0 (by rw [hL.G0, h0, e]; rfl))
  have hn2 : 0 < nr := Nat.pos_of_ne_zero (fun e => hz2 (by rw [hL.G2, h2, e]; rfl))
  have eb : nI y / 8 = nI (y / 8) := pk_div (d := 8) (by omega) (by decide) (by decide)
  obtain ⟨r, hr, er⟩ : ∃ r, r < nr ∧ y % nr = r := ⟨_, Nat.mod_lt _ hn2, rfl⟩
  obtain ⟨k, hk, ek⟩ : ∃ k, k < ns ∧ y / 8 % ns = k := ⟨_, Nat.mod_lt _ hn, rfl⟩
  obtain ⟨q1, ⟨u, hu, hu2⟩, q2⟩ := id (hrd r hr)
  obtain ⟨m, hm⟩ : ∃ m, m = (if u ≤ tm then tm else u) := ⟨_, rfl⟩
  have hm2 : m ≤ 20000 := by rw [hm]; split <;> omega
  rw [fL_rides, ct2, hL.G2, h2, nz_s (nI_ne0 hn2 (by omega)), pk_rem (by omega) hn2 (by omega), er, bn_s, ct0, hL.G0, h0, nz_s (nI_ne0 hn (by omega)), eb, pk_rem (by omega) hn (by omega), ek, bn_s, mu5, pl2, gi_nI (by omega) (by decide), if_pos rfl, nI_1, gi_nI (by omega) (by decide), cl_nI (by omega), hL.R1 (by omega), ct4, hL.G4, hu, h4]
  have key : ∃ (P' B' D' R' Q' : T1) (x' : T5) (σ' : T2), fL_rides_65 G 0 (nI y) P B D R Q x (nI r) (nI m) = some (1, P', B', D', R', Q', x') ∧ lJ T G P' B' D' R' Q' V x' σ' := by
    have e1000 : nI m + 1000 = nI (m + 1000) := nI_add m 1000
    rw [fL_rides_65, e1000]
    by_cases c : m + 1000 ≤ 20000
    · obtain ⟨x', σ', e1, hJ'⟩ := hJ.of (E_pass hRel rfl hI hr hu hu2 h4 ht hm c) (lr_Q3 (lr_R0 (lr_R1 hL (by omega)) (by omega)) (by omega)) (bg_same hB (by simp (disch := omega) only [sU_n]) (by simp (disch := omega) only [sU_n]) (fun k hk => by simp (disch := omega) only [sU_n]) (fun k hk => by constructor <;> simp (disch := omega) only [sU_n])) ⟨t, by simp (disch := omega) only [sU_n]; exact htt, htT⟩
      rw [if_pos (show nI (m + 1000) ≤ 20000 from nI_le (b := 20000) c (by decide))]
      have c7 : (7 : Int32).toNatClampNeg = 7 := by decide
      simp (disch := omega) only [bd_s, bn_s, gi_nI, cl_nI, sU_s, sU_n, mu3, mu4, mu5, nI_1, pl2, pl3, pl4, nI_pred, ct0, ct1, ct2, ct3, ct4, c7, hL.G7, hL.R0 (show r < 8 by omega), hL.Q3 (show r < 8 by omega), e1]
      refine ⟨P, B, D, _, _, x', σ', ?_, hJ'⟩
      rw [sU_cm (i := 5 * r) (j := 5 * r + 1) (by omega)]
      first | exact if_pos rfl | exact if_pos trivial
    · obtain ⟨x', σ', e1, hJ'⟩ := hJ.e (E_pass_f hRel rfl hI hr hu hu2 h4 ht hm c)
      rw [if_neg (show ¬ nI (m + 1000) ≤ 20000 from nI_ge (a := 20000) (by omega) (by omega)), e1, bd_s]
      exact ⟨P, B, D, R, Q, x', σ', (by first | exact if_pos rfl | exact if_pos trivial), hJ'⟩
  by_cases c : u ≤ tm
  · have em : m = tm := by rw [hm, if_pos c]
    rw [if_pos (nI_le c (by omega)), ← em]
    exact key
  · have em : m = u := by rw [hm, if_neg c]
    rw [if_neg (nI_ge (by omega) (by omega)), gi_nI (by omega) (by decide), ← em]
    exact key
theorem bg_rent {g g' : T1} {k r : Nat} (h : lBG g) (h0 : ∃ n, g 0 = nI n ∧ n ≤ 6 ∧ k < n) (h2 : ∃ n, g 2 = nI n ∧ n ≤ 8 ∧ r < n) (e0 : g' 0 = g 0) (e2 : g' 2 = g 2) (hs : ∀ j, j < 6 → j ≠ k → g' (8 + 4 * j + 2) = g (8 + 4 * j + 2)) (hk : g' (8 + 4 * k + 2) = g (8 + 4 * k + 2) + 1) (hr : ∀ j, j < 8 → j ≠ r → g' (128 + 9 * j + 7) = g (128 + 9 * j + 7) ∧ g' (128 + 9 * j + 2) = g (128 + 9 * j + 2)) (hr7 : g' (128 + 9 * r + 7) = g (128 + 9 * r + 7)) (hr2 : g (128 + 9 * r + 2) < 0) (hr3 : ¬ g' (128 + 9 * r + 2) < 0) : lBG g' := by
  obtain ⟨ns, nr, a, b, c, d, e⟩ := h
  obtain ⟨n0, f1, f2, f3⟩ := h0
  obtain ⟨n2, f4, f5, f6⟩ := h2
  have en : n0 = ns := (nI_eq (by omega) (by omega)).mp (f1.symm.trans a)
  have en2 : n2 = nr := (nI_eq (by omega) (by omega)).mp (f4.symm.trans b)
  subst en
  subst en2
  refine ⟨n0, n2, e0.trans a, e2.trans b, c, d, ?_⟩
  rw [sm_up (f := fun k => g (8 + 4 * k + 2)) (k := k) (c := 1) n0 f3 (fun j hj hne => hs j (by omega) hne) hk, sm_up (f := fun k => g (128 + 9 * k + 7) + (if g (128 + 9 * k + 2) < 0 then 0 else 1)) (k := r) (c := 1) n2 f6 (fun j hj hne => by
    show g' (128 + 9 * j + 7) + (if g' (128 + 9 * j + 2) < 0 then 0 else 1) = _
    rw [(hr j (by omega) hne).1, (hr j (by omega) hne).2]) (by
    show g' (128 + 9 * r + 7) + (if g' (128 + 9 * r + 2) < 0 then 0 else 1) = g (128 + 9 * r + 7) + (if g (128 + 9 * r + 2) < 0 then 0 else 1) + 1
    rw [hr7, if_neg hr3, if_pos hr2, Int32.add_zero]), e]
set_option maxHeartbeats 4000000 in
set_option maxRecDepth 100000 in
theorem A_rides1 (hJ : lJ T G P B D R Q V x σ) {y : Nat} (hy : y < 10000000) (hz0 : ¬ G 0 = 0) (hz2 : ¬ G 2 = 0) : ∃ (P' B' D' R' Q' : T1) (x' : T5) (σ' : T2), fL_rides G P B D R Q x 1 (nI y) = some (1, P', B', D', R', Q', x') ∧ lJ T G P' B' D' R' Q' V x' σ' := by
  obtain ⟨hRel, hL, hN, hB, t, htt, htT⟩ := id hJ
  obtain ⟨⟨⟨ns, nb, nr, nv, hI⟩, -⟩, -⟩ := id hRel
  obtain ⟨⟨h0, h1, h2, h3, hs6, hb16, hr8, hv2⟩, ⟨tm, h4, ht⟩, ⟨⟨t5, h5, ht5⟩, ⟨t6, h6, ht6, ht6b⟩, ⟨t7, h7, ht7⟩⟩, hpl, hdk, hbc, hrd, hvn, hzS, hzB, hzR, hzV⟩ := id hI
  have hn : 0 < ns := Nat.pos_of_ne_zero (fun e => hz0 (by rw [hL.G0, h0, e]; rfl))
  have hn2 : 0 < nr := Nat.pos_of_ne_zero (fun e => hz2 (by rw [hL.G2, h2, e]; rfl))
  have eb : nI y / 8 = nI (y / 8) := pk_div (d := 8) (by omega) (by decide) (by decide)
  obtain ⟨r, hr, er⟩ : ∃ r, r < nr ∧ y % nr = r := ⟨_, Nat.mod_lt _ hn2, rfl⟩
  obtain ⟨k, hk, ek⟩ : ∃ k, k < ns ∧ y / 8 % ns = k := ⟨_, Nat.mod_lt _ hn, rfl⟩
  obtain ⟨q1, ⟨u, hu, hu2⟩, q2⟩ := id (hrd r hr)
  rw [fL_rides, ct2, hL.G2, h2, nz_s (nI_ne0 hn2 (by omega)), pk_rem (by omega) hn2 (by omega), er, bn_s, ct0, hL.G0, h0, nz_s (nI_ne0 hn (by omega)), eb, pk_rem (by omega) hn (by omega), ek, bn_s, mu5, pl2, gi_nI (by omega) (by decide), if_neg (by decide), if_pos rfl, cl_nI (by omega), hL.R2 (by omega), ct1, hL.G1, h1]
  obtain ⟨n', hn'⟩ := L_best0 (x := x) hL hb16 (r := r) (s := k) (v11 := σ 0 (128 + 9 * r + 2)) (p8 := nI y)
  rw [hn', fL_rides_170, if_pos (by decide)]
  have bad : ∀ x', fX10_rent x (nI r) (nI k) = some (-2, x') → fL_rides_268 G 1 (nI y) P B D R Q x (nI r) (nI k) = some (1, P, B, D, R, Q, x') := fun x' e => by
    rw [fL_rides_268, e, bd_s]
    exact if_pos rfl
  by_cases c1 : rdN (σ 0) r = 0
  case neg =>
    obtain ⟨x', σ', e1, hJ'⟩ := hJ.e (E_rent_f hRel rfl hI hr hk (Or.inl c1))
    rcases q1 with q | ⟨j, hj, q⟩
    · exact absurd q (rdN_1.mp c1)
    · rw [if_pos (by rw [q]; exact nI_pos' (by omega))]
      exact ⟨P, B, D, R, Q, x', σ', bad _ e1, hJ'⟩
  have e4 : σ 0 (128 + 9 * r + 2) = -4 := by
    by_cases e : σ 0 (128 + 9 * r + 2) = -4
    · exact e
    · exact absurd c1 (rdN_1.mpr e)
  rw [if_neg (by rw [e4]; decide)]
  cases hb : bs (σ 0) (nI k) nb with
  | none =>
    obtain ⟨x', σ', e1, hJ'⟩ := hJ.e (E_rent_f hRel rfl hI hr hk (Or.inr hb))
    rw [if_neg (by decide)]
    exact ⟨P, B, D, R, Q, x', σ', bad _ e1, hJ'⟩
  | some b =>
    have hb2 := bs_lt nb b hb
    rw [show ob (-1) (some b) = nI b from rfl, if_pos (nI_pos' (by omega))]
    by_cases c : u ≤ tm
    · obtain ⟨x', σ', e1, hJ'⟩ := hJ.of (E_rent_a hRel rfl hI hr hk c1 hb hu hu2 h4 ht c) (lr_P2 (lr_Q1 (lr_R4 (lr_Q0 (lr_R3 (lr_R2 (lr_B1 (lr_B0 hL (by omega)) (by omega)) (by omega)) (by omega)) (by omega)) (by omega)) (by omega)) (by omega)) (bg_rent (k := k) (r := r) hB ⟨ns, h0, hs6, hk⟩ ⟨nr, h2, hr8, hr⟩ (by simp (disch := omega) only [sU_n]) (by simp (disch := omega) only [sU_n]) (fun j hj hne => by simp (disch := omega) only [sU_n]) (by simp (disch := omega) only [sU_n, sU_s]) (fun j hj hne => by constructor <;> simp (disch := omega) only [sU_n]) (by simp (disch := omega) only [sU_n]) (by rw [e4]; decide) (by simp (disch := omega) only [sU_n, sU_s]; exact nI_pos (by omega))) ⟨t, by simp (disch := omega) only [sU_n]; exact htt, htT⟩
      simp (disch := omega) only [bd_s, bn_s, gi_nI, cl_nI, sU_s, sU_n, mu3, mu4, mu5, nI_1, pl2, pl3, pl4, nI_pred, ct0, ct1, ct2, ct3, ct4, hL.G4, h4, hL.R1 (show r < 8 by omega), hu]
      rw [if_pos (nI_le c (by omega))]
      unfold fL_rides_353
      simp (disch := omega) only [bd_s, bn_s, gi_nI, cl_nI, sU_s, sU_n, mu3, mu4, mu5, nI_1, pl2, pl3, pl4, nI_pred, ct0, ct1, ct2, ct3, ct4]
      first | rw [if_neg (show ¬ (0 : Int32) = 1 by decide)] | rw [if_neg (show ¬ False from id)]
      unfold fL_rides_380
      simp (disch := omega) only [bd_s, bn_s, gi_nI, cl_nI, sU_s, sU_n, mu3, mu4, mu5, nI_1, pl2, pl3, pl4, nI_pred, ct0, ct1, ct2, ct3, ct4, hL.P2 (show k < 6 by omega), e1]
      exact ⟨_, _, D, _, _, x', σ', (by first | exact if_pos rfl | exact if_pos trivial), hJ'⟩
    · obtain ⟨x', σ', e1, hJ'⟩ := hJ.of (E_rent_b hRel rfl hI hr hk c1 hb hu hu2 h4 ht c) (lr_P2 (lr_Q1 (lr_R4 (lr_Q0 (lr_R3 (lr_R2 (lr_B1 (lr_B0 hL (by omega)) (by omega)) (by omega)) (by omega)) (by omega)) (by omega)) (by omega)) (by omega)) (bg_rent (k := k) (r := r) hB ⟨ns, h0, hs6, hk⟩ ⟨nr, h2, hr8, hr⟩ (by simp (disch := omega) only [sU_n]) (by simp (disch := omega) only [sU_n]) (fun j hj hne => by simp (disch := omega) only [sU_n]) (by simp (disch := omega) only [sU_n, sU_s]) (fun j hj hne => by constructor <;> simp (disch := omega) only [sU_n]) (by simp (disch := omega) only [sU_n]) (by rw [e4]; decide) (by simp (disch := omega) only [sU_n, sU_s]; exact nI_pos (by omega))) ⟨t, by simp (disch := omega) only [sU_n]; exact htt, htT⟩
      simp (disch := omega) only [bd_s, bn_s, gi_nI, cl_nI, sU_s, sU_n, mu3, mu4, mu5, nI_1, pl2, pl3, pl4, nI_pred, ct0, ct1, ct2, ct3, ct4, hL.G4, h4, hL.R1 (show r < 8 by omega), hu]
      rw [if_neg (nI_ge (by omega) (by omega))]
      unfold fL_rides_353
      simp (disch := omega) only [bd_s, bn_s, gi_nI, cl_nI, sU_s, sU_n, mu3, mu4, mu5, nI_1, pl2, pl3, pl4, nI_pred, ct0, ct1, ct2, ct3, ct4, ct5, hL.G5]
      first | rw [if_pos (show (1 : Int32) = 1 from rfl)] | rw [if_pos trivial]
      unfold fL_rides_380
      simp (disch := omega) only [bd_s, bn_s, gi_nI, cl_nI, sU_s, sU_n, mu3, mu4, mu5, nI_1, pl2, pl3, pl4, nI_pred, ct0, ct1, ct2, ct3, ct4, hL.P2 (show k < 6 by omega), e1]
      exact ⟨_, _, D, _, _, x', σ', (by first | exact if_pos rfl | exact if_pos trivial), hJ'⟩
end B4
