/-! BASE: states as functions, partial answers, one theorem a kind of call -/
abbrev T1 : Type := Nat → Int32
abbrev T2 : Type := Nat → T1
abbrev T3 : Type := Nat → T2
abbrev T4 : Type := Nat → T3
abbrev T5 : Type := Nat → T4
def sU {α : Type} (f : Nat → α) (i : Nat) (u : α) : Nat → α := fun j => if j = i then u else f j
def bd {α β : Type} (x : Option α) (k : α → Option β) : Option β := match x with
  | some a => k a
  | none => none
def bn {α β : Type} (x : α) (k : α → Option β) : Option β := k x
def gi {β : Type} (i : Int32) (n : Nat) (x : Option β) : Option β := if i < 0 ∨ n ≤ i.toNatClampNeg then none else x
def nz {β : Type} (y : Int32) (x : Option β) : Option β := if y = 0 then none else x
def gz {β : Type} (v : Int32) (x : Option β) : Option β := if v = 0 ∨ v = 1 then x else none
def fuel : Nat := 4096
theorem bd_e {α β : Type} {x : Option α} {k : α → Option β} {r : β} (h : bd x k = some r) : ∃ a, x = some a ∧ k a = some r := by
  cases x with
  | none => exact absurd h (by simp [bd])
  | some a => exact ⟨a, rfl, h⟩
theorem bn_e {α β : Type} {x : α} {k : α → Option β} {r : β} (h : bn x k = some r) : ∃ a, a = x ∧ k a = some r := ⟨x, rfl, h⟩
theorem gi_e {β : Type} {i : Int32} {n : Nat} {x : Option β} {r : β} (h : gi i n x = some r) : vp_in i n ∧ x = some r := by
  unfold gi at h
  split at h
  · cases h
  · exact ⟨by assumption, h⟩
theorem nz_e {β : Type} {y : Int32} {x : Option β} {r : β} (h : nz y x = some r) : ¬ y = 0 ∧ x = some r := by
  unfold nz at h
  split at h
  · cases h
  · exact ⟨by assumption, h⟩
theorem gz_e {β : Type} {v : Int32} {x : Option β} {r : β} (h : gz v x = some r) : narrow .boolean (.int v) = .int v ∧ x = some r := by
  unfold gz at h
  split at h
  · rename_i q
    rcases q with q | q <;> exact ⟨by rw [q]; decide, h⟩
  · cases h
theorem it_t {β : Type} {c : Prop} {hc0 : Decidable c} {a b : Option β} {r : β} (h : (if c then a else b) = some r) (hc : c) : a = some r := by rw [if_pos hc] at h; exact h
theorem it_f {β : Type} {c : Prop} {hc0 : Decidable c} {a b : Option β} {r : β} (h : (if c then a else b) = some r) (hc : ¬ c) : b = some r := by rw [if_neg hc] at h; exact h
theorem bd_s {α β : Type} {a : α} {k : α → Option β} : bd (some a) k = k a := rfl
theorem gi_s {β : Type} {i : Int32} {n : Nat} {x : Option β} (h : vp_in i n) : gi i n x = x := if_neg h
theorem nz_s {β : Type} {y : Int32} {x : Option β} (h : ¬ y = 0) : nz y x = x := if_neg h
theorem sU_s {α : Type} {f : Nat → α} {i : Nat} {u : α} : sU f i u i = u := if_pos rfl
theorem sU_n {α : Type} {f : Nat → α} {i j : Nat} {u : α} (h : j ≠ i) : sU f i u j = f j := if_neg h
/-- a method's world: its start, its end -/
abbrev pW (dC : Nat → ClassId) (dI : Nat → Nat → Nat) (tys : List (ClassId × FieldType)) (ws : va_W) (sz : Nat) : State → Prop := fun U => U.heap.size = sz ∧ va_P (dC, dI) vwCl ws U.heap ∧ va_K (dC, dI) vwCl tys U ∧ va_D (fun _ => True) ws
abbrev qW (dC : Nat → ClassId) (dI : Nat → Nat → Nat) (tys : List (ClassId × FieldType)) (A : Nat → Prop) (ws : va_W) : State → Prop := fun t => va_P (dC, dI) vwCl ws t.heap ∧ va_K (dC, dI) vwCl tys t ∧ va_D A ws
abbrev QI (dC : Nat → ClassId) (dI : Nat → Nat → Nat) (tys : List (ClassId × FieldType)) (A : Nat → Prop) (ws : va_W) (r : Int32) : Array Value → State → Outcome → State → Prop := va_Qi (fun (r' : Int32) (_ : Unit) => r' = r) (fun _ => qW dC dI tys A ws) A
abbrev QV (dC : Nat → ClassId) (dI : Nat → Nat → Nat) (tys : List (ClassId × FieldType)) (A : Nat → Prop) (ws : va_W) : Array Value → State → Outcome → State → Prop := va_Qv (fun (_ : Unit) => True) (fun _ => qW dC dI tys A ws) A
abbrev tyL (cs : Nat → ClassId) : List (ClassId × FieldType) := [(cs 0, .int), (cs 1, .char), (cs 2, .object "DockedBikes$Road"), (cs 3, .object "DockedBikes$Verb")]
/-- a callee's part of a caller's world, by segments -/
def JN (is js : List Nat) (L L' Wc Wc' : List va_W) : Prop := is.map (fun i => L[i]?) = Wc.map some ∧ is.map (fun i => L'[i]?) = Wc'.map some ∧ js.map (fun i => L'[i]?) = js.map (fun i => L[i]?) ∧ (List.range L'.length).all (fun k => decide (k ∈ is) || decide (k ∈ js)) = true ∧ L'.flatten.map Prod.fst = L.flatten.map Prod.fst ∧ Wc'.flatten.map Prod.fst = Wc.flatten.map Prod.fst
theorem jn_seg {is : List Nat} {L Wc : List va_W} (h : is.map (fun i => L[i]?) = Wc.map some) {w : va_W} (hw : w ∈ Wc) : w ∈ L := by
  have h1 : some w ∈ is.map (fun i => L[i]?) := by rw [h]; exact List.mem_map.mpr ⟨w, hw, rfl⟩
  obtain ⟨i, -, hi⟩ := List.mem_map.mp h1
  exact List.mem_of_getElem? hi
theorem jn_sub {is : List Nat} {L Wc : List va_W} (h : is.map (fun i => L[i]?) = Wc.map some) {q : Nat × va_E} (hq : q ∈ Wc.flatten) : q ∈ L.flatten := by
  obtain ⟨w, hw, hq⟩ := List.mem_flatten.mp hq
  exact List.mem_flatten.mpr ⟨w, jn_seg h hw, hq⟩
theorem jn_P {D : va_G} {cl : List vw_C} {is : List Nat} {L Wc : List va_W} {H : Heap} (h : is.map (fun i => L[i]?) = Wc.map some) (hP : va_P D cl L.flatten H) : va_P D cl Wc.flatten H := by
  intro k q hk
  obtain ⟨i, hi⟩ := List.getElem?_of_mem (jn_sub h (List.mem_of_getElem? hk))
  exact hP i q hi
theorem va_D.fst {A : Nat → Prop} {w w' : va_W} (hD : va_D A w) (h : w'.map Prod.fst = w.map Prod.fst) : va_D A w' := by
  have key : ∀ (k : Nat) (q : Nat × va_E), w'[k]? = some q → ∃ q0, w[k]? = some q0 ∧ q0.1 = q.1 := by
    intro k q hk
    have h1 : (w.map Prod.fst)[k]? = some q.1 := by rw [← h, List.getElem?_map, hk]; rfl
    rw [List.getElem?_map] at h1
    cases h2 : w[k]? with
    | none => rw [h2] at h1; cases h1
    | some q0 => rw [h2] at h1; exact ⟨q0, rfl, Option.some.inj h1⟩
  refine ⟨fun i j p q hi hj hpq => ?_, fun k q hk => ?_⟩
  · obtain ⟨p0, h1, h2⟩ := key i p hi
    obtain ⟨q0, h3, h4⟩ := key j q hj
    exact hD.1 i j p0 q0 h1 h3 (h2.trans (hpq.trans h4.symm))
  · obtain ⟨q0, h1, h2⟩ := key k q hk
    rw [← h2]
    exact hD.2 k q0 h1
theorem jn_D {A : Nat → Prop} {w w' : va_W} (hD : va_D A w) (h : ∀ q ∈ w', q ∈ w) (hn : ∀ (i j : Nat) (p q : Nat × va_E), w'[i]? = some p → w'[j]? = some q → p.1 = q.1 → i = j) : va_D A w' := ⟨hn, fun k q hk => by
  obtain ⟨i, hi⟩ := List.getElem?_of_mem (h q (List.mem_of_getElem? hk))
  exact hD.2 i q hi⟩
theorem jn {A0 : Nat → Prop} {D : va_G} {cl : List vw_C} {is js : List Nat} {L L' Wc Wc' : List va_W} {H H1 : Heap} (j : JN is js L L' Wc Wc') (hP : va_P D cl L.flatten H) (hD : va_D A0 L.flatten)
    (hk : ∀ q : Nat, q < H.size → ¬ va_A Wc.flatten H.size q → H1[q]? = H[q]?) (hP1 : va_P D cl Wc'.flatten H1) : va_P D cl L'.flatten H1 ∧ va_D A0 L'.flatten := by
  obtain ⟨h1, h2, h3, h4, ha, hb⟩ := j
  have hD' : va_D A0 L'.flatten := hD.fst ha
  refine ⟨fun k q hq => ?_, hD'⟩
  obtain ⟨w, hw, hqw⟩ := List.mem_flatten.mp (List.mem_of_getElem? hq)
  obtain ⟨i, hi⟩ := List.getElem?_of_mem hw
  have inn : q ∈ Wc'.flatten → va_at D cl q H1 := fun h => by
    obtain ⟨k2, h5⟩ := List.getElem?_of_mem h
    exact hP1 k2 q h5
  have h4' : i ∈ is ∨ i ∈ js := by
    have := List.all_eq_true.mp h4 i (List.mem_range.mpr (List.getElem?_eq_some_iff.mp hi).1)
    simpa using this
  rcases h4' with hc | hc
  · refine inn (List.mem_flatten.mpr ⟨w, ?_, hqw⟩)
    have h5 : some w ∈ Wc'.map some := by rw [← h2, ← hi]; exact List.mem_map.mpr ⟨i, hc, rfl⟩
    obtain ⟨w2, h6, h7⟩ := List.mem_map.mp h5
    cases h7
    exact h6
  · have h5 : L[i]? = some w := by rw [← hi]; exact (List.map_inj_left.mp h3 i hc).symm
    obtain ⟨k0, hk0⟩ := List.getElem?_of_mem (List.mem_flatten.mpr ⟨w, List.mem_of_getElem? h5, hqw⟩)
    by_cases hin : q.1 ∈ Wc.flatten.map Prod.fst
    · rw [← hb] at hin
      obtain ⟨q2, h6, h7⟩ := List.mem_map.mp hin
      obtain ⟨k3, h8⟩ := List.getElem?_of_mem (jn_sub h2 h6)
      have h9 := hD'.1 k3 k q2 q h8 hq h7
      subst h9
      rw [h8] at hq
      cases hq
      exact inn h6
    · refine (hP k0 q hk0).kept (hk q.1 (hP k0 q hk0).lt (fun h => ?_))
      rcases h with ⟨k2, e2, h⟩ | h
      · exact hin (List.mem_map.mpr ⟨(q.1, e2), List.mem_of_getElem? h, rfl⟩)
      · exact absurd (hP k0 q hk0).lt (Nat.not_lt.mpr h)
theorem jn_free {A0 : Nat → Prop} {is : List Nat} {L Wc : List va_W} {H0 H : Heap} {locs : List Loc} (h : is.map (fun i => L[i]?) = Wc.map some) (hD : va_D A0 L.flatten) (hS : va_S A0 H0 H locs) (hA : ∀ q, H0.size ≤ q → A0 q) : ∀ q, va_A Wc.flatten H.size q → A0 q := by
  intro q hq
  rcases hq with ⟨k, e, hq⟩ | hq
  · obtain ⟨i, hi⟩ := List.getElem?_of_mem (jn_sub h (List.mem_of_getElem? hq))
    exact hD.2 i (q, e) hi
  · exact hA q (Nat.le_trans hS.1 hq)
theorem fb_pW {dC : Nat → ClassId} {dI : Nat → Nat → Nat} {tys : List (ClassId × FieldType)} {ws : va_W} {sz : Nat} {av : List Value} : FrameBlind (va_Pc av (pW dC dI tys ws sz)) := fun a U g mk q => by
  obtain ⟨q0, q1, qP, qK, qD⟩ := q
  exact ⟨q0, q1, qP, va_K.moved (u := U) (U := U.calling g mk a) (Vm.Alike.refl U.vm) qK, qD⟩
theorem jn_Dc {A0 : Nat → Prop} {is : List Nat} {L Wc : List va_W} (h : is.map (fun i => L[i]?) = Wc.map some) (hD : va_D A0 L.flatten) (hn : va_D (fun _ => True) Wc.flatten) : va_D A0 Wc.flatten := jn_D hD (fun _ hq => jn_sub h hq) hn.1
theorem pw_of {A : Nat → Prop} {w : va_W} (hD : va_D A w) : w.Pairwise (fun p q => p.1 ≠ q.1) := by
  rw [List.pairwise_iff_getElem]
  intro i j hi hj hij h
  have := hD.1 i j w[i] w[j] (List.getElem?_eq_getElem hi) (List.getElem?_eq_getElem hj) h
  omega
theorem of_pw {w : va_W} (h : w.Pairwise (fun p q => p.1 ≠ q.1)) : va_D (fun _ => True) w := by
  rw [List.pairwise_iff_getElem] at h
  refine ⟨fun i j p q hi hj hpq => ?_, fun _ _ _ => trivial⟩
  obtain ⟨h1, h2⟩ := List.getElem?_eq_some_iff.mp hi
  obtain ⟨h3, h4⟩ := List.getElem?_eq_some_iff.mp hj
  rcases Nat.lt_trichotomy i j with q1 | q1 | q1
  · exact absurd (by rw [h2, h4]; exact hpq) (h i j h1 h3 q1)
  · exact q1
  · exact absurd (by rw [h2, h4]; exact hpq.symm) (h j i h3 h1 q1)
theorem jn_nd {A0 : Nat → Prop} {is : List Nat} {L Wc : List va_W} (hD : va_D A0 L.flatten) (h : is.map (fun i => L[i]?) = Wc.map some) (hn : va_nd is = true) : va_D (fun _ => True) Wc.flatten := by
  refine of_pw (List.pairwise_flatten.mpr ?_)
  obtain ⟨h1, h2⟩ := List.pairwise_flatten.mp (pw_of hD)
  refine ⟨fun w hw => h1 w (jn_seg h hw), ?_⟩
  rw [List.pairwise_iff_getElem] at h2 ⊢
  have key : ∀ (i : Nat) (hi : i < Wc.length), ∃ (a : Nat), is[i]? = some a ∧ ∃ ha : a < L.length, L[a] = Wc[i] := by
    intro i hi
    have h3 : (is.map (fun i => L[i]?))[i]? = some (some Wc[i]) := by rw [h, List.getElem?_map, List.getElem?_eq_getElem hi]; rfl
    rw [List.getElem?_map] at h3
    cases h4 : is[i]? with
    | none => rw [h4] at h3; cases h3
    | some a =>
      rw [h4] at h3
      have h5 : L[a]? = some Wc[i] := Option.some.inj h3
      obtain ⟨h6, h7⟩ := List.getElem?_eq_some_iff.mp h5
      exact ⟨a, rfl, h6, h7⟩
  intro i j hi hj hij x hx y hy hxy
  obtain ⟨a, a1, a2, a3⟩ := key i hi
  obtain ⟨b, b1, b2, b3⟩ := key j hj
  rcases Nat.lt_trichotomy a b with q1 | q1 | q1
  · exact h2 a b a2 b2 q1 x (by rw [a3]; exact hx) y (by rw [b3]; exact hy) hxy
  · have := va_nd_inj is hn i j a a1 (by rw [q1]; exact b1)
    omega
  · exact h2 b a b2 a2 q1 y (by rw [b3]; exact hy) x (by rw [a3]; exact hx) hxy.symm
section CL
variable {p : Program} {l : Launch} {e : Env} {R : Room} {s : State} {m : MethodId} {args : Array Value} {below : List Frame} {meth : Method} {c : Code} {H : Heap} {locs : List Loc} {Q : State → Prop}
variable {cc bytes : ByteArray} {pc nL index maxL n : Nat} {ls : Array Slot} {rest st0 As : List Value} {Ts ws : List Cond} {own C : String} {y : MethodName} {ret : Option FieldType} {rm : Room} {dC : Nat → ClassId} {dI : Nat → Nat → Nat} {tys : List (ClassId × FieldType)} {is js : List Nat} {L L' Wc Wc' : List va_W} {A0 : Nat → Prop} {H0 : Heap} {b : Addr} {r : Int32}
theorem cl_Vi (S0 : CallFix p m c cc nL s args Ts own)
    (hM : Met l y ws rm (va_Pc (.ref b :: As) (pW dC dI tys Wc.flatten H.size)) (QI dC dI tys (va_A Wc.flatten H.size) Wc'.flatten r) 0 0 (va_A Wc.flatten H.size))
    (cw : CallW R s args own C index y bytes maxL ret ws rm 0 0 n) (hK : va_K (dC, dI) vwCl tys s) (hP : va_P (dC, dI) vwCl L.flatten H) (hD : va_D A0 L.flatten) (hS : va_S A0 H0 H locs) (hA : ∀ q, H0.size ≤ q → A0 q)
    (j : JN is js L L' Wc Wc') (nd : va_D (fun _ => True) Wc.flatten) (q0 ci : Nat) {q : vw_C} {fs : List Value} (hc : vwCl[ci]? = some q) (hq : q.1 = C) (he : L.flatten[q0]? = some (b, .inr (ci, fs)))
    (hst : st0 = As.reverse ++ .ref b :: rest) (hn : As.length = n) (hsize : ls.size = nL) (hr : (rest.map fun v => v.category).sum ≤ 8) (hdg : decode cc pc = .ok (.invokevirtual index, 3))
    (kk : ∀ (H1 : Heap) (locs1 : List Loc), va_P (dC, dI) vwCl L'.flatten H1 → va_D A0 L'.flatten → va_S A0 H0 H1 locs1 → W p l e R s m args below meth c H1 locs1 0 0 Q (F0 m (pc + 3) ls (.int r :: rest))) : W p l e R s m args below meth c H locs 0 0 Q (F0 m pc ls st0) := by
  have hF := jn_free j.1 hD hS hA
  have hrec : ∃ cell : Cell, H[b]? = some cell ∧ cell.vm.isStatics = false ∧ s.vm.findClass C = some cell.cls := by
    rw [← hq]
    exact va_recv hK hP hc he
  refine va_calli (va_runV (rest := rest) S0 hM cw ⟨fb_pW, hrec, fun U hU hW => ⟨rfl, by rw [hU], by rw [hU]; exact jn_P j.1 hP, va_K.moved hW.alike hK, nd⟩⟩ rfl hn hsize hst (lv_room hr) hdg ⟨Nat.zero_le _, Nat.zero_le _⟩) hS (fun q _ h => hF q h) hF (fun r1 u t H1 locs1 ht hvm hw hB hz1 hk1 hS1 => ?_)
  obtain ⟨hP1, -, -⟩ := hB
  rw [ht] at hP1
  obtain ⟨a1, a2⟩ := jn j hP hD hk1 hP1
  subst hw
  exact kk H1 locs1 a1 a2 hS1
theorem cl_Vv (S0 : CallFix p m c cc nL s args Ts own)
    (hM : Met l y ws rm (va_Pc (.ref b :: As) (pW dC dI tys Wc.flatten H.size)) (QV dC dI tys (va_A Wc.flatten H.size) Wc'.flatten) 0 0 (va_A Wc.flatten H.size))
    (cw : CallW R s args own C index y bytes maxL ret ws rm 0 0 n) (hK : va_K (dC, dI) vwCl tys s) (hP : va_P (dC, dI) vwCl L.flatten H) (hD : va_D A0 L.flatten) (hS : va_S A0 H0 H locs) (hA : ∀ q, H0.size ≤ q → A0 q)
    (j : JN is js L L' Wc Wc') (nd : va_D (fun _ => True) Wc.flatten) (q0 ci : Nat) {q : vw_C} {fs : List Value} (hc : vwCl[ci]? = some q) (hq : q.1 = C) (he : L.flatten[q0]? = some (b, .inr (ci, fs)))
    (hst : st0 = As.reverse ++ .ref b :: rest) (hn : As.length = n) (hsize : ls.size = nL) (hr : (rest.map fun v => v.category).sum ≤ 8) (hdg : decode cc pc = .ok (.invokevirtual index, 3))
    (kk : ∀ (H1 : Heap) (locs1 : List Loc), va_P (dC, dI) vwCl L'.flatten H1 → va_D A0 L'.flatten → va_S A0 H0 H1 locs1 → W p l e R s m args below meth c H1 locs1 0 0 Q (F0 m (pc + 3) ls rest)) : W p l e R s m args below meth c H locs 0 0 Q (F0 m pc ls st0) := by
  have hF := jn_free j.1 hD hS hA
  have hrec : ∃ cell : Cell, H[b]? = some cell ∧ cell.vm.isStatics = false ∧ s.vm.findClass C = some cell.cls := by
    rw [← hq]
    exact va_recv hK hP hc he
  refine va_callv (va_runV (rest := rest) S0 hM cw ⟨fb_pW, hrec, fun U hU hW => ⟨rfl, by rw [hU], by rw [hU]; exact jn_P j.1 hP, va_K.moved hW.alike hK, nd⟩⟩ rfl hn hsize hst (lv_room hr) hdg ⟨Nat.zero_le _, Nat.zero_le _⟩) hS (fun q _ h => hF q h) hF (fun u t H1 locs1 ht hvm hw hB hz1 hk1 hS1 => ?_)
  obtain ⟨hP1, -, -⟩ := hB
  rw [ht] at hP1
  obtain ⟨a1, a2⟩ := jn j hP hD hk1 hP1
  exact kk H1 locs1 a1 a2 hS1
theorem cl_Si (S0 : CallFix p m c cc nL s args Ts own)
    (hM : Met l y ws rm (va_Pc As (pW dC dI tys Wc.flatten H.size)) (QI dC dI tys (va_A Wc.flatten H.size) Wc'.flatten r) 0 0 (va_A Wc.flatten H.size))
    (cw : CallB R s args own index y bytes maxL ret ws rm 0 0 n ∧ (Cond.static y).before args s = true) (hK : va_K (dC, dI) vwCl tys s) (hP : va_P (dC, dI) vwCl L.flatten H) (hD : va_D A0 L.flatten) (hS : va_S A0 H0 H locs) (hA : ∀ q, H0.size ≤ q → A0 q)
    (j : JN is js L L' Wc Wc') (nd : va_D (fun _ => True) Wc.flatten)
    (hst : st0 = As.reverse ++ rest) (hn : As.length = n) (hsize : ls.size = nL) (hr : (rest.map fun v => v.category).sum ≤ 8) (hdg : decode cc pc = .ok (.invokestatic index, 3))
    (kk : ∀ (H1 : Heap) (locs1 : List Loc), va_P (dC, dI) vwCl L'.flatten H1 → va_D A0 L'.flatten → va_S A0 H0 H1 locs1 → W p l e R s m args below meth c H1 locs1 0 0 Q (F0 m (pc + 3) ls (.int r :: rest))) : W p l e R s m args below meth c H locs 0 0 Q (F0 m pc ls st0) := by
  have hF := jn_free j.1 hD hS hA
  refine va_calli (va_runS (rest := rest) S0 hM cw ⟨fb_pW, fun U hU hW => ⟨rfl, by rw [hU], by rw [hU]; exact jn_P j.1 hP, va_K.moved hW.alike hK, nd⟩⟩ rfl hn hsize hst (lv_room hr) hdg ⟨Nat.zero_le _, Nat.zero_le _⟩) hS (fun q _ h => hF q h) hF (fun r1 u t H1 locs1 ht hvm hw hB hz1 hk1 hS1 => ?_)
  obtain ⟨hP1, -, -⟩ := hB
  rw [ht] at hP1
  obtain ⟨a1, a2⟩ := jn j hP hD hk1 hP1
  subst hw
  exact kk H1 locs1 a1 a2 hS1
theorem cl_Sv (S0 : CallFix p m c cc nL s args Ts own)
    (hM : Met l y ws rm (va_Pc As (pW dC dI tys Wc.flatten H.size)) (QV dC dI tys (va_A Wc.flatten H.size) Wc'.flatten) 0 0 (va_A Wc.flatten H.size))
    (cw : CallB R s args own index y bytes maxL ret ws rm 0 0 n ∧ (Cond.static y).before args s = true) (hK : va_K (dC, dI) vwCl tys s) (hP : va_P (dC, dI) vwCl L.flatten H) (hD : va_D A0 L.flatten) (hS : va_S A0 H0 H locs) (hA : ∀ q, H0.size ≤ q → A0 q)
    (j : JN is js L L' Wc Wc') (nd : va_D (fun _ => True) Wc.flatten)
    (hst : st0 = As.reverse ++ rest) (hn : As.length = n) (hsize : ls.size = nL) (hr : (rest.map fun v => v.category).sum ≤ 8) (hdg : decode cc pc = .ok (.invokestatic index, 3))
    (kk : ∀ (H1 : Heap) (locs1 : List Loc), va_P (dC, dI) vwCl L'.flatten H1 → va_D A0 L'.flatten → va_S A0 H0 H1 locs1 → W p l e R s m args below meth c H1 locs1 0 0 Q (F0 m (pc + 3) ls rest)) : W p l e R s m args below meth c H locs 0 0 Q (F0 m pc ls st0) := by
  have hF := jn_free j.1 hD hS hA
  refine va_callv (va_runS (rest := rest) S0 hM cw ⟨fb_pW, fun U hU hW => ⟨rfl, by rw [hU], by rw [hU]; exact jn_P j.1 hP, va_K.moved hW.alike hK, nd⟩⟩ rfl hn hsize hst (lv_room hr) hdg ⟨Nat.zero_le _, Nat.zero_le _⟩) hS (fun q _ h => hF q h) hF (fun u t H1 locs1 ht hvm hw hB hz1 hk1 hS1 => ?_)
  obtain ⟨hP1, -, -⟩ := hB
  rw [ht] at hP1
  obtain ⟨a1, a2⟩ := jn j hP hD hk1 hP1
  exact kk H1 locs1 a1 a2 hS1
theorem tp_e {pc : Nat} {ls : Array Slot} {x y : Int32} (h : y = x) (k : W p l e R s m args below meth c H locs 0 0 Q (F0 m pc ls (.int y :: rest))) : W p l e R s m args below meth c H locs 0 0 Q (F0 m pc ls (.int x :: rest)) := h ▸ k
end CL
/-- the head of every contract -/
theorem mt_of {l : Launch} {y : MethodName} {ws ws' : List Cond} {rm : Room} {dC : Nat → ClassId} {dI : Nat → Nat → Nat} {tys : List (ClassId × FieldType)} {w : va_W} {sz : Nat} {av : List Value} {Qc : (Nat → Prop) → Array Value → State → Outcome → State → Prop} {cc : ByteArray} {maxL : Nat} {ret : Option FieldType} {own : String} (hown : y.cls = own)
    (hy : plainName y.cls = true) (hw : ws = Cond.code y cc maxL ret :: ws') (hlen : (lg_sl av).length ≤ maxL)
    (body : ∀ (p : Program) (e : Env) (s : State) (m : MethodId) (below : List Frame) (meth : Method) (c : Code) (A : Nat → Prop) (ls : Array Slot), s.heap.size = sz → p.tables.exec = Jvm.exec → c.code = cc → meth.sig.returnType = ret → (∀ w ∈ ws, w.before av.toArray s = true) → s.vm.findClass own = some m.cls → meth.locks = false → c.maxLocals = maxL → (∀ q : Nat, s.heap.size ≤ q → A q) → va_K (dC, dI) vwCl tys s → va_P (dC, dI) vwCl w s.heap → va_D A w → va_S A s.heap s.heap [] → lv_has ls maxL (lv_args 0 av) →
      W p l e (headSpec ws rm).room s m av.toArray below meth c s.heap [] 0 0 (MQ below (Qc A) av.toArray s 0 0 A) (F0 m 0 ls [])) : Met l y ws rm (va_Pc av (pW dC dI tys w sz)) (Qc (va_A w sz)) 0 0 (va_A w sz) := by
  refine Met.ofW (cc := cc) (maxL := maxL) (ret := ret) hy hw ?_
  intro p e s m args below meth c s₁ B hml hv
  obtain ⟨rfl, hsz, hP, hK, hD0⟩ := hv
  have hl := lv_entry av (n := maxL) hlen
  rw [lg_entry_eq]
  subst hown
  subst hsz
  exact body p e s m below meth c _ _ rfl B.exec B.bytes B.returns (atoms_spec (ws := ws) B.pre) (findClass_of_methodNamed B.named) B.notSynchronized hml (fun q h => Or.inr h) hK hP hD0.self va_S.rf hl
theorem nn_e {β : Type} {r : β} {P : Prop} (h : (none : Option β) = some r) : P := by cases h
abbrev fl (L : List va_W) : va_W := List.flatten L
