/-! NEW: constructors: what they need of the tables, the row of verbs, new cells, calls -/
def NW (U : State) : Prop :=
  (va_Nw (.methodLinkNest RX10 9 yX5_init "DockedBikes") U ∧ va_Nw (.methodLinkNest RX10 24 yX3_init "DockedBikes") U ∧ va_Nw (.methodLinkNest RX10 31 yX2_init "DockedBikes") U ∧ va_Nw (.methodLinkNest RX10 38 yX7_init "DockedBikes") U) ∧
  (va_Nw (.methodLinkNest RX5 11 yX6_init "DockedBikes") U ∧ va_Nw (.methodLinkNest RX5 20 yX1_init "DockedBikes") U ∧ va_Nw (.methodLinkNest RX5 27 yX4_init "DockedBikes") U ∧ va_Nw (.methodLinkNest RX5 34 yX8_init "DockedBikes") U) ∧
  va_Nw (.methodLinkNest RX3 9 yX5_init "DockedBikes") U ∧ va_AO "DockedBikes$Road" U ∧ va_Nw (.castable "[LDockedBikes$Verb;" "java/lang/Cloneable") U
theorem NW.warm {s U : State} (hW : s.WarmedH U.vm) (h : NW s) : NW U :=
  ⟨⟨va_Nw.warmM hW h.1.1, va_Nw.warmM hW h.1.2.1, va_Nw.warmM hW h.1.2.2.1, va_Nw.warmM hW h.1.2.2.2⟩, ⟨va_Nw.warmM hW h.2.1.1, va_Nw.warmM hW h.2.1.2.1, va_Nw.warmM hW h.2.1.2.2.1, va_Nw.warmM hW h.2.1.2.2.2⟩, va_Nw.warmM hW h.2.2.1, va_AO.moved hW.alike h.2.2.2.1, va_Nw.warmC hW h.2.2.2.2⟩
theorem NW.calling {U : State} {g : JFrame} {mk : MethodId} {a : Array Value} (h : NW U) : NW (U.calling g mk a) :=
  ⟨⟨va_Nw.same (u := U) rfl rfl h.1.1, va_Nw.same (u := U) rfl rfl h.1.2.1, va_Nw.same (u := U) rfl rfl h.1.2.2.1, va_Nw.same (u := U) rfl rfl h.1.2.2.2⟩, ⟨va_Nw.same (u := U) rfl rfl h.2.1.1, va_Nw.same (u := U) rfl rfl h.2.1.2.1, va_Nw.same (u := U) rfl rfl h.2.1.2.2.1, va_Nw.same (u := U) rfl rfl h.2.1.2.2.2⟩, va_Nw.same (u := U) rfl rfl h.2.2.1, va_AO.moved (u := U) (U := U.calling g mk a) (Vm.Alike.refl U.vm) h.2.2.2.1, va_Nw.same (u := U) rfl rfl h.2.2.2.2⟩
/-- the enum's own row of its constants -/
def VX (en : Nat → Nat) (A : Nat → Prop) (U : State) (H : Heap) : Prop := ∃ (t : Nat) (cell : Cell), va_Z "DockedBikes$Verb" "$VALUES" "[LDockedBikes$Verb;" (.ref t) A U H ∧ H[t]? = some cell ∧ (∀ k, cell.vm ≠ .statics k) ∧ cell.vm ≠ .unknown ∧ cell.slots.size = 10 ∧ (∀ j, j < 10 → cell.slots[j]? = some (.ref (en j))) ∧ U.vm.findClass "[LDockedBikes$Verb;" = some cell.cls ∧ ¬ A t
theorem VX.moved {en : Nat → Nat} {A : Nat → Prop} {u U : State} {H : Heap} (hvm : u.vm.Alike U.vm) (h : VX en A u H) : VX en A U H := by
  obtain ⟨t, cell, h1, h2, h3, h4, h5, h6, h7, h8⟩ := h
  exact ⟨t, cell, va_Z.moved hvm h1, h2, h3, h4, h5, h6, by rw [hvm.findClass]; exact h7, h8⟩
theorem VX.kept {en : Nat → Nat} {A : Nat → Prop} {U : State} {H H1 : Heap} (h : VX en A U H) (hq : ∀ a : Nat, a < H.size → ¬ A a → H1[a]? = H[a]?) : VX en A U H1 := by
  obtain ⟨t, cell, h1, h2, h3, h4, h5, h6, h7, h8⟩ := h
  exact ⟨t, cell, h1.kept hq, by rw [hq t (Array.getElem?_eq_some_iff.mp h2).1 h8]; exact h2, h3, h4, h5, h6, h7, h8⟩
theorem VX.narrow {en : Nat → Nat} {A B : Nat → Prop} {U : State} {H : Heap} (h : VX en A U H) (hq : ∀ q, B q → A q) : VX en B U H := by
  obtain ⟨t, cell, h1, h2, h3, h4, h5, h6, h7, h8⟩ := h
  exact ⟨t, cell, h1.narrow hq, h2, h3, h4, h5, h6, h7, fun z => h8 (hq t z)⟩
abbrev pV (dC : Nat → ClassId) (dI : Nat → Nat → Nat) (tys : List (ClassId × FieldType)) (en : Nat → Nat) (w : va_W) (sz : Nat) : State → Prop := fun U => pW dC dI tys w sz U ∧ NW U ∧ VX en (va_A w sz) U U.heap
theorem fb_pV {dC : Nat → ClassId} {dI : Nat → Nat → Nat} {tys : List (ClassId × FieldType)} {en : Nat → Nat} {ws : va_W} {sz : Nat} {av : List Value} : FrameBlind (va_Pc av (pV dC dI tys en ws sz)) := fun a U g mk q => by
  obtain ⟨q0, ⟨q1, qP, qK, qD⟩, qN, qE⟩ := q
  exact ⟨q0, ⟨q1, qP, va_K.moved (u := U) (U := U.calling g mk a) (Vm.Alike.refl U.vm) qK, qD⟩, qN.calling, VX.moved (u := U) (U := U.calling g mk a) (Vm.Alike.refl U.vm) qE⟩
theorem mt_V {l : Launch} {y : MethodName} {ws ws' : List Cond} {rm : Room} {dC : Nat → ClassId} {dI : Nat → Nat → Nat} {tys : List (ClassId × FieldType)} {en : Nat → Nat} {w : va_W} {sz mc ms : Nat} {av : List Value} {Qc : (Nat → Prop) → Array Value → State → Outcome → State → Prop} {cc : ByteArray} {maxL : Nat} {ret : Option FieldType} {own : String} (hown : y.cls = own)
    (hy : plainName y.cls = true) (hw : ws = Cond.code y cc maxL ret :: ws') (hlen : (lg_sl av).length ≤ maxL)
    (body : ∀ (p : Program) (e : Env) (s : State) (m : MethodId) (below : List Frame) (meth : Method) (c : Code) (A : Nat → Prop) (ls : Array Slot), s.heap.size = sz → p.tables.exec = Jvm.exec → c.code = cc → meth.sig.returnType = ret → (∀ w ∈ ws, w.before av.toArray s = true) → s.vm.findClass own = some m.cls → meth.locks = false → c.maxLocals = maxL → (∀ q : Nat, s.heap.size ≤ q → A q) → va_K (dC, dI) vwCl tys s → va_P (dC, dI) vwCl w s.heap → va_D A w → va_S A s.heap s.heap [] → lv_has ls maxL (lv_args 0 av) → NW s → VX en A s s.heap → meth.name = y.name →
      W p l e (headSpec ws rm).room s m av.toArray below meth c s.heap [] 0 0 (MQ below (Qc A) av.toArray s mc ms A) (F0 m 0 ls [])) : Met l y ws rm (va_Pc av (pV dC dI tys en w sz)) (Qc (va_A w sz)) mc ms (va_A w sz) := by
  refine Met.ofW (cc := cc) (maxL := maxL) (ret := ret) hy hw ?_
  intro p e s m args below meth c s₁ B hml hv
  obtain ⟨rfl, ⟨hsz, hP, hK, hD0⟩, hN, hV⟩ := hv
  have hl := lv_entry av (n := maxL) hlen
  rw [lg_entry_eq]
  have hin := (name_of_methodNamed B.named B.method).1
  subst hown
  subst hsz
  exact body p e s m below meth c _ _ rfl B.exec B.bytes B.returns (atoms_spec (ws := ws) B.pre) (findClass_of_methodNamed B.named) B.notSynchronized hml (fun q h => Or.inr h) hK hP hD0.self va_S.rf hl hN hV hin
theorem fl_push {L : List va_W} {x : Nat × va_E} : List.flatten L ++ [x] = List.flatten (L ++ [[x]]) := by
  rw [List.flatten_append]
  simp
/-- a new object becomes what its constructor made of it -/
theorem nw_join {A0 : Nat → Prop} {D : va_G} {cl : List vw_C} {X w1 : va_W} {b : Nat} {x : va_E} {H H1 : Heap} (hP : va_P D cl (X ++ [(b, x)]) H) (hD : va_D A0 (X ++ [(b, x)])) (hk : ∀ q : Nat, q < H.size → ¬ va_A [(b, x)] H.size q → H1[q]? = H[q]?) (hF : ∀ q, va_A [(b, x)] H.size q → A0 q) (hP1 : va_P D cl w1 H1) (hD1 : va_D (va_A [(b, x)] H.size) w1) : va_P D cl (X ++ w1) H1 ∧ va_D A0 (X ++ w1) := by
  have at0 : ∀ (k : Nat) (q : Nat × va_E), X[k]? = some q → k < X.length ∧ (X ++ [(b, x)])[k]? = some q := fun k q hq => by
    have hl := (List.getElem?_eq_some_iff.mp hq).1
    exact ⟨hl, by rw [List.getElem?_append_left hl]; exact hq⟩
  have atb : (X ++ [(b, x)])[X.length]? = some (b, x) := by
    rw [List.getElem?_append_right (Nat.le_refl _), Nat.sub_self]
    rfl
  have apart : ∀ (k : Nat) (q : Nat × va_E), X[k]? = some q → q.1 < H.size ∧ ¬ va_A [(b, x)] H.size q.1 := by
    intro k q hq
    obtain ⟨h1, h2⟩ := at0 k q hq
    have hl := (hP k q h2).lt
    refine ⟨hl, fun h => ?_⟩
    rcases h with ⟨k2, e, h⟩ | h
    · have hb : q.1 = b := by
        cases k2 with
        | zero => exact (Prod.mk.inj (Option.some.inj h)).1.symm
        | succ k2 => cases h
      have := hD.1 k X.length q (b, x) h2 atb hb
      omega
    · omega
  refine ⟨va_P.app (fun k q hq => ?_) hP1, va_D.app ⟨fun i j p q hi hj hpq => hD.1 i j p q (at0 i p hi).2 (at0 j q hj).2 hpq, fun k q hq => hD.2 k q (at0 k q hq).2⟩ (hD1.weaken (fun k q _ h => hF q.1 h)) (fun i j p q hi hj hpq => ?_)⟩
  · obtain ⟨g1, g2⟩ := apart k q hq
    exact (hP k q (at0 k q hq).2).kept (hk q.1 g1 g2)
  · exact (apart i p hi).2 (by rw [hpq]; exact hD1.2 j q hj)
theorem nw_at {D : va_G} {cl : List vw_C} {X Y : va_W} {q q' : Nat × va_E} {H : Heap} (hP : va_P D cl (X ++ q :: Y) H) (h : va_at D cl q H → va_at D cl q' H) : va_P D cl (X ++ q' :: Y) H := by
  intro k z hz
  by_cases h1 : k < X.length
  · rw [List.getElem?_append_left h1] at hz
    exact hP k z (by rw [List.getElem?_append_left h1]; exact hz)
  · rw [List.getElem?_append_right (by omega)] at hz
    obtain ⟨j, hj⟩ : ∃ j, j = k - X.length := ⟨_, rfl⟩
    rw [← hj] at hz
    cases j with
    | zero =>
      cases hz
      exact h (hP X.length q (by rw [List.getElem?_append_right (Nat.le_refl _), Nat.sub_self]; rfl))
    | succ j => exact hP k z (by rw [List.getElem?_append_right (by omega), ← hj]; exact hz)
theorem arrV_cg {cA : ClassId} {N : Nat} {f g : Nat → Value} (h : ∀ k, k < N → f k = g k) : arrV cA N f = arrV cA N g := by
  unfold arrV
  have : (fun j : Fin N => f j.val) = (fun j : Fin N => g j.val) := funext (fun j => h j.val j.isLt)
  rw [this]
section NWR
variable {p : Program} {l : Launch} {e : Env} {R : Room} {s : State} {m : MethodId} {args : Array Value} {below : List Frame} {meth : Method} {c : Code} {H : Heap} {locs : List Loc} {Q : State → Prop} {cells slots : Nat}
variable {cc bytes : ByteArray} {pc nL index maxL n mc ms : Nat} {ls : Array Slot} {rest st0 As : List Value} {Ts ws : List Cond} {own C host : String} {y : MethodName} {rm : Room} {dC : Nat → ClassId} {dI : Nat → Nat → Nat} {L : List va_W} {A0 : Nat → Prop} {H0 : Heap} {b a : Addr} {en : Nat → Nat} {cs : Nat → ClassId}
theorem nw_ai (hexec : p.tables.exec = Jvm.exec) (hb : c.code = cc) (harr : (Cond.arrayClass .int).before args s = true) (hK : va_K (dC, dI) vwCl (tyL cs) s) (hP : va_P (dC, dI) vwCl L.flatten H) (hD : va_D A0 L.flatten) (hS : va_S A0 H0 H locs) (hA : ∀ q, H0.size ≤ q → A0 q)
    {n : Int32} {N : Nat} (hn : ¬ n < 0) (hN : n.toNatClampNeg = N) (hbytes : N * componentBytes .int ≤ 536870912) (hcells : cells + 1 ≤ R.cells) (hslots : slots + N ≤ R.slots) (hdg : decode cc pc = .ok (.newarray .int, 2))
    (kk : ∀ (q : Nat) (H1 : Heap), va_P (dC, dI) vwCl (List.flatten (L ++ [[(q, .inl (cs 0, N, .inl (fun _ => 0)))]])) H1 → va_D A0 (List.flatten (L ++ [[(q, .inl (cs 0, N, .inl (fun _ => 0)))]])) → va_S A0 H0 H1 locs → W p l e R s m args below meth c H1 locs (cells + 1) (slots + N) Q (F0 m (pc + 2) ls (.ref q :: rest))) : W p l e R s m args below meth c H locs cells slots Q (F0 m pc ls (.int n :: rest)) := by
  refine va_newa hexec hb (atype := .int) harr (ty := .int) rfl hK hP hD hS hA (a0 := (N, .inl (fun _ => 0))) (fun _ => rfl) hn hN hbytes hcells hslots hdg (fun q cA H1 hK' hP' hD' hS' => ?_)
  have e : cA = cs 0 := Option.some.inj ((va_nm_int (hK'.2 4 (cA, .int) rfl).2).symm.trans (va_nm_int (hK.2 0 (cs 0, .int) rfl).2))
  subst e
  rw [fl_push] at hP' hD'
  exact kk q H1 hP' hD' hS'
theorem nw_ac (hexec : p.tables.exec = Jvm.exec) (hb : c.code = cc) (harr : (Cond.arrayClass .char).before args s = true) (hK : va_K (dC, dI) vwCl (tyL cs) s) (hP : va_P (dC, dI) vwCl L.flatten H) (hD : va_D A0 L.flatten) (hS : va_S A0 H0 H locs) (hA : ∀ q, H0.size ≤ q → A0 q)
    {n : Int32} {N : Nat} (hn : ¬ n < 0) (hN : n.toNatClampNeg = N) (hbytes : N * componentBytes .char ≤ 536870912) (hcells : cells + 1 ≤ R.cells) (hslots : slots + N ≤ R.slots) (hdg : decode cc pc = .ok (.newarray .char, 2))
    (kk : ∀ (q : Nat) (H1 : Heap), va_P (dC, dI) vwCl (List.flatten (L ++ [[(q, .inl (cs 1, N, .inl (fun _ => 0)))]])) H1 → va_D A0 (List.flatten (L ++ [[(q, .inl (cs 1, N, .inl (fun _ => 0)))]])) → va_S A0 H0 H1 locs → W p l e R s m args below meth c H1 locs (cells + 1) (slots + N) Q (F0 m (pc + 2) ls (.ref q :: rest))) : W p l e R s m args below meth c H locs cells slots Q (F0 m pc ls (.int n :: rest)) := by
  refine va_newa hexec hb (atype := .char) harr (ty := .char) rfl hK hP hD hS hA (a0 := (N, .inl (fun _ => 0))) (fun _ => rfl) hn hN hbytes hcells hslots hdg (fun q cA H1 hK' hP' hD' hS' => ?_)
  have e : cA = cs 1 := Option.some.inj ((va_nm_char (hK'.2 4 (cA, .char) rfl).2).symm.trans (va_nm_char (hK.2 1 (cs 1, .char) rfl).2))
  subst e
  rw [fl_push] at hP' hD'
  exact kk q H1 hP' hD' hS'
theorem nw_ao (hexec : p.tables.exec = Jvm.exec) (hb : c.code = cc) (hown : s.vm.findClass own = some m.cls) (hclink : (Cond.classLink own index "DockedBikes$Road").before args s = true) (hN : NW s) (hK : va_K (dC, dI) vwCl (tyL cs) s) (hP : va_P (dC, dI) vwCl L.flatten H) (hD : va_D A0 L.flatten) (hS : va_S A0 H0 H locs) (hA : ∀ q, H0.size ≤ q → A0 q)
    {n : Int32} {N : Nat} (hn : ¬ n < 0) (hNn : n.toNatClampNeg = N) (hbytes : N * 4 ≤ 536870912) (hcells : cells + 1 ≤ R.cells) (hslots : slots + N ≤ R.slots) (hdg : decode cc pc = .ok (.anewarray index, 3))
    (kk : ∀ (q : Nat) (H1 : Heap), va_P (dC, dI) vwCl (List.flatten (L ++ [[(q, .inl (cs 2, N, .inr (.inr (.inr (.inr (fun _ => none))))))]])) H1 → va_D A0 (List.flatten (L ++ [[(q, .inl (cs 2, N, .inr (.inr (.inr (.inr (fun _ => none))))))]])) → va_S A0 H0 H1 locs → W p l e R s m args below meth c H1 locs (cells + 1) (slots + N) Q (F0 m (pc + 3) ls (.ref q :: rest))) : W p l e R s m args below meth c H locs cells slots Q (F0 m pc ls (.int n :: rest)) := by
  refine va_newq hexec hb hown hclink hN.2.2.2.1 hK hP hD hS hA hn hNn hbytes hcells hslots hdg (fun q cA H1 hK' hP' hD' hS' => ?_)
  have e : cA = cs 2 := Option.some.inj ((va_nmO (hK'.2 4 (cA, .object "DockedBikes$Road") rfl).2 rfl).symm.trans (va_nmO (hK.2 2 (cs 2, .object "DockedBikes$Road") rfl).2 rfl))
  subst e
  rw [fl_push] at hP' hD'
  exact kk q H1 hP' hD' hS'
theorem nw_clone (hexec : p.tables.exec = Jvm.exec) (hb : c.code = cc) (hml : c.maxLocals = ls.size) (hown : s.vm.findClass own = some m.cls)
    (hlink : (Cond.methodLink own index ⟨"[LDockedBikes$Verb;", "clone", "()Ljava/lang/Object;"⟩).before args s = true) (hsame : (Cond.sameMethod "[LDockedBikes$Verb;" "java/lang/Object" "clone" "()Ljava/lang/Object;").before args s = true)
    (hnat : (Cond.native ⟨"java/lang/Object", "clone", "()Ljava/lang/Object;"⟩).before args s = true) (hinst : (Cond.instanceMethod ⟨"java/lang/Object", "clone", "()Ljava/lang/Object;"⟩).before args s = true)
    (hsel : (Cond.selects "[LDockedBikes$Verb;" ⟨"[LDockedBikes$Verb;", "clone", "()Ljava/lang/Object;"⟩ ⟨"java/lang/Object", "clone", "()Ljava/lang/Object;"⟩).before args s = true) (hN : NW s)
    (hK : va_K (dC, dI) vwCl (tyL cs) s) (hP : va_P (dC, dI) vwCl L.flatten H) (hD : va_D A0 L.flatten) (hS : va_S A0 H0 H locs) (hA : ∀ q, H0.size ≤ q → A0 q) {cell : Cell} (hcell : H[a]? = some cell) (hobj : ∀ k, cell.vm ≠ .statics k) (hknown : cell.vm ≠ .unknown) (hsz : cell.slots.size = 10) (hel : ∀ j, j < 10 → cell.slots[j]? = some (.ref (en j))) (hcls : s.vm.findClass "[LDockedBikes$Verb;" = some cell.cls)
    (hframes : 1 ≤ R.frames) (hlocals : (rest.map fun v => v.category).sum + 14 ≤ R.locals) (hcells : cells + 1 ≤ R.cells) (hslots : slots + 10 ≤ R.slots) (hdg : decode cc pc = .ok (.invokevirtual index, 3))
    (kk : ∀ (q : Nat) (H1 : Heap), va_P (dC, dI) vwCl (List.flatten (L ++ [[(q, .inl (cs 3, 10, .inr (.inr (.inr (.inr (fun k => some (en k)))))))]])) H1 → va_D A0 (List.flatten (L ++ [[(q, .inl (cs 3, 10, .inr (.inr (.inr (.inr (fun k => some (en k)))))))]])) → va_S A0 H0 H1 locs → W p l e R s m args below meth c H1 locs (cells + 1) (slots + 10) Q (F0 m (pc + 3) ls (.ref q :: rest))) : W p l e R s m args below meth c H locs cells slots Q (F0 m pc ls (.ref a :: rest)) := by
  have hcs : cs 3 = cell.cls := Option.some.inj ((va_nmO (hK.2 3 (cs 3, .object "DockedBikes$Verb") rfl).2 rfl).symm.trans hcls)
  have hsl : cell.slots = Array.ofFn (n := 10) (fun j => va_rf (some (en j.val))) := by
    refine Array.ext (by rw [hsz, Array.size_ofFn]) (fun i h1 h2 => ?_)
    have h3 := hel i (by rw [hsz] at h1; exact h1)
    rw [Array.getElem?_eq_getElem h1] at h3
    rw [Option.some.inj h3, Array.getElem_ofFn]
    rfl
  have hce : ({ cls := cell.cls, slots := cell.slots } : Cell) = vp_cell (cs 3) (10, .inr (.inr (.inr (.inr (fun k => some (en k)))))) := by
    rw [hcs, hsl]
    rfl
  obtain ⟨c0, t0', f1, f2, f3⟩ := Cond.castable_spec (va_Nw.use (A := args) rfl hN.2.2.2.2)
  cases hcls.symm.trans f1
  intro T hT X
  have hcellT : T.heap[a]? = some cell := by rw [hT]; exact hcell
  obtain ⟨-, kA, hkA, comp, hkind⟩ := State.isArrayOf_alike X.warmed.alike ((hK.2 3 _ rfl).1 0 (fun _ => .null))
  obtain ⟨-, kS, hkS, compS, hkindS⟩ := (hK.2 3 _ rfl).1 0 (fun _ => .null)
  have hkA2 : T.vm.classes[cell.cls]? = some kA := by rw [← hcs]; exact hkA
  have hkS2 : s.vm.classes[cell.cls]? = some kS := by rw [← hcs]; exact hkS
  obtain ⟨vm', X', st⟩ := X.cloneArray hexec hown hlink hsame hnat hinst hsel (a := a) (cell := cell) hcellT hobj hknown hcls f2 f3
    (fun i v hv => by
      have hi : i < 10 := by rw [← hsz]; exact (Array.getElem?_eq_some_iff.mp hv).1
      have hv2 := hv.symm.trans (hel i hi)
      cases hv2
      simp [State.fitsSlot, State.slotType?, hkA2, hkind, fits])
    (g := F0 m pc ls (.ref a :: rest)) rfl (by rw [hml]) rfl (by rw [hb]; exact hdg) hframes (by show 2 * 0 + _ + 14 ≤ _; omega) hcells (by rw [hsz]; exact hslots) (hloader := Vm.clonesLoader_of_array hkS2 hkindS)
  rw [hce, hsz] at X'
  generalize hH1 : H.push (vp_cell (cs 3) (10, .inr (.inr (.inr (.inr (fun k => some (en k))))))) = H1
  have z1 : H1.size = H.size + 1 := by rw [← hH1, Array.size_push]
  have e1 : H1[H.size]? = some (vp_cell (cs 3) (10, .inr (.inr (.inr (.inr (fun k => some (en k))))))) := by rw [← hH1, Array.getElem?_push_size]
  have o1 : ∀ q : Nat, q < H.size → H1[q]? = H[q]? := fun q hq => by rw [← hH1, Array.getElem?_push, if_neg (Nat.ne_of_lt hq)]
  have hk : ∀ (k : Nat) (y : Nat × va_E), L.flatten[k]? = some y → H1[y.1]? = H[y.1]? := fun k y hy => o1 y.1 ((hP k y hy).lt)
  have hP2 : va_P (dC, dI) vwCl (L.flatten ++ [(H.size, .inl (cs 3, 10, .inr (.inr (.inr (.inr (fun k => some (en k)))))))]) H1 := va_P.app (hP.kept hk) (fun k y hy => by
      have hz : k < 1 := (List.getElem?_eq_some_iff.mp hy).1
      rw [show k = 0 by omega] at hy
      cases hy
      exact e1)
  have hD2 : va_D A0 (L.flatten ++ [(H.size, .inl (cs 3, 10, .inr (.inr (.inr (.inr (fun k => some (en k)))))))]) := hD.push hP rfl (hA _ hS.1)
  rw [fl_push] at hP2 hD2
  obtain ⟨t, b1, b2⟩ := kk H.size H1 hP2 hD2 ⟨Nat.le_trans hS.1 (by omega), fun y h1 h2 => (o1 y (Nat.lt_of_lt_of_le h1 hS.1)).trans (hS.2.1 y h1 h2), hS.2.2⟩
    ((T.setVm vm').pushCell (vp_cell (cs 3) (10, .inr (.inr (.inr (.inr (fun k => some (en k)))))))) (by rw [← hH1, ← hT]; rfl) X'
  refine ⟨t, st t ?_, b2⟩
  rw [hce, hT]
  exact b1
/-- 'new', then a constructor of its nest -/
theorem cl_new {ci : Nat} {fs : List Value} {Wf : (Nat → Nat) → va_W} {tys : List (ClassId × FieldType)} (S0 : CallFix p m c cc nL s args Ts own)
    (hM : Met l y ws rm (va_Pc [.ref b] (pV dC dI tys en [(b, .inr (ci, fs))] H.size)) (va_Qv (fun ad : Nat → Nat => ad 0 = b) (fun ad => qW dC dI tys (va_A [(b, .inr (ci, fs))] H.size) (Wf ad)) (va_A [(b, .inr (ci, fs))] H.size)) mc ms (va_A [(b, .inr (ci, fs))] H.size))
    (cw : va_CN R s args own index y host bytes maxL none ws rm mc ms 0) (hy1 : y.name = "<init>") (hin : (Cond.instanceMethod y).before args s = true) (hK : va_K (dC, dI) vwCl tys s) (hP : va_P (dC, dI) vwCl (List.flatten (L ++ [[(b, .inr (ci, fs))]])) H) (hD : va_D A0 (List.flatten (L ++ [[(b, .inr (ci, fs))]]))) (hS : va_S A0 s.heap H locs) (hA : ∀ q, s.heap.size ≤ q → A0 q) (hN : NW s) (hV : VX en A0 s s.heap)
    (hst : st0 = .ref b :: rest) (hsize : ls.size = nL) (hr : (rest.map fun v => v.category).sum ≤ 8) (hdg : decode cc pc = .ok (.invokespecial index, 3)) (hf : cells + mc ≤ R.cells ∧ slots + ms ≤ R.slots)
    (kk : ∀ (ad : Nat → Nat) (H1 : Heap) (locs1 : List Loc), ad 0 = b → va_P (dC, dI) vwCl (List.flatten (L ++ [Wf ad])) H1 → va_D A0 (List.flatten (L ++ [Wf ad])) → va_S A0 s.heap H1 locs1 → W p l e R s m args below meth c H1 locs1 (cells + mc) (slots + ms) Q (F0 m (pc + 3) ls rest)) : W p l e R s m args below meth c H locs cells slots Q (F0 m pc ls st0) := by
  rw [← fl_push] at hP hD
  have hF : ∀ q, va_A [(b, .inr (ci, fs))] H.size q → A0 q := fun q hq => by
    rcases hq with ⟨k, x, hk⟩ | hk
    · cases k with
      | zero =>
        have hq : q = b := (Prod.mk.inj (Option.some.inj hk)).1.symm
        rw [hq]
        exact hD.2 L.flatten.length (b, .inr (ci, fs)) (by rw [List.getElem?_append_right (Nat.le_refl _), Nat.sub_self]; rfl)
      | succ k => cases hk
    · exact hA q (Nat.le_trans hS.1 hk)
  have hP0 : va_P (dC, dI) vwCl [(b, .inr (ci, fs))] H := fun k q hk => by
    have hz : k < 1 := (List.getElem?_eq_some_iff.mp hk).1
    rw [show k = 0 by omega] at hk
    cases hk
    exact hP L.flatten.length (b, .inr (ci, fs)) (by rw [List.getElem?_append_right (Nat.le_refl _), Nat.sub_self]; rfl)
  have hD0 : va_D (fun _ => True) [(b, (.inr (ci, fs) : va_E))] := ⟨fun i j p q hi hj _ => by
    have h1 : i < 1 := (List.getElem?_eq_some_iff.mp hi).1
    have h2 : j < 1 := (List.getElem?_eq_some_iff.mp hj).1
    omega, fun _ _ _ => trivial⟩
  refine va_callv (va_runIN (As := []) (rest := rest) S0 hM ⟨cw, hy1, hin⟩ ⟨fb_pV, fun U hU hW => ⟨rfl, ⟨by rw [hU], by rw [hU]; exact hP0, va_K.moved hW.alike hK, hD0⟩, hN.warm hW, by rw [hU]; exact ((hV.kept hS.2.1).moved hW.alike).narrow hF⟩⟩ rfl rfl hsize hst (lv_room hr) hdg hf) hS (fun q _ h => hF q h) hF (fun u t H1 locs1 ht hvm hw hB hz1 hk1 hS1 => ?_)
  obtain ⟨hP1, -, hD1⟩ := hB
  rw [ht] at hP1
  obtain ⟨a1, a2⟩ := nw_join hP hD hk1 hF hP1 hD1
  have ef : L.flatten ++ Wf u = List.flatten (L ++ [Wf u]) := by rw [List.flatten_append]; simp
  rw [ef] at a1 a2
  exact kk u H1 locs1 hw a1 a2 hS1
/-- 'new', then a constructor that all may call -/
theorem cl_newI {ci : Nat} {fs : List Value} {Wf : (Nat → Nat) → va_W} {tys : List (ClassId × FieldType)} (S0 : CallFix p m c cc nL s args Ts own)
    (hM : Met l y ws rm (va_Pc [.ref b] (pV dC dI tys en [(b, .inr (ci, fs))] H.size)) (va_Qv (fun ad : Nat → Nat => ad 0 = b) (fun ad => qW dC dI tys (va_A [(b, .inr (ci, fs))] H.size) (Wf ad)) (va_A [(b, .inr (ci, fs))] H.size)) mc ms (va_A [(b, .inr (ci, fs))] H.size))
    (cw : CallB R s args own index y bytes maxL none ws rm mc ms 0 ∧ y.name = "<init>" ∧ (Cond.instanceMethod y).before args s = true) (hK : va_K (dC, dI) vwCl tys s) (hP : va_P (dC, dI) vwCl (List.flatten (L ++ [[(b, .inr (ci, fs))]])) H) (hD : va_D A0 (List.flatten (L ++ [[(b, .inr (ci, fs))]]))) (hS : va_S A0 s.heap H locs) (hA : ∀ q, s.heap.size ≤ q → A0 q) (hN : NW s) (hV : VX en A0 s s.heap)
    (hst : st0 = .ref b :: rest) (hsize : ls.size = nL) (hr : (rest.map fun v => v.category).sum ≤ 8) (hdg : decode cc pc = .ok (.invokespecial index, 3)) (hf : cells + mc ≤ R.cells ∧ slots + ms ≤ R.slots)
    (kk : ∀ (ad : Nat → Nat) (H1 : Heap) (locs1 : List Loc), ad 0 = b → va_P (dC, dI) vwCl (List.flatten (L ++ [Wf ad])) H1 → va_D A0 (List.flatten (L ++ [Wf ad])) → va_S A0 s.heap H1 locs1 → W p l e R s m args below meth c H1 locs1 (cells + mc) (slots + ms) Q (F0 m (pc + 3) ls rest)) : W p l e R s m args below meth c H locs cells slots Q (F0 m pc ls st0) := by
  rw [← fl_push] at hP hD
  have hF : ∀ q, va_A [(b, .inr (ci, fs))] H.size q → A0 q := fun q hq => by
    rcases hq with ⟨k, x, hk⟩ | hk
    · cases k with
      | zero =>
        have hq : q = b := (Prod.mk.inj (Option.some.inj hk)).1.symm
        rw [hq]
        exact hD.2 L.flatten.length (b, .inr (ci, fs)) (by rw [List.getElem?_append_right (Nat.le_refl _), Nat.sub_self]; rfl)
      | succ k => cases hk
    · exact hA q (Nat.le_trans hS.1 hk)
  have hP0 : va_P (dC, dI) vwCl [(b, .inr (ci, fs))] H := fun k q hk => by
    have hz : k < 1 := (List.getElem?_eq_some_iff.mp hk).1
    rw [show k = 0 by omega] at hk
    cases hk
    exact hP L.flatten.length (b, .inr (ci, fs)) (by rw [List.getElem?_append_right (Nat.le_refl _), Nat.sub_self]; rfl)
  have hD0 : va_D (fun _ => True) [(b, (.inr (ci, fs) : va_E))] := ⟨fun i j p q hi hj _ => by
    have h1 : i < 1 := (List.getElem?_eq_some_iff.mp hi).1
    have h2 : j < 1 := (List.getElem?_eq_some_iff.mp hj).1
    omega, fun _ _ _ => trivial⟩
  refine va_callv (va_runI (As := []) (rest := rest) S0 hM cw ⟨fb_pV, fun U hU hW => ⟨rfl, ⟨by rw [hU], by rw [hU]; exact hP0, va_K.moved hW.alike hK, hD0⟩, hN.warm hW, by rw [hU]; exact ((hV.kept hS.2.1).moved hW.alike).narrow hF⟩⟩ rfl rfl hsize hst (lv_room hr) hdg hf) hS (fun q _ h => hF q h) hF (fun u t H1 locs1 ht hvm hw hB hz1 hk1 hS1 => ?_)
  obtain ⟨hP1, -, hD1⟩ := hB
  rw [ht] at hP1
  obtain ⟨a1, a2⟩ := nw_join hP hD hk1 hF hP1 hD1
  have ef : L.flatten ++ Wf u = List.flatten (L ++ [Wf u]) := by rw [List.flatten_append]; simp
  rw [ef] at a1 a2
  exact kk u H1 locs1 hw a1 a2 hS1
end NWR
theorem k_X9_values (l : Launch) (dC : Nat → ClassId) (dI : Nat → Nat → Nat) (cs : Nat → ClassId) (en : Nat → Nat) (sz : Nat) : Met l yX9_values wsX9_values ({ frames := 1, cells := 1, slots := 10, locals := 14 } : Room) (va_Pc [] (pV dC dI (tyL cs) en [] sz)) (va_Qr (fun (_ : Unit) => True) (fun _ a t => qW dC dI (tyL cs) (va_A [] sz) [(a, .inl (cs 3, 10, .inr (.inr (.inr (.inr (fun k => some (en k)))))))] t) (va_A [] sz)) 1 10 (va_A [] sz) := by
  refine mt_V (own := RX9) (cc := cX9_values) (maxL := 0) (ret := (some (.array (.object "DockedBikes$Verb")))) (Qc := fun A => va_Qr (fun (_ : Unit) => True) (fun _ a t => qW dC dI (tyL cs) A [(a, .inl (cs 3, 10, .inr (.inr (.inr (.inr (fun k => some (en k)))))))] t) A) rfl (by decide) rfl (Nat.le_of_ble_eq_true rfl) (fun p e s m below meth c A ls hsz hx hb hr hts hown hlocks hml hA hK hP hD hS hl hN hV hin => ?_)
  subst hsz
  obtain ⟨t, cell, v1, v2, v3, v4, v5, v6, v7, v8⟩ := hV
  refine va_gets hx hb v1 hS hown (hts (.fieldLink RX9 34 "DockedBikes$Verb" "$VALUES" "[LDockedBikes$Verb;") (List.mem_of_getElem? (i := 1) rfl)) (fun _ h9 => h9) dX9_values_0 ?_
  refine nw_clone (L := []) hx hb (hml.trans hl.1.symm) hown (hts (.methodLink RX9 38 ⟨"[LDockedBikes$Verb;", "clone", "()Ljava/lang/Object;"⟩) (List.mem_of_getElem? (i := 2) rfl)) (hts (.sameMethod "[LDockedBikes$Verb;" "java/lang/Object" "clone" "()Ljava/lang/Object;") (List.mem_of_getElem? (i := 3) rfl)) (hts (.native ⟨"java/lang/Object", "clone", "()Ljava/lang/Object;"⟩) (List.mem_of_getElem? (i := 4) rfl)) (hts (.instanceMethod ⟨"java/lang/Object", "clone", "()Ljava/lang/Object;"⟩) (List.mem_of_getElem? (i := 5) rfl)) (hts (.selects "[LDockedBikes$Verb;" ⟨"[LDockedBikes$Verb;", "clone", "()Ljava/lang/Object;"⟩ ⟨"java/lang/Object", "clone", "()Ljava/lang/Object;"⟩) (List.mem_of_getElem? (i := 6) rfl)) hN hK hP hD hS hA v2 v3 v4 v5 v6 v7 (Nat.le_of_ble_eq_true rfl) (Nat.le_of_ble_eq_true rfl) (Nat.le_of_ble_eq_true rfl) (Nat.le_of_ble_eq_true rfl) dX9_values_3 (fun q H1 hP1 hD1 hS1 => ?_)
  refine va_castA hx hb hown (hts (.classLink RX9 39 "[LDockedBikes$Verb;") (List.mem_of_getElem? (i := 7) rfl)) hP1 0 rfl (va_nmO (hK.2 3 (cs 3, .object "DockedBikes$Verb") rfl).2 rfl) dX9_values_6 ?_
  exact W.aret hx hb hr (Or.inr ⟨_, rfl⟩) (Or.inr ⟨_, rfl⟩) (fun t ht hW => ⟨⟨(), _, rfl, trivial, by rw [ht]; exact hP1, va_K.moved hW.alike hK, hD1⟩, hS1.F ht⟩) hS1.2.2 dX9_values_9
section NWV
variable {p : Program} {l : Launch} {e : Env} {R : Room} {s : State} {m : MethodId} {args : Array Value} {below : List Frame} {meth : Method} {c : Code} {H : Heap} {locs : List Loc} {Q : State → Prop} {cells slots : Nat}
variable {cc : ByteArray} {pc nL index : Nat} {ls : Array Slot} {rest : List Value} {Ts : List Cond} {own : String} {dC : Nat → ClassId} {dI : Nat → Nat → Nat} {L : List va_W} {A0 : Nat → Prop} {en : Nat → Nat} {cs : Nat → ClassId}
/-- a row of the verbs of its own -/
theorem cl_vals (S0 : CallFix p m c cc nL s args Ts own)
    (cw : CallB R s args own index yX9_values cX9_values 0 (some (.array (.object "DockedBikes$Verb"))) wsX9_values ({ frames := 1, cells := 1, slots := 10, locals := 14 } : Room) 1 10 0 ∧ (Cond.static yX9_values).before args s = true) (hK : va_K (dC, dI) vwCl (tyL cs) s) (hP : va_P (dC, dI) vwCl L.flatten H) (hD : va_D A0 L.flatten) (hS : va_S A0 s.heap H locs) (hA : ∀ q, s.heap.size ≤ q → A0 q) (hN : NW s) (hV : VX en A0 s s.heap)
    (hsize : ls.size = nL) (hr : (rest.map fun v => v.category).sum ≤ 8) (hdg : decode cc pc = .ok (.invokestatic index, 3)) (hf : cells + 1 ≤ R.cells ∧ slots + 10 ≤ R.slots)
    (kk : ∀ (a : Nat) (H1 : Heap) (locs1 : List Loc), va_P (dC, dI) vwCl (List.flatten (L ++ [[(a, .inl (cs 3, 10, .inr (.inr (.inr (.inr (fun k => some (en k)))))))]])) H1 → va_D A0 (List.flatten (L ++ [[(a, .inl (cs 3, 10, .inr (.inr (.inr (.inr (fun k => some (en k)))))))]])) → va_S A0 s.heap H1 locs1 → W p l e R s m args below meth c H1 locs1 (cells + 1) (slots + 10) Q (F0 m (pc + 3) ls (.ref a :: rest))) : W p l e R s m args below meth c H locs cells slots Q (F0 m pc ls rest) := by
  have hF : ∀ q, va_A [] H.size q → A0 q := fun q hq => by
    rcases hq with ⟨k, x, hk⟩ | hk
    · cases hk
    · exact hA q (Nat.le_trans hS.1 hk)
  have hP0 : va_P (dC, dI) vwCl [] H := fun k q hk => by cases hk
  have hD0 : va_D (fun _ => True) [] := ⟨(fun i j p q hi _ _ => by cases hi), fun _ _ _ => trivial⟩
  refine va_callr (va_runS (As := []) (rest := rest) S0 (k_X9_values l dC dI cs en H.size) cw ⟨fb_pV, fun U hU hW => ⟨rfl, ⟨by rw [hU], by rw [hU]; exact hP0, va_K.moved hW.alike hK, hD0⟩, hN.warm hW, by rw [hU]; exact ((hV.kept hS.2.1).moved hW.alike).narrow hF⟩⟩ rfl rfl hsize rfl (lv_room hr) hdg hf) hS (fun q _ h => hF q h) hF (fun u ra t H1 locs1 ht hvm hw hB hz1 hk1 hS1 => ?_)
  obtain ⟨hP1, -, hD1⟩ := hB
  rw [ht] at hP1
  have apart : ∀ (k : Nat) (q : Nat × va_E), L.flatten[k]? = some q → q.1 < H.size ∧ ¬ va_A [] H.size q.1 := fun k q hq => by
    have hl := (hP k q hq).lt
    refine ⟨hl, fun h => ?_⟩
    rcases h with ⟨k2, x, h⟩ | h
    · cases h
    · omega
  have a1 : va_P (dC, dI) vwCl (L.flatten ++ [(ra, .inl (cs 3, 10, .inr (.inr (.inr (.inr (fun k => some (en k)))))))]) H1 := va_P.app (fun k q hq => (hP k q hq).kept (hk1 q.1 (apart k q hq).1 (apart k q hq).2)) hP1
  have a2 : va_D A0 (L.flatten ++ [(ra, .inl (cs 3, 10, .inr (.inr (.inr (.inr (fun k => some (en k)))))))]) := va_D.app hD (hD1.weaken (fun k q _ h => hF q.1 h)) (fun i j p q hi hj hpq => (apart i p hi).2 (by rw [hpq]; exact hD1.2 j q hj))
  rw [fl_push] at a1 a2
  exact kk ra H1 locs1 a1 a2 hS1
end NWV
