/-! BASE L: calls of the law's methods, at any room; a row of numbers made on the way -/
set_option maxRecDepth 100000 in
theorem w_X10_fst (ad : Nat → Nat) (b : Nat) (cs : Nat → ClassId) (en : Nat → Nat) (S S' : T5) : (w_X10 ad b cs en S').map Prod.fst = (w_X10 ad b cs en S).map Prod.fst := rfl
section CM
variable {p : Program} {l : Launch} {e : Env} {R : Room} {s : State} {m : MethodId} {args : Array Value} {below : List Frame} {meth : Method} {c : Code} {H : Heap} {locs : List Loc} {Q : State → Prop} {cells slots mc ms : Nat}
variable {cc bytes : ByteArray} {pc nL index maxL n : Nat} {ls : Array Slot} {rest st0 As : List Value} {Ts ws : List Cond} {own C : String} {y : MethodName} {ret : Option FieldType} {rm : Room} {dC : Nat → ClassId} {dI : Nat → Nat → Nat} {tys : List (ClassId × FieldType)} {is js : List Nat} {L L' Wc Wc' : List va_W} {A0 : Nat → Prop} {H0 : Heap} {b : Addr} {r : Int32}
theorem cm_Vi (S0 : CallFix p m c cc nL s args Ts own)
    (hM : Met l y ws rm (va_Pc (.ref b :: As) (pW dC dI tys Wc.flatten H.size)) (QI dC dI tys (va_A Wc.flatten H.size) Wc'.flatten r) 0 0 (va_A Wc.flatten H.size))
    (cw : CallW R s args own C index y bytes maxL ret ws rm 0 0 n) (hK : va_K (dC, dI) vwCl tys s) (hP : va_P (dC, dI) vwCl L.flatten H) (hD : va_D A0 L.flatten) (hS : va_S A0 H0 H locs) (hA : ∀ q, H0.size ≤ q → A0 q)
    (j : JN is js L L' Wc Wc') (nd : va_D (fun _ => True) Wc.flatten) (q0 ci : Nat) {q : vw_C} {fs : List Value} (hc : vwCl[ci]? = some q) (hq : q.1 = C) (he : L.flatten[q0]? = some (b, .inr (ci, fs)))
    (hst : st0 = As.reverse ++ .ref b :: rest) (hn : As.length = n) (hsize : ls.size = nL) (hr : (rest.map fun v => v.category).sum ≤ 8) (hdg : decode cc pc = .ok (.invokevirtual index, 3)) (hf : cells ≤ R.cells ∧ slots ≤ R.slots)
    (kk : ∀ (H1 : Heap) (locs1 : List Loc), va_P (dC, dI) vwCl L'.flatten H1 → va_D A0 L'.flatten → va_S A0 H0 H1 locs1 → W p l e R s m args below meth c H1 locs1 cells slots Q (F0 m (pc + 3) ls (.int r :: rest))) : W p l e R s m args below meth c H locs cells slots Q (F0 m pc ls st0) := by
  have hF := jn_free j.1 hD hS hA
  have hrec : ∃ cell : Cell, H[b]? = some cell ∧ cell.vm.isStatics = false ∧ s.vm.findClass C = some cell.cls := by
    rw [← hq]
    exact va_recv hK hP hc he
  refine va_calli (va_runV (rest := rest) S0 hM cw ⟨fb_pW, hrec, fun U hU hW => ⟨rfl, by rw [hU], by rw [hU]; exact jn_P j.1 hP, va_K.moved hW.alike hK, nd⟩⟩ rfl hn hsize hst (lv_room hr) hdg hf) hS (fun q _ h => hF q h) hF (fun r1 u t H1 locs1 ht hvm hw hB hz1 hk1 hS1 => ?_)
  obtain ⟨hP1, -, -⟩ := hB
  rw [ht] at hP1
  obtain ⟨a1, a2⟩ := jn j hP hD hk1 hP1
  subst hw
  exact kk H1 locs1 a1 a2 hS1
theorem cm_Si (S0 : CallFix p m c cc nL s args Ts own)
    (hM : Met l y ws rm (va_Pc As (pW dC dI tys Wc.flatten H.size)) (QI dC dI tys (va_A Wc.flatten H.size) Wc'.flatten r) mc ms (va_A Wc.flatten H.size))
    (cw : CallB R s args own index y bytes maxL ret ws rm mc ms n ∧ (Cond.static y).before args s = true) (hK : va_K (dC, dI) vwCl tys s) (hP : va_P (dC, dI) vwCl L.flatten H) (hD : va_D A0 L.flatten) (hS : va_S A0 H0 H locs) (hA : ∀ q, H0.size ≤ q → A0 q)
    (j : JN is js L L' Wc Wc') (nd : va_D (fun _ => True) Wc.flatten)
    (hst : st0 = As.reverse ++ rest) (hn : As.length = n) (hsize : ls.size = nL) (hr : (rest.map fun v => v.category).sum ≤ 8) (hdg : decode cc pc = .ok (.invokestatic index, 3)) (hf : cells + mc ≤ R.cells ∧ slots + ms ≤ R.slots)
    (kk : ∀ (H1 : Heap) (locs1 : List Loc), va_P (dC, dI) vwCl L'.flatten H1 → va_D A0 L'.flatten → va_S A0 H0 H1 locs1 → W p l e R s m args below meth c H1 locs1 (cells + mc) (slots + ms) Q (F0 m (pc + 3) ls (.int r :: rest))) : W p l e R s m args below meth c H locs cells slots Q (F0 m pc ls st0) := by
  have hF := jn_free j.1 hD hS hA
  refine va_calli (va_runS (rest := rest) S0 hM cw ⟨fb_pW, fun U hU hW => ⟨rfl, by rw [hU], by rw [hU]; exact jn_P j.1 hP, va_K.moved hW.alike hK, nd⟩⟩ rfl hn hsize hst (lv_room hr) hdg hf) hS (fun q _ h => hF q h) hF (fun r1 u t H1 locs1 ht hvm hw hB hz1 hk1 hS1 => ?_)
  obtain ⟨hP1, -, -⟩ := hB
  rw [ht] at hP1
  obtain ⟨a1, a2⟩ := jn j hP hD hk1 hP1
  subst hw
  exact kk H1 locs1 a1 a2 hS1
theorem tp_g {x y : Int32} (h : y = x) (k : W p l e R s m args below meth c H locs cells slots Q (F0 m pc ls (.int y :: rest))) : W p l e R s m args below meth c H locs cells slots Q (F0 m pc ls (.int x :: rest)) := h ▸ k
end CM
theorem mt_ofC {l : Launch} {y : MethodName} {ws ws' : List Cond} {rm : Room} {dC : Nat → ClassId} {dI : Nat → Nat → Nat} {tys : List (ClassId × FieldType)} {w : va_W} {sz mc ms : Nat} {av : List Value} {Qc : (Nat → Prop) → Array Value → State → Outcome → State → Prop} {cc : ByteArray} {maxL : Nat} {ret : Option FieldType} {own : String} (hown : y.cls = own)
    (hy : plainName y.cls = true) (hw : ws = Cond.code y cc maxL ret :: ws') (hlen : (lg_sl av).length ≤ maxL)
    (body : ∀ (p : Program) (e : Env) (s : State) (m : MethodId) (below : List Frame) (meth : Method) (c : Code) (A : Nat → Prop) (ls : Array Slot), s.heap.size = sz → p.tables.exec = Jvm.exec → c.code = cc → meth.sig.returnType = ret → (∀ w ∈ ws, w.before av.toArray s = true) → s.vm.findClass own = some m.cls → meth.locks = false → c.maxLocals = maxL → (∀ q : Nat, s.heap.size ≤ q → A q) → va_K (dC, dI) vwCl tys s → va_P (dC, dI) vwCl w s.heap → va_D A w → va_S A s.heap s.heap [] → lv_has ls maxL (lv_args 0 av) →
      W p l e (headSpec ws rm).room s m av.toArray below meth c s.heap [] 0 0 (MQ below (Qc A) av.toArray s mc ms A) (F0 m 0 ls [])) : Met l y ws rm (va_Pc av (pW dC dI tys w sz)) (Qc (va_A w sz)) mc ms (va_A w sz) := by
  refine Met.ofW (cc := cc) (maxL := maxL) (ret := ret) hy hw ?_
  intro p e s m args below meth c s₁ B hml hv
  obtain ⟨rfl, hsz, hP, hK, hD0⟩ := hv
  have hl := lv_entry av (n := maxL) hlen
  rw [lg_entry_eq]
  subst hown
  subst hsz
  exact body p e s m below meth c _ _ rfl B.exec B.bytes B.returns (atoms_spec (ws := ws) B.pre) (findClass_of_methodNamed B.named) B.notSynchronized hml (fun q h => Or.inr h) hK hP hD0.self va_S.rf hl
theorem va_P_mem {D : va_G} {cl : List vw_C} {w w' : va_W} {H : Heap} (hP : va_P D cl w H) (h : ∀ q ∈ w', q ∈ w) : va_P D cl w' H := fun k q hk => by
  obtain ⟨i, hi⟩ := List.getElem?_of_mem (h q (List.mem_of_getElem? hk))
  exact hP i q hi
theorem va_D_sub {A : Nat → Prop} {w w' : va_W} (hD : va_D A w) (h : w'.Sublist w) : va_D A w' := jn_D hD (fun q hq => h.subset hq) (of_pw (List.Pairwise.sublist h (pw_of hD))).1
theorem va_D_perm {A : Nat → Prop} {w w' : va_W} (hD : va_D A w) (h : w.Perm w') : va_D A w' := jn_D hD (fun q hq => h.symm.subset hq) (of_pw ((h.pairwise_iff (fun {a b} hab => Ne.symm hab)).mp (pw_of hD))).1
theorem wd_perm {a b d x X : va_W} : List.Perm (List.flatten ([a, b, d, X] ++ [x])) (fl [a, b, d, x, X]) := by
  show List.Perm (a ++ (b ++ (d ++ (X ++ (x ++ []))))) (a ++ (b ++ (d ++ (x ++ (X ++ [])))))
  rw [List.append_nil, List.append_nil]
  exact List.Perm.append_left a (List.Perm.append_left b (List.Perm.append_left d List.perm_append_comm))
theorem wd_sub {a b d x X : va_W} : List.Sublist (fl [a, b, d, X]) (fl [a, b, d, x, X]) := by
  show List.Sublist (a ++ (b ++ (d ++ (X ++ [])))) (a ++ (b ++ (d ++ (x ++ (X ++ [])))))
  exact List.Sublist.append (List.Sublist.refl a) (List.Sublist.append (List.Sublist.refl b) (List.Sublist.append (List.Sublist.refl d) (List.sublist_append_right x (X ++ []))))
theorem wd_move_P {D : va_G} {cl : List vw_C} {a b d x X : va_W} {H : Heap} (h : va_P D cl (List.flatten ([a, b, d, X] ++ [x])) H) : va_P D cl (fl [a, b, d, x, X]) H := va_P_mem h (fun _ hq => wd_perm.symm.subset hq)
theorem wd_move_D {A : Nat → Prop} {a b d x X : va_W} (h : va_D A (List.flatten ([a, b, d, X] ++ [x]))) : va_D A (fl [a, b, d, x, X]) := va_D_perm h wd_perm
theorem wd_drop_P {D : va_G} {cl : List vw_C} {a b d x X : va_W} {H : Heap} (h : va_P D cl (fl [a, b, d, x, X]) H) : va_P D cl (fl [a, b, d, X]) H := va_P_mem h (fun _ hq => wd_sub.subset hq)
theorem wd_drop_D {A : Nat → Prop} {a b d x X : va_W} (h : va_D A (fl [a, b, d, x, X])) : va_D A (fl [a, b, d, X]) := va_D_sub h wd_sub
theorem jx_3 {a0 a1 a2 X X' : va_W} (h : X'.map Prod.fst = X.map Prod.fst) : JN [3] [0, 1, 2] [a0, a1, a2, X] [a0, a1, a2, X'] [X] [X'] := ⟨rfl, rfl, rfl, rfl, by simp [h], by simp [h]⟩
theorem jx_4 {a0 a1 a2 a3 X X' : va_W} (h : X'.map Prod.fst = X.map Prod.fst) : JN [4] [0, 1, 2, 3] [a0, a1, a2, a3, X] [a0, a1, a2, a3, X'] [X] [X'] := ⟨rfl, rfl, rfl, rfl, by simp [h], by simp [h]⟩
theorem jx_5 {a0 a1 a2 a3 a4 X X' : va_W} (h : X'.map Prod.fst = X.map Prod.fst) : JN [5] [0, 1, 2, 3, 4] [a0, a1, a2, a3, a4, X] [a0, a1, a2, a3, a4, X'] [X] [X'] := ⟨rfl, rfl, rfl, rfl, by simp [h], by simp [h]⟩
theorem jx_6 {a0 a1 a2 a3 a4 a5 X X' : va_W} (h : X'.map Prod.fst = X.map Prod.fst) : JN [6] [0, 1, 2, 3, 4, 5] [a0, a1, a2, a3, a4, a5, X] [a0, a1, a2, a3, a4, a5, X'] [X] [X'] := ⟨rfl, rfl, rfl, rfl, by simp [h], by simp [h]⟩
theorem jx_7 {a0 a1 a2 a3 a4 a5 a6 X X' : va_W} (h : X'.map Prod.fst = X.map Prod.fst) : JN [7] [0, 1, 2, 3, 4, 5, 6] [a0, a1, a2, a3, a4, a5, a6, X] [a0, a1, a2, a3, a4, a5, a6, X'] [X] [X'] := ⟨rfl, rfl, rfl, rfl, by simp [h], by simp [h]⟩
