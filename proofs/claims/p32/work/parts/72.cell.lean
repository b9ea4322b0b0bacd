/-! CELL: a place of the script -/
def fcell (L : Nat) (xs : Nat → Int32) (i : Nat) : Int32 := if nI L ≤ nI i then (40503 : Int32) * (nI i + 3) else xs i
abbrev pC (b L : Nat) (xs : Nat → Int32) (sz : Nat) : State → Prop := fun U => U.heap.size = sz ∧ va_X b L xs U U.heap ∧ b < sz
theorem fb_pC {b L : Nat} {xs : Nat → Int32} {sz : Nat} {av : List Value} : FrameBlind (va_Pc av (pC b L xs sz)) := fun a U g mk q => by
  obtain ⟨q0, q1, q2, q3⟩ := q
  exact ⟨q0, q1, va_X.moved (u := U) (U := U.calling g mk a) (Vm.Alike.refl U.vm) q2, q3⟩
theorem cd_L_cell : yL_cell.cls = RL ∧ yL_cell.cls ≠ "java/lang/invoke/MethodHandle" ∧ yL_cell.cls ≠ "java/lang/invoke/VarHandle" ∧ (parseMethodDescriptor yL_cell.desc).map (fun d => d.parameters.length) = some 2 := by decide +kernel
theorem k_L_cell (l : Launch) (b L : Nat) (xs : Nat → Int32) (i sz : Nat) (hi : i < 2 ^ 30) (hL : L < 2 ^ 30) : Met l yL_cell wsL_cell ({ frames := 0, cells := 0, slots := 0, locals := 0 } : Room) (va_Pc [.ref b, .int (nI i)] (pC b L xs sz)) (va_Qi (fun (r : Int32) (_ : Unit) => r = fcell L xs i) (fun _ _ => True) (va_A [] sz)) 0 0 (va_A [] sz) := by
  refine Met.ofW (cc := cL_cell) (maxL := 2) (ret := some .int) (by decide) rfl ?_
  intro p e s m args below meth c s₁ B hml hv
  obtain ⟨rfl, hsz, hX, hbl⟩ := hv
  have hl := lv_entry ([.ref b, .int (nI i)]) (n := 2) (Nat.le_of_ble_eq_true rfl)
  rw [lg_entry_eq]
  subst hsz
  have hx := B.exec
  have hb := B.bytes
  have hr := B.returns
  have hts := atoms_spec (ws := wsL_cell) B.pre
  have hown : s.vm.findClass RL = some m.cls := findClass_of_methodNamed B.named
  have hS : va_S (va_A [] s.heap.size) s.heap s.heap [] := va_S.rf
  have hbA : ¬ va_A [] s.heap.size b := fun h => by
    rcases h with ⟨k, x, h⟩ | h
    · cases h
    · omega
  generalize (lg_sl ([.ref b, .int (nI i)]) ++ List.replicate (2 - (lg_sl ([.ref b, .int (nI i)])).length) Slot.unset).toArray = ls at hl ⊢
  have hl : lv_has ls 2 [(0, .ref b), (1, .int (nI i))] := hl
  refine lv_iload_n hx hb dL_cell_0 rfl (lv_at hl 1 rfl) ?_
  refine lv_aload_n hx hb dL_cell_1 rfl (lv_at hl 0 rfl) ?_
  refine va_slen hx hb hX hbl hbA hS dL_cell_2 ?_
  refine lv_icmp_ge (tgt := 12) hx hb dL_cell_3 (by decide) (fun c => ?_) (fun c => ?_)
  · refine lv_ldc (v := 40503) hx hb hown (hts (.constant RL 7 (40503)) (List.mem_of_getElem? (i := 1) rfl)) dL_cell_12 ?_
    refine lv_iload_n hx hb dL_cell_14 rfl (lv_at hl 1 rfl) ?_
    refine lv_iconst (v := 3) hx hb dL_cell_15 ic_3 ?_
    refine lv_iadd hx hb dL_cell_16 ?_
    refine lv_imul hx hb dL_cell_17 ?_
    exact W.iret hx hb hr (fun t ht hW => ⟨⟨_, (), rfl, (if_pos c).symm, trivial⟩, hS.F ht⟩) hS.2.2 dL_cell_18
  · refine lv_aload_n hx hb dL_cell_6 rfl (lv_at hl 0 rfl) ?_
    refine lv_iload_n hx hb dL_cell_7 rfl (lv_at hl 1 rfl) ?_
    have hin : vp_in (nI i) L := vp_in_nI (Nat.not_le.mp (fun q => c (nI_le q (by omega)))) (by omega)
    refine va_sld hx hb hX hbl hbA hS hin dL_cell_8 ?_
    refine lv_goto (tgt := 18) hx hb dL_cell_9 (by decide) ?_
    exact W.iret hx hb hr (fun t ht hW => ⟨⟨_, (), rfl, by rw [cl_nI (by omega)]; exact (if_neg c).symm, trivial⟩, hS.F ht⟩) hS.2.2 dL_cell_18
section CC
variable {p : Program} {l : Launch} {e : Env} {R : Room} {s : State} {m : MethodId} {args : Array Value} {below : List Frame} {meth : Method} {c : Code} {H : Heap} {locs : List Loc} {Q : State → Prop} {cells slots : Nat}
variable {cc : ByteArray} {pc nL index : Nat} {ls : Array Slot} {rest : List Value} {Ts : List Cond} {own : String} {dC : Nat → ClassId} {dI : Nat → Nat → Nat} {L0 : List va_W} {A0 : Nat → Prop} {b L i : Nat} {xs : Nat → Int32}
theorem cm_cell (S0 : CallFix p m c cc nL s args Ts own) (hX : va_X b L xs s s.heap) (hbl : b < s.heap.size) (hbA : ¬ A0 b) (hi : i < 2 ^ 30) (hL : L < 2 ^ 30)
    (cw : CallB R s args own index yL_cell cL_cell 2 (some .int) wsL_cell ({ frames := 0, cells := 0, slots := 0, locals := 0 } : Room) 0 0 2 ∧ (Cond.static yL_cell).before args s = true) (hP : va_P (dC, dI) vwCl L0.flatten H) (hS : va_S A0 s.heap H locs) (hA : ∀ q, s.heap.size ≤ q → A0 q)
    (hsize : ls.size = nL) (hr : (rest.map fun v => v.category).sum ≤ 8) (hdg : decode cc pc = .ok (.invokestatic index, 3)) (hf : cells ≤ R.cells ∧ slots ≤ R.slots)
    (kk : ∀ (H1 : Heap) (locs1 : List Loc), va_P (dC, dI) vwCl L0.flatten H1 → va_S A0 s.heap H1 locs1 → W p l e R s m args below meth c H1 locs1 cells slots Q (F0 m (pc + 3) ls (.int (fcell L xs i) :: rest))) : W p l e R s m args below meth c H locs cells slots Q (F0 m pc ls (.int (nI i) :: .ref b :: rest)) := by
  have hF : ∀ q, va_A [] H.size q → A0 q := fun q hq => by
    rcases hq with ⟨k, x, hk⟩ | hk
    · cases hk
    · exact hA q (Nat.le_trans hS.1 hk)
  refine va_calli (va_runS (As := [.ref b, .int (nI i)]) (rest := rest) S0 (k_L_cell l b L xs i H.size hi hL) cw ⟨fb_pC, fun U hU hW => ⟨rfl, by rw [hU], by rw [hU]; exact va_X.moved hW.alike (hX.kept (hS.2.1 b hbl hbA)), Nat.lt_of_lt_of_le hbl hS.1⟩⟩ rfl rfl hsize rfl (lv_room hr) hdg hf) hS (fun q _ h => hF q h) hF (fun r u t H1 locs1 ht hvm hw hB hz1 hk1 hS1 => ?_)
  subst hw
  refine kk H1 locs1 (fun k q hq => (hP k q hq).kept (hk1 q.1 (hP k q hq).lt (fun h => ?_))) hS1
  rcases h with ⟨k2, x, h⟩ | h
  · cases h
  · exact absurd (hP k q hq).lt (Nat.not_lt.mpr h)
end CC
theorem law_perm {X a1 a2 a3 a4 a5 a6 a7 : va_W} : List.Perm (fl [X, a1, a2, a3, a4, a5, a6, a7]) (fl [a1, a2, a3, a4, a5, a6, a7, X]) := by
  have e1 : fl [X, a1, a2, a3, a4, a5, a6, a7] = X ++ (a1 ++ (a2 ++ (a3 ++ (a4 ++ (a5 ++ (a6 ++ a7)))))) := by simp [fl]
  have e2 : fl [a1, a2, a3, a4, a5, a6, a7, X] = (a1 ++ (a2 ++ (a3 ++ (a4 ++ (a5 ++ (a6 ++ a7)))))) ++ X := by simp [fl]
  rw [e1, e2]
  exact List.perm_append_comm
/-- the fresh rows and the fresh object -/
def zzG : T1 := sU (sU (sU (fun _ => 0) 5 30) 6 60) 7 100
theorem lJ0 : lJ 0 zzG (fun _ => 0) (fun _ => 0) (fun _ => 0) (fun _ => 0) (fun _ => 0) (fun _ => 0) zz10 zz11 := by
  have e : ∀ {j : Nat}, j ≠ 5 → j ≠ 6 → j ≠ 7 → (0 : Int32) = zz11 0 j := fun h1 h2 h3 => (z11_0 h1 h2 h3).symm
  refine ⟨rel0, ⟨fun i hi => rfl, fun i hi => e (by omega) (by omega) (by omega), fun k hk w hw => e (by omega) (by omega) (by omega), fun k hk w hw => e (by omega) (by omega) (by omega), fun k hk w hw => e (by omega) (by omega) (by omega), fun k hk w hw => e (by omega) (by omega) (by omega), fun k hk w hw => e (by omega) (by omega) (by omega)⟩, rfl, ⟨0, 0, rfl, rfl, by decide, by decide, rfl⟩, 0, rfl, Nat.le_refl _⟩
