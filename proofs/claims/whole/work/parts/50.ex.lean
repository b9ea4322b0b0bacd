/-! EX: what stands beside the worlds: words of the verbs, verbs, the switch's map -/
abbrev xlen : List Nat := [4, 4, 4, 5, 4, 3, 2, 4, 4, 4]
abbrev xbyt : List (List Int32) := [[114, 101, 110, 116], [98, 97, 99, 107], [102, 117, 108, 108], [102, 97, 117, 108, 116], [116, 97, 107, 101], [112, 117, 116], [103, 111], [109, 101, 110, 100], [112, 97, 115, 115], [119, 97, 105, 116]]
/-- the switch's map -/
def xsw (i : Nat) : Int32 := if i < 9 then nI (i + 1) else 0
/-- null, or a reference -/
def vF (t : Nat) : Value := match t with
  | 0 => .null
  | t + 1 => .ref t
def EX (aK aV en : Nat → Nat) (tF tS : Nat) (A : Nat → Prop) (U : State) (H : Heap) : Prop :=
  vk_S 10 xlen xbyt aK aV A U H ∧ va_Z "java/lang/String" "COMPACT_STRINGS" "Z" (.int 1) A U H ∧ va_Z "jdk/internal/util/Preconditions" "SIOOBE_FORMATTER" "Ljava/util/function/BiFunction;" (vF tF) A U H ∧ (∀ i, i < 10 → va_O "DockedBikes$Verb" (en i) A U H) ∧ (∀ i, i < 10 → va_OF "DockedBikes$Verb" "word" "Ljava/lang/String;" (.ref (aK i)) (en i) A U H) ∧ (∀ i, i < 10 → va_OF "DockedBikes$Verb" "numbers" "I" (.int (nI (nn i))) (en i) A U H) ∧ (∀ i, i < 10 → va_OF "java/lang/Enum" "ordinal" "I" (.int (nI i)) (en i) A U H) ∧ va_Z "DockedBikes$1" "$SwitchMap$DockedBikes$Verb" "[I" (.ref tS) A U H ∧ va_T .int tS 10 (fun i => .int (xsw i)) A U H
theorem EX.moved {aK aV en : Nat → Nat} {tF tS : Nat} {A : Nat → Prop} {u U : State} {H : Heap} (hvm : u.vm.Alike U.vm) (h : EX aK aV en tF tS A u H) : EX aK aV en tF tS A U H :=
  ⟨vk_S.moved hvm h.1, va_Z.moved hvm h.2.1, va_Z.moved hvm h.2.2.1, fun i hi => va_O.moved hvm (h.2.2.2.1 i hi), fun i hi => va_OF.moved hvm (h.2.2.2.2.1 i hi), fun i hi => va_OF.moved hvm (h.2.2.2.2.2.1 i hi), fun i hi => va_OF.moved hvm (h.2.2.2.2.2.2.1 i hi), va_Z.moved hvm h.2.2.2.2.2.2.2.1, va_T.moved hvm h.2.2.2.2.2.2.2.2⟩
theorem EX.kept {aK aV en : Nat → Nat} {tF tS : Nat} {A : Nat → Prop} {U : State} {H H1 : Heap} (h : EX aK aV en tF tS A U H) (hq : ∀ a : Nat, a < H.size → ¬ A a → H1[a]? = H[a]?) : EX aK aV en tF tS A U H1 :=
  ⟨h.1.kept hq, h.2.1.kept hq, h.2.2.1.kept hq, fun i hi => (h.2.2.2.1 i hi).kept hq, fun i hi => (h.2.2.2.2.1 i hi).kept hq, fun i hi => (h.2.2.2.2.2.1 i hi).kept hq, fun i hi => (h.2.2.2.2.2.2.1 i hi).kept hq, h.2.2.2.2.2.2.2.1.kept hq, h.2.2.2.2.2.2.2.2.kept hq⟩
theorem EX.narrow {aK aV en : Nat → Nat} {tF tS : Nat} {A B : Nat → Prop} {U : State} {H : Heap} (h : EX aK aV en tF tS A U H) (hq : ∀ q, B q → A q) : EX aK aV en tF tS B U H :=
  ⟨h.1.narrow hq, h.2.1.narrow hq, h.2.2.1.narrow hq, fun i hi => (h.2.2.2.1 i hi).narrow hq, fun i hi => (h.2.2.2.2.1 i hi).narrow hq, fun i hi => (h.2.2.2.2.2.1 i hi).narrow hq, fun i hi => (h.2.2.2.2.2.2.1 i hi).narrow hq, h.2.2.2.2.2.2.2.1.narrow hq, h.2.2.2.2.2.2.2.2.narrow hq⟩
abbrev pE (dC : Nat → ClassId) (dI : Nat → Nat → Nat) (tys : List (ClassId × FieldType)) (aK aV en : Nat → Nat) (tF tS : Nat) (w : va_W) (sz : Nat) : State → Prop := fun U => pW dC dI tys w sz U ∧ EX aK aV en tF tS (va_A w sz) U U.heap
theorem mt_E {l : Launch} {y : MethodName} {ws ws' : List Cond} {rm : Room} {dC : Nat → ClassId} {dI : Nat → Nat → Nat} {tys : List (ClassId × FieldType)} {aK aV en : Nat → Nat} {tF tS : Nat} {w : va_W} {sz : Nat} {av : List Value} {Qc : (Nat → Prop) → Array Value → State → Outcome → State → Prop} {cc : ByteArray} {maxL : Nat} {ret : Option FieldType} {own : String} (hown : y.cls = own)
    (hy : plainName y.cls = true) (hw : ws = Cond.code y cc maxL ret :: ws') (hlen : (lg_sl av).length ≤ maxL)
    (body : ∀ (p : Program) (e : Env) (s : State) (m : MethodId) (below : List Frame) (meth : Method) (c : Code) (A : Nat → Prop) (ls : Array Slot), s.heap.size = sz → p.tables.exec = Jvm.exec → c.code = cc → meth.sig.returnType = ret → (∀ w ∈ ws, w.before av.toArray s = true) → s.vm.findClass own = some m.cls → meth.locks = false → c.maxLocals = maxL → (∀ q : Nat, s.heap.size ≤ q → A q) → va_K (dC, dI) vwCl tys s → va_P (dC, dI) vwCl w s.heap → va_D A w → va_S A s.heap s.heap [] → lv_has ls maxL (lv_args 0 av) → EX aK aV en tF tS A s s.heap →
      W p l e (headSpec ws rm).room s m av.toArray below meth c s.heap [] 0 0 (MQ below (Qc A) av.toArray s 0 0 A) (F0 m 0 ls [])) : Met l y ws rm (va_Pc av (pE dC dI tys aK aV en tF tS w sz)) (Qc (va_A w sz)) 0 0 (va_A w sz) := by
  refine Met.ofW (cc := cc) (maxL := maxL) (ret := ret) hy hw ?_
  intro p e s m args below meth c s₁ B hml hv
  obtain ⟨rfl, ⟨hsz, hP, hK, hD0⟩, hE⟩ := hv
  have hl := lv_entry av (n := maxL) hlen
  rw [lg_entry_eq]
  subst hown
  subst hsz
  exact body p e s m below meth c _ _ rfl B.exec B.bytes B.returns (atoms_spec (ws := ws) B.pre) (findClass_of_methodNamed B.named) B.notSynchronized hml (fun q h => Or.inr h) hK hP hD0.self va_S.rf hl hE
theorem k_J0_coder (l : Launch) (dC : Nat → ClassId) (dI : Nat → Nat → Nat) (cs : Nat → ClassId) (aK aV en : Nat → Nat) (tF tS i sz : Nat) (hi : i < 10) : Met l yJ0_coder_7d493 wsJ0_coder_7d493 ({ frames := 0, cells := 0, slots := 0, locals := 0 } : Room) (va_Pc [.ref (aK i)] (pE dC dI (tyL cs) aK aV en tF tS [] sz)) (QI dC dI (tyL cs) (va_A [] sz) [] 0) 0 0 (va_A [] sz) := by
  refine mt_E (own := RJ0) (cc := cJ0_coder_7d493) (maxL := 1) (ret := (some .byte)) (Qc := fun A => QI dC dI (tyL cs) A [] 0) rfl (by decide) rfl (Nat.le_of_ble_eq_true rfl) (fun p e s m below meth c A ls hsz hx hb hr hts hown hlocks hml hA hK hP hD hS hl hE => ?_)
  subst hsz
  have hl : lv_has ls 1 [(0, .ref (aK i))] := hl
  have hF38 := hts (.fieldLink RJ0 38 "java/lang/String" "COMPACT_STRINGS" "Z") (List.mem_of_getElem? (i := 1) rfl)
  have hF15 := hts (.fieldLink RJ0 15 "java/lang/String" "coder" "B") (List.mem_of_getElem? (i := 2) rfl)
  refine va_gets hx hb hE.2.1 hS hown hF38 (fun _ h9 => h9) dJ0_coder_7d493_0 ?_
  refine lv_if_eq (tgt := 13) hx hb dJ0_coder_7d493_3 (by decide) (fun c3 => absurd c3 ne10) (fun c3 => ?_)
  refine lv_aload_n hx hb dJ0_coder_7d493_6 rfl (lv_at hl 0 rfl) ?_
  refine vk_getf hx hb (hE.1.1 i hi).2.1 hS hown hF15 (fun _ h9 => h9) dJ0_coder_7d493_7 ?_
  refine lv_goto hx hb dJ0_coder_7d493_10 (tgt := 14) (by decide) ?_
  exact W.zret (ty := .byte) hx hb hr (by decide) (fun t ht hW => ⟨⟨_, (), rfl, rfl, by rw [ht]; exact hP, va_K.moved hW.alike hK, hD⟩, hS.F ht⟩) hS.2.2 dJ0_coder_7d493_14
theorem k_J0_isLatin1 (l : Launch) (dC : Nat → ClassId) (dI : Nat → Nat → Nat) (cs : Nat → ClassId) (aK aV en : Nat → Nat) (tF tS i sz : Nat) (hi : i < 10) : Met l yJ0_isLatin1_aae02 wsJ0_isLatin1_aae02 ({ frames := 0, cells := 0, slots := 0, locals := 0 } : Room) (va_Pc [.ref (aK i)] (pE dC dI (tyL cs) aK aV en tF tS [] sz)) (QI dC dI (tyL cs) (va_A [] sz) [] 1) 0 0 (va_A [] sz) := by
  refine mt_E (own := RJ0) (cc := cJ0_isLatin1_aae02) (maxL := 1) (ret := (some .boolean)) (Qc := fun A => QI dC dI (tyL cs) A [] 1) rfl (by decide) rfl (Nat.le_of_ble_eq_true rfl) (fun p e s m below meth c A ls hsz hx hb hr hts hown hlocks hml hA hK hP hD hS hl hE => ?_)
  subst hsz
  have hl : lv_has ls 1 [(0, .ref (aK i))] := hl
  have hF38 := hts (.fieldLink RJ0 38 "java/lang/String" "COMPACT_STRINGS" "Z") (List.mem_of_getElem? (i := 1) rfl)
  have hF15 := hts (.fieldLink RJ0 15 "java/lang/String" "coder" "B") (List.mem_of_getElem? (i := 2) rfl)
  refine va_gets hx hb hE.2.1 hS hown hF38 (fun _ h9 => h9) dJ0_isLatin1_aae02_0 ?_
  refine lv_if_eq (tgt := 17) hx hb dJ0_isLatin1_aae02_3 (by decide) (fun c3 => absurd c3 ne10) (fun c3 => ?_)
  refine lv_aload_n hx hb dJ0_isLatin1_aae02_6 rfl (lv_at hl 0 rfl) ?_
  refine vk_getf hx hb (hE.1.1 i hi).2.1 hS hown hF15 (fun _ h9 => h9) dJ0_isLatin1_aae02_7 ?_
  refine lv_if_ne (tgt := 17) hx hb dJ0_isLatin1_aae02_10 (by decide) (fun c3 => absurd rfl c3) (fun c3 => ?_)
  refine lv_iconst (v := 1) hx hb dJ0_isLatin1_aae02_13 ic_1 ?_
  refine lv_goto hx hb dJ0_isLatin1_aae02_14 (tgt := 18) (by decide) ?_
  exact W.zret (ty := .boolean) hx hb hr (by decide) (fun t ht hW => ⟨⟨_, (), rfl, rfl, by rw [ht]; exact hP, va_K.moved hW.alike hK, hD⟩, hS.F ht⟩) hS.2.2 dJ0_isLatin1_aae02_18
