/-! ORDINAL -/
theorem k_ordinal (l : Launch) (dC : Nat → ClassId) (dI : Nat → Nat → Nat) (cs : Nat → ClassId) (aK aV en : Nat → Nat) (tF tS v sz : Nat) (hv : v < 10) : Met l yJx29ce0_ordinal_8abf5 wsJx29ce0_ordinal_8abf5 ({ frames := 0, cells := 0, slots := 0, locals := 0 } : Room) (va_Pc [.ref (en v)] (pE dC dI (tyL cs) aK aV en tF tS [] sz)) (QI dC dI (tyL cs) (va_A [] sz) [] (nI v)) 0 0 (va_A [] sz) := by
  refine mt_E (own := RJx29ce0) (cc := cJx29ce0_ordinal_8abf5) (maxL := 1) (ret := (some .int)) (Qc := fun A => QI dC dI (tyL cs) A [] (nI v)) rfl (by decide) rfl (Nat.le_of_ble_eq_true rfl) (fun p e s m below meth c A ls hsz hx hb hr hts hown hlocks hml hA hK hP hD hS hl hE => ?_)
  subst hsz
  have hl : lv_has ls 1 [(0, .ref (en v))] := hl
  have hF7 := hts (.fieldLink RJx29ce0 7 "java/lang/Enum" "ordinal" "I") (List.mem_of_getElem? (i := 1) rfl)
  refine lv_aload_n hx hb dJx29ce0_ordinal_8abf5_0 rfl (lv_at hl 0 rfl) ?_
  refine vk_getf hx hb (hE.2.2.2.2.2.2.1 v hv) hS hown hF7 (fun _ h9 => h9) dJx29ce0_ordinal_8abf5_1 ?_
  exact W.iret hx hb hr (fun t ht hW => ⟨⟨_, (), rfl, rfl, by rw [ht]; exact hP, va_K.moved hW.alike hK, hD⟩, hS.F ht⟩) hS.2.2 dJx29ce0_ordinal_8abf5_4
