/-! STR2: String.charAt -/
section CLF
variable {p : Program} {l : Launch} {e : Env} {R : Room} {s : State} {m : MethodId} {args : Array Value} {below : List Frame} {meth : Method} {c : Code} {H : Heap} {locs : List Loc} {Q : State → Prop}
variable {cc bytes : ByteArray} {pc nL index maxL n : Nat} {ls : Array Slot} {rest st0 As : List Value} {Ts ws : List Cond} {own C : String} {y : MethodName} {ret : Option FieldType} {rm : Room} {dC : Nat → ClassId} {dI : Nat → Nat → Nat} {tys : List (ClassId × FieldType)} {is js : List Nat} {L L' Wc Wc' : List va_W} {A0 : Nat → Prop} {b : Addr} {r : Int32} {aK aV en : Nat → Nat} {tF tS : Nat}
theorem cl_SiE (S0 : CallFix p m c cc nL s args Ts own)
    (hM : Met l y ws rm (va_Pc As (pE dC dI tys aK aV en tF tS Wc.flatten H.size)) (QI dC dI tys (va_A Wc.flatten H.size) Wc'.flatten r) 0 0 (va_A Wc.flatten H.size))
    (cw : CallB R s args own index y bytes maxL ret ws rm 0 0 n ∧ (Cond.static y).before args s = true) (hK : va_K (dC, dI) vwCl tys s) (hP : va_P (dC, dI) vwCl L.flatten H) (hD : va_D A0 L.flatten) (hS : va_S A0 s.heap H locs) (hA : ∀ q, s.heap.size ≤ q → A0 q) (hE : EX aK aV en tF tS A0 s s.heap)
    (j : JN is js L L' Wc Wc') (nd : va_D (fun _ => True) Wc.flatten)
    (hst : st0 = As.reverse ++ rest) (hn : As.length = n) (hsize : ls.size = nL) (hr : (rest.map fun v => v.category).sum ≤ 8) (hdg : decode cc pc = .ok (.invokestatic index, 3))
    (kk : ∀ (H1 : Heap) (locs1 : List Loc), va_P (dC, dI) vwCl L'.flatten H1 → va_D A0 L'.flatten → va_S A0 s.heap H1 locs1 → W p l e R s m args below meth c H1 locs1 0 0 Q (F0 m (pc + 3) ls (.int r :: rest))) : W p l e R s m args below meth c H locs 0 0 Q (F0 m pc ls st0) := by
  have hF := jn_free j.1 hD hS hA
  refine va_calli (va_runS (rest := rest) S0 hM cw ⟨fb_pE, fun U hU hW => ⟨rfl, ⟨by rw [hU], by rw [hU]; exact jn_P j.1 hP, va_K.moved hW.alike hK, nd⟩, by rw [hU]; exact ((hE.kept hS.2.1).moved hW.alike).narrow hF⟩⟩ rfl hn hsize hst (lv_room hr) hdg ⟨Nat.zero_le _, Nat.zero_le _⟩) hS (fun q _ h => hF q h) hF (fun r1 u t H1 locs1 ht hvm hw hB hz1 hk1 hS1 => ?_)
  obtain ⟨hP1, -, -⟩ := hB
  rw [ht] at hP1
  obtain ⟨a1, a2⟩ := jn j hP hD hk1 hP1
  subst hw
  exact kk H1 locs1 a1 a2 hS1
theorem cl_SvE (S0 : CallFix p m c cc nL s args Ts own)
    (hM : Met l y ws rm (va_Pc As (pE dC dI tys aK aV en tF tS Wc.flatten H.size)) (QV dC dI tys (va_A Wc.flatten H.size) Wc'.flatten) 0 0 (va_A Wc.flatten H.size))
    (cw : CallB R s args own index y bytes maxL ret ws rm 0 0 n ∧ (Cond.static y).before args s = true) (hK : va_K (dC, dI) vwCl tys s) (hP : va_P (dC, dI) vwCl L.flatten H) (hD : va_D A0 L.flatten) (hS : va_S A0 s.heap H locs) (hA : ∀ q, s.heap.size ≤ q → A0 q) (hE : EX aK aV en tF tS A0 s s.heap)
    (j : JN is js L L' Wc Wc') (nd : va_D (fun _ => True) Wc.flatten)
    (hst : st0 = As.reverse ++ rest) (hn : As.length = n) (hsize : ls.size = nL) (hr : (rest.map fun v => v.category).sum ≤ 8) (hdg : decode cc pc = .ok (.invokestatic index, 3))
    (kk : ∀ (H1 : Heap) (locs1 : List Loc), va_P (dC, dI) vwCl L'.flatten H1 → va_D A0 L'.flatten → va_S A0 s.heap H1 locs1 → W p l e R s m args below meth c H1 locs1 0 0 Q (F0 m (pc + 3) ls rest)) : W p l e R s m args below meth c H locs 0 0 Q (F0 m pc ls st0) := by
  have hF := jn_free j.1 hD hS hA
  refine va_callv (va_runS (rest := rest) S0 hM cw ⟨fb_pE, fun U hU hW => ⟨rfl, ⟨by rw [hU], by rw [hU]; exact jn_P j.1 hP, va_K.moved hW.alike hK, nd⟩, by rw [hU]; exact ((hE.kept hS.2.1).moved hW.alike).narrow hF⟩⟩ rfl hn hsize hst (lv_room hr) hdg ⟨Nat.zero_le _, Nat.zero_le _⟩) hS (fun q _ h => hF q h) hF (fun u t H1 locs1 ht hvm hw hB hz1 hk1 hS1 => ?_)
  obtain ⟨hP1, -, -⟩ := hB
  rw [ht] at hP1
  obtain ⟨a1, a2⟩ := jn j hP hD hk1 hP1
  exact kk H1 locs1 a1 a2 hS1
end CLF
theorem cd_J3_checkIndex : yJ3_checkIndex_8e157.cls = RJ3 ∧ yJ3_checkIndex_8e157.cls ≠ "java/lang/invoke/MethodHandle" ∧ yJ3_checkIndex_8e157.cls ≠ "java/lang/invoke/VarHandle" ∧ (parseMethodDescriptor yJ3_checkIndex_8e157.desc).map (fun d => d.parameters.length) = some 3 := by decide +kernel
theorem cd_J0_checkIndex : yJ0_checkIndex_df160.cls = RJ0 ∧ yJ0_checkIndex_df160.cls ≠ "java/lang/invoke/MethodHandle" ∧ yJ0_checkIndex_df160.cls ≠ "java/lang/invoke/VarHandle" ∧ (parseMethodDescriptor yJ0_checkIndex_df160.desc).map (fun d => d.parameters.length) = some 2 := by decide +kernel
theorem k_J3_checkIndex (l : Launch) (dC : Nat → ClassId) (dI : Nat → Nat → Nat) (cs : Nat → ClassId) (aK aV en : Nat → Nat) (tF tS i n sz : Nat) (hi : i < n) (hn : n < 1000) : Met l yJ3_checkIndex_8e157 wsJ3_checkIndex_8e157 ({ frames := 0, cells := 0, slots := 0, locals := 0 } : Room) (va_Pc [.int (nI i), .int (nI n), vF tF] (pE dC dI (tyL cs) aK aV en tF tS [] sz)) (QI dC dI (tyL cs) (va_A [] sz) [] (nI i)) 0 0 (va_A [] sz) := by
  rcases tF with _ | tF
  all_goals
    refine mt_E (own := RJ3) (cc := cJ3_checkIndex_8e157) (maxL := 3) (ret := (some .int)) (Qc := fun A => QI dC dI (tyL cs) A [] (nI i)) rfl (by decide) rfl (Nat.le_of_ble_eq_true rfl) (fun p e s m below meth c A ls hsz hx hb hr hts hown hlocks hml hA hK hP hD hS hl hE => ?_)
    subst hsz
    have hl : lv_has ls 3 [(0, .int (nI i)), (1, .int (nI n))] := lv_sub hl [0, 1] rfl
    refine lv_iload_n hx hb dJ3_checkIndex_8e157_0 rfl (lv_at hl 0 rfl) ?_
    refine lv_if_lt (tgt := 9) hx hb dJ3_checkIndex_8e157_1 (by decide) (fun c1 => absurd c1 (nI_pos (by omega))) (fun c1 => ?_)
    refine lv_iload_n hx hb dJ3_checkIndex_8e157_4 rfl (lv_at hl 0 rfl) ?_
    refine lv_iload_n hx hb dJ3_checkIndex_8e157_5 rfl (lv_at hl 1 rfl) ?_
    refine lv_icmp_lt (tgt := 16) hx hb dJ3_checkIndex_8e157_6 (by decide) (fun c6 => ?_) (fun c6 => absurd (nI_lt hi (by omega)) c6)
    refine lv_iload_n hx hb dJ3_checkIndex_8e157_16 rfl (lv_at hl 0 rfl) ?_
    exact W.iret hx hb hr (fun t ht hW => ⟨⟨_, (), rfl, rfl, by rw [ht]; exact hP, va_K.moved hW.alike hK, hD⟩, hS.F ht⟩) hS.2.2 dJ3_checkIndex_8e157_17
theorem k_J0_checkIndex (l : Launch) (dC : Nat → ClassId) (dI : Nat → Nat → Nat) (cs : Nat → ClassId) (aK aV en : Nat → Nat) (tF tS i n sz : Nat) (hi : i < n) (hn : n < 1000) : Met l yJ0_checkIndex_df160 wsJ0_checkIndex_df160 ({ frames := 1, cells := 0, slots := 0, locals := 22 } : Room) (va_Pc [.int (nI i), .int (nI n)] (pE dC dI (tyL cs) aK aV en tF tS [] sz)) (QV dC dI (tyL cs) (va_A [] sz) []) 0 0 (va_A [] sz) := by
  rcases tF with _ | tF
  · refine mt_E (own := RJ0) (cc := cJ0_checkIndex_df160) (maxL := 2) (ret := none) (Qc := fun A => QV dC dI (tyL cs) A []) rfl (by decide) rfl (Nat.le_of_ble_eq_true rfl) (fun p e s m below meth c A ls hsz hx hb hr hts hown hlocks hml hA hK hP hD hS hl hE => ?_)
    subst hsz
    have hl : lv_has ls 2 [(0, .int (nI i)), (1, .int (nI n))] := hl
    have hF := hts (.fieldLink RJ0 1053 "jdk/internal/util/Preconditions" "SIOOBE_FORMATTER" "Ljava/util/function/BiFunction;") (List.mem_of_getElem? (i := 1) rfl)
    refine lv_iload_n hx hb dJ0_checkIndex_df160_0 rfl (lv_at hl 0 rfl) ?_
    refine lv_iload_n hx hb dJ0_checkIndex_df160_1 rfl (lv_at hl 1 rfl) ?_
    refine va_gets hx hb hE.2.2.1 hS hown hF (fun _ h9 => h9) dJ0_checkIndex_df160_2 ?_
    refine cl_SiE (As := [.int (nI i), .int (nI n), .null]) (rest := []) (L := []) (L' := []) (Wc := []) (Wc' := []) (is := []) (js := []) ⟨hx, hb, hml, hown, hts⟩ (k_J3_checkIndex l dC dI cs aK aV en 0 tS i n s.heap.size hi hn) (va_cwS 3 hts gJ0_checkIndex_df160_J3_checkIndex_8e157 rfl rfl rfl cd_J3_checkIndex.2 ⟨Nat.le_of_ble_eq_true rfl, Nat.le_of_ble_eq_true rfl⟩) hK hP hD hS hA hE ⟨rfl, rfl, rfl, rfl, rfl, rfl⟩ (jn_nd (L := []) (is := []) hD rfl rfl) rfl rfl hl.1 (Nat.le_of_ble_eq_true rfl) dJ0_checkIndex_df160_5 (fun H5 locs5 hP' hD' hS' => ?_)
    refine lv_pop hx hb dJ0_checkIndex_df160_8 rfl ?_
    exact W.vret hx hb hr (fun t ht hW => ⟨⟨(), rfl, trivial, by rw [ht]; exact hP', va_K.moved hW.alike hK, hD'⟩, hS'.F ht⟩) hS'.2.2 dJ0_checkIndex_df160_9
  · refine mt_E (own := RJ0) (cc := cJ0_checkIndex_df160) (maxL := 2) (ret := none) (Qc := fun A => QV dC dI (tyL cs) A []) rfl (by decide) rfl (Nat.le_of_ble_eq_true rfl) (fun p e s m below meth c A ls hsz hx hb hr hts hown hlocks hml hA hK hP hD hS hl hE => ?_)
    subst hsz
    have hl : lv_has ls 2 [(0, .int (nI i)), (1, .int (nI n))] := hl
    have hF := hts (.fieldLink RJ0 1053 "jdk/internal/util/Preconditions" "SIOOBE_FORMATTER" "Ljava/util/function/BiFunction;") (List.mem_of_getElem? (i := 1) rfl)
    refine lv_iload_n hx hb dJ0_checkIndex_df160_0 rfl (lv_at hl 0 rfl) ?_
    refine lv_iload_n hx hb dJ0_checkIndex_df160_1 rfl (lv_at hl 1 rfl) ?_
    refine va_gets hx hb hE.2.2.1 hS hown hF (fun _ h9 => h9) dJ0_checkIndex_df160_2 ?_
    refine cl_SiE (As := [.int (nI i), .int (nI n), .ref tF]) (rest := []) (L := []) (L' := []) (Wc := []) (Wc' := []) (is := []) (js := []) ⟨hx, hb, hml, hown, hts⟩ (k_J3_checkIndex l dC dI cs aK aV en (tF + 1) tS i n s.heap.size hi hn) (va_cwS 3 hts gJ0_checkIndex_df160_J3_checkIndex_8e157 rfl rfl rfl cd_J3_checkIndex.2 ⟨Nat.le_of_ble_eq_true rfl, Nat.le_of_ble_eq_true rfl⟩) hK hP hD hS hA hE ⟨rfl, rfl, rfl, rfl, rfl, rfl⟩ (jn_nd (L := []) (is := []) hD rfl rfl) rfl rfl hl.1 (Nat.le_of_ble_eq_true rfl) dJ0_checkIndex_df160_5 (fun H5 locs5 hP' hD' hS' => ?_)
    refine lv_pop hx hb dJ0_checkIndex_df160_8 rfl ?_
    exact W.vret hx hb hr (fun t ht hW => ⟨⟨(), rfl, trivial, by rw [ht]; exact hP', va_K.moved hW.alike hK, hD'⟩, hS'.F ht⟩) hS'.2.2 dJ0_checkIndex_df160_9
theorem cd_J1_charAt : yJ1_charAt_3b067.cls = RJ1 ∧ yJ1_charAt_3b067.cls ≠ "java/lang/invoke/MethodHandle" ∧ yJ1_charAt_3b067.cls ≠ "java/lang/invoke/VarHandle" ∧ (parseMethodDescriptor yJ1_charAt_3b067.desc).map (fun d => d.parameters.length) = some 2 := by decide +kernel
theorem cd_J0_isLatin1 : yJ0_isLatin1_aae02.cls = RJ0 ∧ yJ0_isLatin1_aae02.cls ≠ "java/lang/invoke/MethodHandle" ∧ yJ0_isLatin1_aae02.cls ≠ "java/lang/invoke/VarHandle" ∧ (parseMethodDescriptor yJ0_isLatin1_aae02.desc).map (fun d => d.parameters.length) = some 0 := by decide +kernel
theorem byt_wn : ∀ i, i < 10 → ∀ k, k < wl i → (xbyt.getD i []).getD k 0 = nI (wn i k) ∧ xlen.getD i 0 = wl i := by decide +kernel
theorem ch_255 : ∀ v, v < 127 → vp_nar .char (((nI v &&& 255).toUInt32 % 65536).toInt32) = nI v ∧ ((nI v &&& 255).toUInt32 % 65536).toInt32 = nI v := by decide +kernel
theorem nar_ch : ∀ v, v < 127 → narrow .char (.int (nI v)) = .int (nI v) := by decide +kernel
theorem k_J1_charAt (l : Launch) (dC : Nat → ClassId) (dI : Nat → Nat → Nat) (cs : Nat → ClassId) (aK aV en : Nat → Nat) (tF tS i k sz : Nat) (hi : i < 10) (hk : k < wl i) : Met l yJ1_charAt_3b067 wsJ1_charAt_3b067 ({ frames := 2, cells := 0, slots := 0, locals := 43 } : Room) (va_Pc [.ref (aV i), .int (nI k)] (pE dC dI (tyL cs) aK aV en tF tS [] sz)) (QI dC dI (tyL cs) (va_A [] sz) [] (nI (wn i k))) 0 0 (va_A [] sz) := by
  have b5 := wl5 i hi
  obtain ⟨b6, b7⟩ := byt_wn i hi k hk
  have b8 := wn_b i hi k hk
  refine mt_E (own := RJ1) (cc := cJ1_charAt_3b067) (maxL := 2) (ret := (some .char)) (Qc := fun A => QI dC dI (tyL cs) A [] (nI (wn i k))) rfl (by decide) rfl (Nat.le_of_ble_eq_true rfl) (fun p e s m below meth c A ls hsz hx hb hr hts hown hlocks hml hA hK hP hD hS hl hE => ?_)
  subst hsz
  have hl : lv_has ls 2 [(0, .ref (aV i)), (1, .int (nI k))] := hl
  refine lv_iload_n hx hb dJ1_charAt_3b067_0 rfl (lv_at hl 1 rfl) ?_
  refine lv_aload_n hx hb dJ1_charAt_3b067_1 rfl (lv_at hl 0 rfl) ?_
  refine va_tlen hx hb (hE.1.1 i hi).2.2.2 hS (v := nI (wl i)) (by rw [b7]; rfl) dJ1_charAt_3b067_2 ?_
  refine cl_SvE (As := [.int (nI k), .int (nI (wl i))]) (rest := []) (L := []) (L' := []) (Wc := []) (Wc' := []) (is := []) (js := []) ⟨hx, hb, hml, hown, hts⟩ (k_J0_checkIndex l dC dI cs aK aV en tF tS k (wl i) s.heap.size hk (by omega)) (va_cwS 2 hts gJ1_charAt_3b067_J0_checkIndex_df160 rfl rfl rfl cd_J0_checkIndex.2 ⟨Nat.le_of_ble_eq_true rfl, Nat.le_of_ble_eq_true rfl⟩) hK hP hD hS hA hE ⟨rfl, rfl, rfl, rfl, rfl, rfl⟩ (jn_nd (L := []) (is := []) hD rfl rfl) rfl rfl hl.1 (Nat.le_of_ble_eq_true rfl) dJ1_charAt_3b067_3 (fun H3 locs3 hP' hD' hS' => ?_)
  refine lv_aload_n hx hb dJ1_charAt_3b067_6 rfl (lv_at hl 0 rfl) ?_
  refine lv_iload_n hx hb dJ1_charAt_3b067_7 rfl (lv_at hl 1 rfl) ?_
  refine va_tb hx hb (hE.1.1 i hi).2.2.2 hS' (i := nI k) (by rw [b7]; exact vp_in_nI hk (by omega)) (v := .int (nI (wn i k))) (by rw [cl_nI (by omega), b6]) dJ1_charAt_3b067_8 ?_
  refine lv_sipush (v := 255) hx hb dJ1_charAt_3b067_9 (by decide) ?_
  refine lv_iand hx hb dJ1_charAt_3b067_12 ?_
  refine lv_i2c (v := ((nI (wn i k) &&& 255).toUInt32 % 65536).toInt32) hx hb dJ1_charAt_3b067_13 rfl ?_
  rw [(ch_255 (wn i k) (by omega)).2]
  exact W.zret (ty := .char) hx hb hr (nar_ch _ (by omega)) (fun t ht hW => ⟨⟨_, (), rfl, rfl, by rw [ht]; exact hP', va_K.moved hW.alike hK, hD'⟩, hS'.F ht⟩) hS'.2.2 dJ1_charAt_3b067_14
theorem k_J0_charAt (l : Launch) (dC : Nat → ClassId) (dI : Nat → Nat → Nat) (cs : Nat → ClassId) (aK aV en : Nat → Nat) (tF tS i k sz : Nat) (hi : i < 10) (hk : k < wl i) : Met l yJ0_charAt_5068e wsJ0_charAt_5068e ({ frames := 3, cells := 0, slots := 0, locals := 64 } : Room) (va_Pc [.ref (aK i), .int (nI k)] (pE dC dI (tyL cs) aK aV en tF tS [] sz)) (QI dC dI (tyL cs) (va_A [] sz) [] (nI (wn i k))) 0 0 (va_A [] sz) := by
  have b8 := wn_b i hi k hk
  refine mt_E (own := RJ0) (cc := cJ0_charAt_5068e) (maxL := 2) (ret := (some .char)) (Qc := fun A => QI dC dI (tyL cs) A [] (nI (wn i k))) rfl (by decide) rfl (Nat.le_of_ble_eq_true rfl) (fun p e s m below meth c A ls hsz hx hb hr hts hown hlocks hml hA hK hP hD hS hl hE => ?_)
  subst hsz
  have hl : lv_has ls 2 [(0, .ref (aK i)), (1, .int (nI k))] := hl
  have hF9 := hts (.fieldLink RJ0 9 "java/lang/String" "value" "[B") (List.mem_of_getElem? (i := 1) rfl)
  refine lv_aload_n hx hb dJ0_charAt_5068e_0 rfl (lv_at hl 0 rfl) ?_
  refine cl_ViE (C := RJ0) (As := []) (rest := []) (L := []) (L' := []) (Wc := []) (Wc' := []) (is := []) (js := []) ⟨hx, hb, hml, hown, hts⟩ (k_J0_isLatin1 l dC dI cs aK aV en tF tS i s.heap.size hi) (cwV 0 hts gJ0_charAt_5068e_J0_isLatin1_aae02 rfl rfl rfl cd_J0_isLatin1 ⟨Nat.le_of_ble_eq_true rfl, Nat.le_of_ble_eq_true rfl⟩) hK hP hD hS hA hE ⟨rfl, rfl, rfl, rfl, rfl, rfl⟩ (jn_nd (L := []) (is := []) hD rfl rfl) (vk_recv hE.1 hi hS) rfl rfl hl.1 (Nat.le_of_ble_eq_true rfl) dJ0_charAt_5068e_1 (fun H1 locs1 hP1 hD1 hS1 => ?_)
  refine lv_if_eq (tgt := 16) hx hb dJ0_charAt_5068e_4 (by decide) (fun c3 => absurd c3 ne10) (fun c3 => ?_)
  refine lv_aload_n hx hb dJ0_charAt_5068e_7 rfl (lv_at hl 0 rfl) ?_
  refine vk_getf hx hb (hE.1.1 i hi).2.2.1 hS1 hown hF9 (fun _ h9 => h9) dJ0_charAt_5068e_8 ?_
  refine lv_iload_n hx hb dJ0_charAt_5068e_11 rfl (lv_at hl 1 rfl) ?_
  refine cl_SiE (As := [.ref (aV i), .int (nI k)]) (rest := []) (L := []) (L' := []) (Wc := []) (Wc' := []) (is := []) (js := []) ⟨hx, hb, hml, hown, hts⟩ (k_J1_charAt l dC dI cs aK aV en tF tS i k H1.size hi hk) (va_cwS 2 hts gJ0_charAt_5068e_J1_charAt_3b067 rfl rfl rfl cd_J1_charAt.2 ⟨Nat.le_of_ble_eq_true rfl, Nat.le_of_ble_eq_true rfl⟩) hK hP1 hD1 hS1 hA hE ⟨rfl, rfl, rfl, rfl, rfl, rfl⟩ (jn_nd (L := []) (is := []) hD rfl rfl) rfl rfl hl.1 (Nat.le_of_ble_eq_true rfl) dJ0_charAt_5068e_12 (fun H2 locs2 hP2 hD2 hS2 => ?_)
  exact W.zret (ty := .char) hx hb hr (nar_ch _ (by omega)) (fun t ht hW => ⟨⟨_, (), rfl, rfl, by rw [ht]; exact hP2, va_K.moved hW.alike hK, hD2⟩, hS2.F ht⟩) hS2.2.2 dJ0_charAt_5068e_15
