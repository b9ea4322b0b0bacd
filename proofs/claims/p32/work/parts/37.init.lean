/-! INIT: constructors -/
theorem vj_0_3 : vp_in 0 3 := by unfold vp_in; decide
theorem vj_1_3 : vp_in 1 3 := by unfold vp_in; decide
theorem vj_2_3 : vp_in 2 3 := by unfold vp_in; decide
theorem vj_0_4 : vp_in 0 4 := by unfold vp_in; decide
theorem vj_1_4 : vp_in 1 4 := by unfold vp_in; decide
theorem vj_2_4 : vp_in 2 4 := by unfold vp_in; decide
theorem vj_3_4 : vp_in 3 4 := by unfold vp_in; decide
theorem vj_5_206 : vp_in 5 206 := by unfold vp_in; decide
theorem vj_6_206 : vp_in 6 206 := by unfold vp_in; decide
theorem vj_7_206 : vp_in 7 206 := by unfold vp_in; decide
theorem cu_2 : (2 : Int32).toNatClampNeg = 2 := by decide
theorem cu_3 : (3 : Int32).toNatClampNeg = 3 := by decide
theorem cu_5 : (5 : Int32).toNatClampNeg = 5 := by decide
theorem cu_6 : (6 : Int32).toNatClampNeg = 6 := by decide
theorem cu_7 : (7 : Int32).toNatClampNeg = 7 := by decide
theorem sh_X6 {ad ad' : Nat → Nat} {b b' : Nat} {cs : Nat → ClassId} {S : T2} (h : ∀ k, k < 5 → ad (b + k) = ad' (b' + k)) : w_X6 ad b cs S = w_X6 ad' b' cs S := by
  have h0 : ad b = ad' b' := h 0 (by decide)
  unfold w_X6
  rw [h0, h 1 (by decide), h 2 (by decide), h 3 (by decide), h 4 (by decide)]
theorem sh_X1 {ad ad' : Nat → Nat} {b b' : Nat} {cs : Nat → ClassId} {S : T2} (h : ∀ k, k < 7 → ad (b + k) = ad' (b' + k)) : w_X1 ad b cs S = w_X1 ad' b' cs S := by
  have h0 : ad b = ad' b' := h 0 (by decide)
  unfold w_X1
  rw [h0, h 1 (by decide), h 2 (by decide), h 3 (by decide), h 4 (by decide), h 5 (by decide), h 6 (by decide)]
theorem sh_X4 {ad ad' : Nat → Nat} {b b' : Nat} {cs : Nat → ClassId} {S : T2} (h : ∀ k, k < 10 → ad (b + k) = ad' (b' + k)) : w_X4 ad b cs S = w_X4 ad' b' cs S := by
  have h0 : ad b = ad' b' := h 0 (by decide)
  unfold w_X4
  rw [h0, h 1 (by decide), h 2 (by decide), h 3 (by decide), h 4 (by decide), h 5 (by decide), h 6 (by decide), h 7 (by decide), h 8 (by decide), h 9 (by decide)]
theorem sh_X8 {ad ad' : Nat → Nat} {b b' : Nat} {cs : Nat → ClassId} {S : T2} (h : ∀ k, k < 4 → ad (b + k) = ad' (b' + k)) : w_X8 ad b cs S = w_X8 ad' b' cs S := by
  have h0 : ad b = ad' b' := h 0 (by decide)
  unfold w_X8
  rw [h0, h 1 (by decide), h 2 (by decide), h 3 (by decide)]
theorem sh_X2 {ad ad' : Nat → Nat} {b b' : Nat} {cs : Nat → ClassId} {S : T2} (h : ∀ k, k < 3 → ad (b + k) = ad' (b' + k)) : w_X2 ad b cs S = w_X2 ad' b' cs S := by
  have h0 : ad b = ad' b' := h 0 (by decide)
  unfold w_X2
  rw [h0, h 1 (by decide), h 2 (by decide)]
theorem sh_X7 {ad ad' : Nat → Nat} {b b' : Nat} {cs : Nat → ClassId} {en : Nat → Nat} {S : T2} (h : ∀ k, k < 4 → ad (b + k) = ad' (b' + k)) : w_X7 ad b cs en S = w_X7 ad' b' cs en S := by
  have h0 : ad b = ad' b' := h 0 (by decide)
  unfold w_X7
  rw [h0, h 1 (by decide), h 2 (by decide), h 3 (by decide)]
theorem sh_X5 {ad ad' : Nat → Nat} {b b' : Nat} {cs : Nat → ClassId} {S : T3} (h : ∀ k, k < 28 → ad (b + k) = ad' (b' + k)) : w_X5 ad b cs S = w_X5 ad' b' cs S := by
  have h0 : ad b = ad' b' := h 0 (by decide)
  unfold w_X5
  rw [sh_X6 (b := b + 1) (b' := b' + 1) (fun k hk => by rw [Nat.add_assoc, Nat.add_assoc]; exact h (1 + k) (by omega)), sh_X1 (b := b + 6) (b' := b' + 6) (fun k hk => by rw [Nat.add_assoc, Nat.add_assoc]; exact h (6 + k) (by omega)), sh_X4 (b := b + 13) (b' := b' + 13) (fun k hk => by rw [Nat.add_assoc, Nat.add_assoc]; exact h (13 + k) (by omega)), sh_X8 (b := b + 23) (b' := b' + 23) (fun k hk => by rw [Nat.add_assoc, Nat.add_assoc]; exact h (23 + k) (by omega))]
  rw [h0, h 1 (by decide), h 6 (by decide), h 13 (by decide), h 23 (by decide), h 27 (by decide)]
def w_X3f (ad : Nat → Nat) (b : Nat) (cs : Nat → ClassId) (S : T4) (f : Nat → Option Nat) : va_W := List.flatten [[((ad b), .inr (2, [.int (S 4 0 0 0), .ref (ad (b + 1)), .int (S 4 0 0 1)]))], [((ad (b + 1)), .inl (cs 2, 4, .inr (.inr (.inr (.inr f)))))], (w_X5 ad (b + 2) cs (S 0)), (w_X5 ad (b + 30) cs (S 1)), (w_X5 ad (b + 58) cs (S 2)), (w_X5 ad (b + 86) cs (S 3))]
theorem sh_X3f {ad ad' : Nat → Nat} {b b' : Nat} {cs : Nat → ClassId} {S : T4} {f : Nat → Option Nat} (h : ∀ k, k < 114 → ad (b + k) = ad' (b' + k)) : w_X3f ad b cs S f = w_X3f ad' b' cs S f := by
  have h0 : ad b = ad' b' := h 0 (by decide)
  unfold w_X3f
  rw [sh_X5 (b := b + 2) (b' := b' + 2) (fun k hk => by rw [Nat.add_assoc, Nat.add_assoc]; exact h (2 + k) (by omega)), sh_X5 (b := b + 30) (b' := b' + 30) (fun k hk => by rw [Nat.add_assoc, Nat.add_assoc]; exact h (30 + k) (by omega)), sh_X5 (b := b + 58) (b' := b' + 58) (fun k hk => by rw [Nat.add_assoc, Nat.add_assoc]; exact h (58 + k) (by omega)), sh_X5 (b := b + 86) (b' := b' + 86) (fun k hk => by rw [Nat.add_assoc, Nat.add_assoc]; exact h (86 + k) (by omega))]
  rw [h0, h 1 (by decide)]
theorem va_P_fl {D : va_G} {cl : List vw_C} {L : List va_W} {H : Heap} : va_P D cl L.flatten H ↔ ∀ w ∈ L, va_P D cl w H := by
  constructor
  · intro h w hw k q hq
    obtain ⟨j, hj⟩ := List.getElem?_of_mem (List.mem_flatten.mpr ⟨w, hw, List.mem_of_getElem? hq⟩)
    exact h j q hj
  · intro h k q hq
    obtain ⟨w, hw, hqw⟩ := List.mem_flatten.mp (List.mem_of_getElem? hq)
    obtain ⟨j, hj⟩ := List.getElem?_of_mem hqw
    exact h w hw j q hj
theorem nw_q {D : va_G} {cl : List vw_C} {a : Nat} {cA : ClassId} {f g : Nat → Option Nat} {H : Heap} (hfg : ∀ k, k < 4 → f k = g k) (h : va_at D cl (a, .inl (cA, 4, .inr (.inr (.inr (.inr f))))) H) : va_at D cl (a, .inl (cA, 4, .inr (.inr (.inr (.inr g))))) H :=
  Eq.trans h (congrArg some (arrV_cg (fun k hk => congrArg va_rf (hfg k hk))))
theorem w_X3_q {D : va_G} {cl : List vw_C} {ad : Nat → Nat} {b : Nat} {cs : Nat → ClassId} {S : T4} {f g : Nat → Option Nat} {H : Heap} (hfg : ∀ k, k < 4 → f k = g k) (h : va_P D cl (w_X3f ad b cs S f) H) : va_P D cl (w_X3f ad b cs S g) H :=
  nw_at (X := [((ad b), .inr (2, [.int (S 4 0 0 0), .ref (ad (b + 1)), .int (S 4 0 0 1)]))]) (Y := List.flatten [(w_X5 ad (b + 2) cs (S 0)), (w_X5 ad (b + 30) cs (S 1)), (w_X5 ad (b + 58) cs (S 2)), (w_X5 ad (b + 86) cs (S 3))]) h (nw_q hfg)
def zz2 : T2 := fun _ _ => 0
def zz5 : T3 := sU (fun _ _ _ => 0) 4 (sU (fun _ _ => 0) 0 (sU (sU (sU (fun _ => 0) 0 30) 1 60) 2 100))
def zz7 : T2 := sU (fun _ _ => 0) 2 (sU (fun _ => 0) 2 (-1))
def zz3 : T4 := fun j => if j < 4 then zz5 else fun _ _ _ => 0
def zz10 : T5 := fun i => if i = 0 then zz3 else fun j => if j < 3 then zz5 else fun k => if k = 1 then zz7 else fun _ _ => 0
def zz11 : T2 := sU (fun _ _ => 0) 0 (sU (sU (sU (fun _ => 0) 5 30) 6 60) 7 100)
set_option maxHeartbeats 8000000 in
set_option maxRecDepth 100000 in
theorem k_X6_init (l : Launch) (dC : Nat → ClassId) (dI : Nat → Nat → Nat) (cs : Nat → ClassId) (en : Nat → Nat) (h0 sz : Nat) : Met l yX6_init wsX6_init ({ frames := 1, cells := 4, slots := 24, locals := 12 } : Room) (va_Pc [.ref h0] (pV dC dI (tyL cs) en [(h0, .inr (5, [.int 0, .null, .null, .null, .null]))] sz)) (va_Qv (fun ad : Nat → Nat => ad 0 = h0) (fun ad => qW dC dI (tyL cs) (va_A [(h0, .inr (5, [.int 0, .null, .null, .null, .null]))] sz) (w_X6 ad 0 cs zz2)) (va_A [(h0, .inr (5, [.int 0, .null, .null, .null, .null]))] sz)) 4 24 (va_A [(h0, .inr (5, [.int 0, .null, .null, .null, .null]))] sz) := by
  refine mt_V (own := RX6) (cc := cX6_init) (maxL := 1) (ret := none) (Qc := fun A => va_Qv (fun ad : Nat → Nat => ad 0 = h0) (fun ad => qW dC dI (tyL cs) A (w_X6 ad 0 cs zz2)) A) rfl (by decide) rfl (Nat.le_of_ble_eq_true rfl) (fun p e s m below meth c A ls hsz hx hb hr hts hown hlocks hml hA hK hP hD hS hl hN hV hin => ?_)
  subst hsz
  have hl : lv_has ls 1 [(0, .ref h0)] := hl
  have hinX6 : ∀ w ∈ wsX60, w ∈ wsX6_init := by decide +kernel
  replace hP : va_P (dC, dI) vwCl (fl [[(h0, .inr (5, [.int 0, .null, .null, .null, .null]))]]) s.heap := hP
  replace hD : va_D A (fl [[(h0, .inr (5, [.int 0, .null, .null, .null, .null]))]]) := hD
  refine lv_aload_n hx hb dX6_init_0 rfl (lv_at hl 0 rfl) ?_
  refine W.objInit hx hb hown (hts (.methodLink RX6 3 objectInit) (List.mem_of_getElem? (i := 1) rfl)) (hts (.instanceMethod objectInit) (List.mem_of_getElem? (i := 2) rfl)) (hts (.code objectInit ⟨#[0xb1]⟩ 1 none) (List.mem_of_getElem? (i := 3) rfl)) rfl (by rw [hml]; exact hl.1) rfl dX6_init_1 (Nat.le_of_ble_eq_true rfl) (Nat.le_of_ble_eq_true rfl) ?_
  refine lv_aload_n hx hb dX6_init_4 rfl (lv_at hl 0 rfl) ?_
  refine lv_bipush (v := 6) hx hb dX6_init_5 bp_6 ?_
  refine nw_ai hx hb (hts (.arrayClass .int) (List.mem_of_getElem? (i := 4) rfl)) hK hP hD hS hA (N := 6) (by decide) (by decide) (Nat.le_of_ble_eq_true rfl) (Nat.le_of_ble_eq_true rfl) (Nat.le_of_ble_eq_true rfl) dX6_init_7 (fun q7 H7 hP' hD' hS' => ?_)
  replace hP : va_P (dC, dI) vwCl (fl [[(h0, .inr (5, [.int 0, .null, .null, .null, .null]))], [(q7, .inl (cs 0, 6, .inl (fun _ => 0)))]]) H7 := hP'
  replace hD : va_D A (fl [[(h0, .inr (5, [.int 0, .null, .null, .null, .null]))], [(q7, .inl (cs 0, 6, .inl (fun _ => 0)))]]) := hD'
  replace hS := hS'
  clear hP' hD' hS'
  refine va_putF (D := (dC, dI)) (ci := 5) (v := .ref q7) (ty := .array .int) (C := RX6) (T := TX6) (N := 5) hx hb hts hinX6 tyX6 tyX6_ok nmX6 hown hK hP hD hS 0 rfl rfl 1 (by decide) (hts (.fieldLink RX6 11 "DockedBikes$Stations" "place" "[I") (List.mem_of_getElem? (i := 5) rfl)) (fun _ h9 => h9) rfl hin rfl (by decide +kernel) rfl rfl (Nat.le_of_ble_eq_true rfl) dX6_init_9 (fun H9 locs9 hP' hD' hS' => ?_)
  replace hP : va_P (dC, dI) vwCl (fl [[(h0, .inr (5, [.int 0, .ref q7, .null, .null, .null]))], [(q7, .inl (cs 0, 6, .inl (fun _ => 0)))]]) H9 := hP'
  replace hD : va_D A (fl [[(h0, .inr (5, [.int 0, .ref q7, .null, .null, .null]))], [(q7, .inl (cs 0, 6, .inl (fun _ => 0)))]]) := hD'
  replace hS := hS'
  clear hP' hD' hS'
  refine lv_aload_n hx hb dX6_init_12 rfl (lv_at hl 0 rfl) ?_
  refine lv_bipush (v := 6) hx hb dX6_init_13 bp_6 ?_
  refine nw_ai hx hb (hts (.arrayClass .int) (List.mem_of_getElem? (i := 4) rfl)) hK hP hD hS hA (N := 6) (by decide) (by decide) (Nat.le_of_ble_eq_true rfl) (Nat.le_of_ble_eq_true rfl) (Nat.le_of_ble_eq_true rfl) dX6_init_15 (fun q15 H15 hP' hD' hS' => ?_)
  replace hP : va_P (dC, dI) vwCl (fl [[(h0, .inr (5, [.int 0, .ref q7, .null, .null, .null]))], [(q7, .inl (cs 0, 6, .inl (fun _ => 0)))], [(q15, .inl (cs 0, 6, .inl (fun _ => 0)))]]) H15 := hP'
  replace hD : va_D A (fl [[(h0, .inr (5, [.int 0, .ref q7, .null, .null, .null]))], [(q7, .inl (cs 0, 6, .inl (fun _ => 0)))], [(q15, .inl (cs 0, 6, .inl (fun _ => 0)))]]) := hD'
  replace hS := hS'
  clear hP' hD' hS'
  refine va_putF (D := (dC, dI)) (ci := 5) (v := .ref q15) (ty := .array .int) (C := RX6) (T := TX6) (N := 5) hx hb hts hinX6 tyX6 tyX6_ok nmX6 hown hK hP hD hS 0 rfl rfl 2 (by decide) (hts (.fieldLink RX6 15 "DockedBikes$Stations" "docks" "[I") (List.mem_of_getElem? (i := 6) rfl)) (fun _ h9 => h9) rfl hin rfl (by decide +kernel) rfl rfl (Nat.le_of_ble_eq_true rfl) dX6_init_17 (fun H17 locs17 hP' hD' hS' => ?_)
  replace hP : va_P (dC, dI) vwCl (fl [[(h0, .inr (5, [.int 0, .ref q7, .ref q15, .null, .null]))], [(q7, .inl (cs 0, 6, .inl (fun _ => 0)))], [(q15, .inl (cs 0, 6, .inl (fun _ => 0)))]]) H17 := hP'
  replace hD : va_D A (fl [[(h0, .inr (5, [.int 0, .ref q7, .ref q15, .null, .null]))], [(q7, .inl (cs 0, 6, .inl (fun _ => 0)))], [(q15, .inl (cs 0, 6, .inl (fun _ => 0)))]]) := hD'
  replace hS := hS'
  clear hP' hD' hS'
  refine lv_aload_n hx hb dX6_init_20 rfl (lv_at hl 0 rfl) ?_
  refine lv_bipush (v := 6) hx hb dX6_init_21 bp_6 ?_
  refine nw_ai hx hb (hts (.arrayClass .int) (List.mem_of_getElem? (i := 4) rfl)) hK hP hD hS hA (N := 6) (by decide) (by decide) (Nat.le_of_ble_eq_true rfl) (Nat.le_of_ble_eq_true rfl) (Nat.le_of_ble_eq_true rfl) dX6_init_23 (fun q23 H23 hP' hD' hS' => ?_)
  replace hP : va_P (dC, dI) vwCl (fl [[(h0, .inr (5, [.int 0, .ref q7, .ref q15, .null, .null]))], [(q7, .inl (cs 0, 6, .inl (fun _ => 0)))], [(q15, .inl (cs 0, 6, .inl (fun _ => 0)))], [(q23, .inl (cs 0, 6, .inl (fun _ => 0)))]]) H23 := hP'
  replace hD : va_D A (fl [[(h0, .inr (5, [.int 0, .ref q7, .ref q15, .null, .null]))], [(q7, .inl (cs 0, 6, .inl (fun _ => 0)))], [(q15, .inl (cs 0, 6, .inl (fun _ => 0)))], [(q23, .inl (cs 0, 6, .inl (fun _ => 0)))]]) := hD'
  replace hS := hS'
  clear hP' hD' hS'
  refine va_putF (D := (dC, dI)) (ci := 5) (v := .ref q23) (ty := .array .int) (C := RX6) (T := TX6) (N := 5) hx hb hts hinX6 tyX6 tyX6_ok nmX6 hown hK hP hD hS 0 rfl rfl 3 (by decide) (hts (.fieldLink RX6 18 "DockedBikes$Stations" "began" "[I") (List.mem_of_getElem? (i := 7) rfl)) (fun _ h9 => h9) rfl hin rfl (by decide +kernel) rfl rfl (Nat.le_of_ble_eq_true rfl) dX6_init_25 (fun H25 locs25 hP' hD' hS' => ?_)
  replace hP : va_P (dC, dI) vwCl (fl [[(h0, .inr (5, [.int 0, .ref q7, .ref q15, .ref q23, .null]))], [(q7, .inl (cs 0, 6, .inl (fun _ => 0)))], [(q15, .inl (cs 0, 6, .inl (fun _ => 0)))], [(q23, .inl (cs 0, 6, .inl (fun _ => 0)))]]) H25 := hP'
  replace hD : va_D A (fl [[(h0, .inr (5, [.int 0, .ref q7, .ref q15, .ref q23, .null]))], [(q7, .inl (cs 0, 6, .inl (fun _ => 0)))], [(q15, .inl (cs 0, 6, .inl (fun _ => 0)))], [(q23, .inl (cs 0, 6, .inl (fun _ => 0)))]]) := hD'
  replace hS := hS'
  clear hP' hD' hS'
  refine lv_aload_n hx hb dX6_init_28 rfl (lv_at hl 0 rfl) ?_
  refine lv_bipush (v := 6) hx hb dX6_init_29 bp_6 ?_
  refine nw_ai hx hb (hts (.arrayClass .int) (List.mem_of_getElem? (i := 4) rfl)) hK hP hD hS hA (N := 6) (by decide) (by decide) (Nat.le_of_ble_eq_true rfl) (Nat.le_of_ble_eq_true rfl) (Nat.le_of_ble_eq_true rfl) dX6_init_31 (fun q31 H31 hP' hD' hS' => ?_)
  replace hP : va_P (dC, dI) vwCl (fl [[(h0, .inr (5, [.int 0, .ref q7, .ref q15, .ref q23, .null]))], [(q7, .inl (cs 0, 6, .inl (fun _ => 0)))], [(q15, .inl (cs 0, 6, .inl (fun _ => 0)))], [(q23, .inl (cs 0, 6, .inl (fun _ => 0)))], [(q31, .inl (cs 0, 6, .inl (fun _ => 0)))]]) H31 := hP'
  replace hD : va_D A (fl [[(h0, .inr (5, [.int 0, .ref q7, .ref q15, .ref q23, .null]))], [(q7, .inl (cs 0, 6, .inl (fun _ => 0)))], [(q15, .inl (cs 0, 6, .inl (fun _ => 0)))], [(q23, .inl (cs 0, 6, .inl (fun _ => 0)))], [(q31, .inl (cs 0, 6, .inl (fun _ => 0)))]]) := hD'
  replace hS := hS'
  clear hP' hD' hS'
  refine va_putF (D := (dC, dI)) (ci := 5) (v := .ref q31) (ty := .array .int) (C := RX6) (T := TX6) (N := 5) hx hb hts hinX6 tyX6 tyX6_ok nmX6 hown hK hP hD hS 0 rfl rfl 4 (by decide) (hts (.fieldLink RX6 21 "DockedBikes$Stations" "ended" "[I") (List.mem_of_getElem? (i := 8) rfl)) (fun _ h9 => h9) rfl hin rfl (by decide +kernel) rfl rfl (Nat.le_of_ble_eq_true rfl) dX6_init_33 (fun H33 locs33 hP' hD' hS' => ?_)
  replace hP : va_P (dC, dI) vwCl (fl [[(h0, .inr (5, [.int 0, .ref q7, .ref q15, .ref q23, .ref q31]))], [(q7, .inl (cs 0, 6, .inl (fun _ => 0)))], [(q15, .inl (cs 0, 6, .inl (fun _ => 0)))], [(q23, .inl (cs 0, 6, .inl (fun _ => 0)))], [(q31, .inl (cs 0, 6, .inl (fun _ => 0)))]]) H33 := hP'
  replace hD : va_D A (fl [[(h0, .inr (5, [.int 0, .ref q7, .ref q15, .ref q23, .ref q31]))], [(q7, .inl (cs 0, 6, .inl (fun _ => 0)))], [(q15, .inl (cs 0, 6, .inl (fun _ => 0)))], [(q23, .inl (cs 0, 6, .inl (fun _ => 0)))], [(q31, .inl (cs 0, 6, .inl (fun _ => 0)))]]) := hD'
  replace hS := hS'
  clear hP' hD' hS'
  obtain ⟨ad, had⟩ : ∃ ad : Nat → Nat, ad = fun k => ([h0, q7, q15, q23, q31] : List Nat).getD k 0 := ⟨_, rfl⟩
  have hPf : va_P (dC, dI) vwCl (w_X6 ad 0 cs zz2) H33 := by rw [had]; exact hP
  have hDf : va_D A (w_X6 ad 0 cs zz2) := by rw [had]; exact hD
  refine W.widen (k := 4) (n := 24) (Nat.le_of_ble_eq_true rfl) (Nat.le_of_ble_eq_true rfl) ?_
  exact W.vret hx hb hr (fun t ht hW => ⟨⟨ad, rfl, by rw [had]; rfl, by rw [ht]; exact hPf, va_K.moved hW.alike hK, hDf⟩, hS.F ht⟩) hS.2.2 dX6_init_36
set_option maxHeartbeats 8000000 in
set_option maxRecDepth 100000 in
theorem k_X1_init (l : Launch) (dC : Nat → ClassId) (dI : Nat → Nat → Nat) (cs : Nat → ClassId) (en : Nat → Nat) (h0 sz : Nat) : Met l yX1_init wsX1_init ({ frames := 1, cells := 6, slots := 96, locals := 12 } : Room) (va_Pc [.ref h0] (pV dC dI (tyL cs) en [(h0, .inr (0, [.int 0, .null, .null, .null, .null, .null, .null]))] sz)) (va_Qv (fun ad : Nat → Nat => ad 0 = h0) (fun ad => qW dC dI (tyL cs) (va_A [(h0, .inr (0, [.int 0, .null, .null, .null, .null, .null, .null]))] sz) (w_X1 ad 0 cs zz2)) (va_A [(h0, .inr (0, [.int 0, .null, .null, .null, .null, .null, .null]))] sz)) 6 96 (va_A [(h0, .inr (0, [.int 0, .null, .null, .null, .null, .null, .null]))] sz) := by
  refine mt_V (own := RX1) (cc := cX1_init) (maxL := 1) (ret := none) (Qc := fun A => va_Qv (fun ad : Nat → Nat => ad 0 = h0) (fun ad => qW dC dI (tyL cs) A (w_X1 ad 0 cs zz2)) A) rfl (by decide) rfl (Nat.le_of_ble_eq_true rfl) (fun p e s m below meth c A ls hsz hx hb hr hts hown hlocks hml hA hK hP hD hS hl hN hV hin => ?_)
  subst hsz
  have hl : lv_has ls 1 [(0, .ref h0)] := hl
  have hinX1 : ∀ w ∈ wsX10, w ∈ wsX1_init := by decide +kernel
  replace hP : va_P (dC, dI) vwCl (fl [[(h0, .inr (0, [.int 0, .null, .null, .null, .null, .null, .null]))]]) s.heap := hP
  replace hD : va_D A (fl [[(h0, .inr (0, [.int 0, .null, .null, .null, .null, .null, .null]))]]) := hD
  refine lv_aload_n hx hb dX1_init_0 rfl (lv_at hl 0 rfl) ?_
  refine W.objInit hx hb hown (hts (.methodLink RX1 3 objectInit) (List.mem_of_getElem? (i := 1) rfl)) (hts (.instanceMethod objectInit) (List.mem_of_getElem? (i := 2) rfl)) (hts (.code objectInit ⟨#[0xb1]⟩ 1 none) (List.mem_of_getElem? (i := 3) rfl)) rfl (by rw [hml]; exact hl.1) rfl dX1_init_1 (Nat.le_of_ble_eq_true rfl) (Nat.le_of_ble_eq_true rfl) ?_
  refine lv_aload_n hx hb dX1_init_4 rfl (lv_at hl 0 rfl) ?_
  refine lv_bipush (v := 16) hx hb dX1_init_5 bp_16 ?_
  refine nw_ai hx hb (hts (.arrayClass .int) (List.mem_of_getElem? (i := 4) rfl)) hK hP hD hS hA (N := 16) (by decide) (by decide) (Nat.le_of_ble_eq_true rfl) (Nat.le_of_ble_eq_true rfl) (Nat.le_of_ble_eq_true rfl) dX1_init_7 (fun q7 H7 hP' hD' hS' => ?_)
  replace hP : va_P (dC, dI) vwCl (fl [[(h0, .inr (0, [.int 0, .null, .null, .null, .null, .null, .null]))], [(q7, .inl (cs 0, 16, .inl (fun _ => 0)))]]) H7 := hP'
  replace hD : va_D A (fl [[(h0, .inr (0, [.int 0, .null, .null, .null, .null, .null, .null]))], [(q7, .inl (cs 0, 16, .inl (fun _ => 0)))]]) := hD'
  replace hS := hS'
  clear hP' hD' hS'
  refine va_putF (D := (dC, dI)) (ci := 0) (v := .ref q7) (ty := .array .int) (C := RX1) (T := TX1) (N := 7) hx hb hts hinX1 tyX1 tyX1_ok nmX1 hown hK hP hD hS 0 rfl rfl 1 (by decide) (hts (.fieldLink RX1 11 "DockedBikes$Bicycles" "where" "[I") (List.mem_of_getElem? (i := 5) rfl)) (fun _ h9 => h9) rfl hin rfl (by decide +kernel) rfl rfl (Nat.le_of_ble_eq_true rfl) dX1_init_9 (fun H9 locs9 hP' hD' hS' => ?_)
  replace hP : va_P (dC, dI) vwCl (fl [[(h0, .inr (0, [.int 0, .ref q7, .null, .null, .null, .null, .null]))], [(q7, .inl (cs 0, 16, .inl (fun _ => 0)))]]) H9 := hP'
  replace hD : va_D A (fl [[(h0, .inr (0, [.int 0, .ref q7, .null, .null, .null, .null, .null]))], [(q7, .inl (cs 0, 16, .inl (fun _ => 0)))]]) := hD'
  replace hS := hS'
  clear hP' hD' hS'
  refine lv_aload_n hx hb dX1_init_12 rfl (lv_at hl 0 rfl) ?_
  refine lv_bipush (v := 16) hx hb dX1_init_13 bp_16 ?_
  refine nw_ai hx hb (hts (.arrayClass .int) (List.mem_of_getElem? (i := 4) rfl)) hK hP hD hS hA (N := 16) (by decide) (by decide) (Nat.le_of_ble_eq_true rfl) (Nat.le_of_ble_eq_true rfl) (Nat.le_of_ble_eq_true rfl) dX1_init_15 (fun q15 H15 hP' hD' hS' => ?_)
  replace hP : va_P (dC, dI) vwCl (fl [[(h0, .inr (0, [.int 0, .ref q7, .null, .null, .null, .null, .null]))], [(q7, .inl (cs 0, 16, .inl (fun _ => 0)))], [(q15, .inl (cs 0, 16, .inl (fun _ => 0)))]]) H15 := hP'
  replace hD : va_D A (fl [[(h0, .inr (0, [.int 0, .ref q7, .null, .null, .null, .null, .null]))], [(q7, .inl (cs 0, 16, .inl (fun _ => 0)))], [(q15, .inl (cs 0, 16, .inl (fun _ => 0)))]]) := hD'
  replace hS := hS'
  clear hP' hD' hS'
  refine va_putF (D := (dC, dI)) (ci := 0) (v := .ref q15) (ty := .array .int) (C := RX1) (T := TX1) (N := 7) hx hb hts hinX1 tyX1 tyX1_ok nmX1 hown hK hP hD hS 0 rfl rfl 2 (by decide) (hts (.fieldLink RX1 15 "DockedBikes$Bicycles" "holder" "[I") (List.mem_of_getElem? (i := 6) rfl)) (fun _ h9 => h9) rfl hin rfl (by decide +kernel) rfl rfl (Nat.le_of_ble_eq_true rfl) dX1_init_17 (fun H17 locs17 hP' hD' hS' => ?_)
  replace hP : va_P (dC, dI) vwCl (fl [[(h0, .inr (0, [.int 0, .ref q7, .ref q15, .null, .null, .null, .null]))], [(q7, .inl (cs 0, 16, .inl (fun _ => 0)))], [(q15, .inl (cs 0, 16, .inl (fun _ => 0)))]]) H17 := hP'
  replace hD : va_D A (fl [[(h0, .inr (0, [.int 0, .ref q7, .ref q15, .null, .null, .null, .null]))], [(q7, .inl (cs 0, 16, .inl (fun _ => 0)))], [(q15, .inl (cs 0, 16, .inl (fun _ => 0)))]]) := hD'
  replace hS := hS'
  clear hP' hD' hS'
  refine lv_aload_n hx hb dX1_init_20 rfl (lv_at hl 0 rfl) ?_
  refine lv_bipush (v := 16) hx hb dX1_init_21 bp_16 ?_
  refine nw_ai hx hb (hts (.arrayClass .int) (List.mem_of_getElem? (i := 4) rfl)) hK hP hD hS hA (N := 16) (by decide) (by decide) (Nat.le_of_ble_eq_true rfl) (Nat.le_of_ble_eq_true rfl) (Nat.le_of_ble_eq_true rfl) dX1_init_23 (fun q23 H23 hP' hD' hS' => ?_)
  replace hP : va_P (dC, dI) vwCl (fl [[(h0, .inr (0, [.int 0, .ref q7, .ref q15, .null, .null, .null, .null]))], [(q7, .inl (cs 0, 16, .inl (fun _ => 0)))], [(q15, .inl (cs 0, 16, .inl (fun _ => 0)))], [(q23, .inl (cs 0, 16, .inl (fun _ => 0)))]]) H23 := hP'
  replace hD : va_D A (fl [[(h0, .inr (0, [.int 0, .ref q7, .ref q15, .null, .null, .null, .null]))], [(q7, .inl (cs 0, 16, .inl (fun _ => 0)))], [(q15, .inl (cs 0, 16, .inl (fun _ => 0)))], [(q23, .inl (cs 0, 16, .inl (fun _ => 0)))]]) := hD'
  replace hS := hS'
  clear hP' hD' hS'
  refine va_putF (D := (dC, dI)) (ci := 0) (v := .ref q23) (ty := .array .int) (C := RX1) (T := TX1) (N := 7) hx hb hts hinX1 tyX1 tyX1_ok nmX1 hown hK hP hD hS 0 rfl rfl 3 (by decide) (hts (.fieldLink RX1 18 "DockedBikes$Bicycles" "minutes" "[I") (List.mem_of_getElem? (i := 7) rfl)) (fun _ h9 => h9) rfl hin rfl (by decide +kernel) rfl rfl (Nat.le_of_ble_eq_true rfl) dX1_init_25 (fun H25 locs25 hP' hD' hS' => ?_)
  replace hP : va_P (dC, dI) vwCl (fl [[(h0, .inr (0, [.int 0, .ref q7, .ref q15, .ref q23, .null, .null, .null]))], [(q7, .inl (cs 0, 16, .inl (fun _ => 0)))], [(q15, .inl (cs 0, 16, .inl (fun _ => 0)))], [(q23, .inl (cs 0, 16, .inl (fun _ => 0)))]]) H25 := hP'
  replace hD : va_D A (fl [[(h0, .inr (0, [.int 0, .ref q7, .ref q15, .ref q23, .null, .null, .null]))], [(q7, .inl (cs 0, 16, .inl (fun _ => 0)))], [(q15, .inl (cs 0, 16, .inl (fun _ => 0)))], [(q23, .inl (cs 0, 16, .inl (fun _ => 0)))]]) := hD'
  replace hS := hS'
  clear hP' hD' hS'
  refine lv_aload_n hx hb dX1_init_28 rfl (lv_at hl 0 rfl) ?_
  refine lv_bipush (v := 16) hx hb dX1_init_29 bp_16 ?_
  refine nw_ai hx hb (hts (.arrayClass .int) (List.mem_of_getElem? (i := 4) rfl)) hK hP hD hS hA (N := 16) (by decide) (by decide) (Nat.le_of_ble_eq_true rfl) (Nat.le_of_ble_eq_true rfl) (Nat.le_of_ble_eq_true rfl) dX1_init_31 (fun q31 H31 hP' hD' hS' => ?_)
  replace hP : va_P (dC, dI) vwCl (fl [[(h0, .inr (0, [.int 0, .ref q7, .ref q15, .ref q23, .null, .null, .null]))], [(q7, .inl (cs 0, 16, .inl (fun _ => 0)))], [(q15, .inl (cs 0, 16, .inl (fun _ => 0)))], [(q23, .inl (cs 0, 16, .inl (fun _ => 0)))], [(q31, .inl (cs 0, 16, .inl (fun _ => 0)))]]) H31 := hP'
  replace hD : va_D A (fl [[(h0, .inr (0, [.int 0, .ref q7, .ref q15, .ref q23, .null, .null, .null]))], [(q7, .inl (cs 0, 16, .inl (fun _ => 0)))], [(q15, .inl (cs 0, 16, .inl (fun _ => 0)))], [(q23, .inl (cs 0, 16, .inl (fun _ => 0)))], [(q31, .inl (cs 0, 16, .inl (fun _ => 0)))]]) := hD'
  replace hS := hS'
  clear hP' hD' hS'
  refine va_putF (D := (dC, dI)) (ci := 0) (v := .ref q31) (ty := .array .int) (C := RX1) (T := TX1) (N := 7) hx hb hts hinX1 tyX1 tyX1_ok nmX1 hown hK hP hD hS 0 rfl rfl 4 (by decide) (hts (.fieldLink RX1 21 "DockedBikes$Bicycles" "faulty" "[I") (List.mem_of_getElem? (i := 8) rfl)) (fun _ h9 => h9) rfl hin rfl (by decide +kernel) rfl rfl (Nat.le_of_ble_eq_true rfl) dX1_init_33 (fun H33 locs33 hP' hD' hS' => ?_)
  replace hP : va_P (dC, dI) vwCl (fl [[(h0, .inr (0, [.int 0, .ref q7, .ref q15, .ref q23, .ref q31, .null, .null]))], [(q7, .inl (cs 0, 16, .inl (fun _ => 0)))], [(q15, .inl (cs 0, 16, .inl (fun _ => 0)))], [(q23, .inl (cs 0, 16, .inl (fun _ => 0)))], [(q31, .inl (cs 0, 16, .inl (fun _ => 0)))]]) H33 := hP'
  replace hD : va_D A (fl [[(h0, .inr (0, [.int 0, .ref q7, .ref q15, .ref q23, .ref q31, .null, .null]))], [(q7, .inl (cs 0, 16, .inl (fun _ => 0)))], [(q15, .inl (cs 0, 16, .inl (fun _ => 0)))], [(q23, .inl (cs 0, 16, .inl (fun _ => 0)))], [(q31, .inl (cs 0, 16, .inl (fun _ => 0)))]]) := hD'
  replace hS := hS'
  clear hP' hD' hS'
  refine lv_aload_n hx hb dX1_init_36 rfl (lv_at hl 0 rfl) ?_
  refine lv_bipush (v := 16) hx hb dX1_init_37 bp_16 ?_
  refine nw_ai hx hb (hts (.arrayClass .int) (List.mem_of_getElem? (i := 4) rfl)) hK hP hD hS hA (N := 16) (by decide) (by decide) (Nat.le_of_ble_eq_true rfl) (Nat.le_of_ble_eq_true rfl) (Nat.le_of_ble_eq_true rfl) dX1_init_39 (fun q39 H39 hP' hD' hS' => ?_)
  replace hP : va_P (dC, dI) vwCl (fl [[(h0, .inr (0, [.int 0, .ref q7, .ref q15, .ref q23, .ref q31, .null, .null]))], [(q7, .inl (cs 0, 16, .inl (fun _ => 0)))], [(q15, .inl (cs 0, 16, .inl (fun _ => 0)))], [(q23, .inl (cs 0, 16, .inl (fun _ => 0)))], [(q31, .inl (cs 0, 16, .inl (fun _ => 0)))], [(q39, .inl (cs 0, 16, .inl (fun _ => 0)))]]) H39 := hP'
  replace hD : va_D A (fl [[(h0, .inr (0, [.int 0, .ref q7, .ref q15, .ref q23, .ref q31, .null, .null]))], [(q7, .inl (cs 0, 16, .inl (fun _ => 0)))], [(q15, .inl (cs 0, 16, .inl (fun _ => 0)))], [(q23, .inl (cs 0, 16, .inl (fun _ => 0)))], [(q31, .inl (cs 0, 16, .inl (fun _ => 0)))], [(q39, .inl (cs 0, 16, .inl (fun _ => 0)))]]) := hD'
  replace hS := hS'
  clear hP' hD' hS'
  refine va_putF (D := (dC, dI)) (ci := 0) (v := .ref q39) (ty := .array .int) (C := RX1) (T := TX1) (N := 7) hx hb hts hinX1 tyX1 tyX1_ok nmX1 hown hK hP hD hS 0 rfl rfl 5 (by decide) (hts (.fieldLink RX1 24 "DockedBikes$Bicycles" "rides" "[I") (List.mem_of_getElem? (i := 9) rfl)) (fun _ h9 => h9) rfl hin rfl (by decide +kernel) rfl rfl (Nat.le_of_ble_eq_true rfl) dX1_init_41 (fun H41 locs41 hP' hD' hS' => ?_)
  replace hP : va_P (dC, dI) vwCl (fl [[(h0, .inr (0, [.int 0, .ref q7, .ref q15, .ref q23, .ref q31, .ref q39, .null]))], [(q7, .inl (cs 0, 16, .inl (fun _ => 0)))], [(q15, .inl (cs 0, 16, .inl (fun _ => 0)))], [(q23, .inl (cs 0, 16, .inl (fun _ => 0)))], [(q31, .inl (cs 0, 16, .inl (fun _ => 0)))], [(q39, .inl (cs 0, 16, .inl (fun _ => 0)))]]) H41 := hP'
  replace hD : va_D A (fl [[(h0, .inr (0, [.int 0, .ref q7, .ref q15, .ref q23, .ref q31, .ref q39, .null]))], [(q7, .inl (cs 0, 16, .inl (fun _ => 0)))], [(q15, .inl (cs 0, 16, .inl (fun _ => 0)))], [(q23, .inl (cs 0, 16, .inl (fun _ => 0)))], [(q31, .inl (cs 0, 16, .inl (fun _ => 0)))], [(q39, .inl (cs 0, 16, .inl (fun _ => 0)))]]) := hD'
  replace hS := hS'
  clear hP' hD' hS'
  refine lv_aload_n hx hb dX1_init_44 rfl (lv_at hl 0 rfl) ?_
  refine lv_bipush (v := 16) hx hb dX1_init_45 bp_16 ?_
  refine nw_ai hx hb (hts (.arrayClass .int) (List.mem_of_getElem? (i := 4) rfl)) hK hP hD hS hA (N := 16) (by decide) (by decide) (Nat.le_of_ble_eq_true rfl) (Nat.le_of_ble_eq_true rfl) (Nat.le_of_ble_eq_true rfl) dX1_init_47 (fun q47 H47 hP' hD' hS' => ?_)
  replace hP : va_P (dC, dI) vwCl (fl [[(h0, .inr (0, [.int 0, .ref q7, .ref q15, .ref q23, .ref q31, .ref q39, .null]))], [(q7, .inl (cs 0, 16, .inl (fun _ => 0)))], [(q15, .inl (cs 0, 16, .inl (fun _ => 0)))], [(q23, .inl (cs 0, 16, .inl (fun _ => 0)))], [(q31, .inl (cs 0, 16, .inl (fun _ => 0)))], [(q39, .inl (cs 0, 16, .inl (fun _ => 0)))], [(q47, .inl (cs 0, 16, .inl (fun _ => 0)))]]) H47 := hP'
  replace hD : va_D A (fl [[(h0, .inr (0, [.int 0, .ref q7, .ref q15, .ref q23, .ref q31, .ref q39, .null]))], [(q7, .inl (cs 0, 16, .inl (fun _ => 0)))], [(q15, .inl (cs 0, 16, .inl (fun _ => 0)))], [(q23, .inl (cs 0, 16, .inl (fun _ => 0)))], [(q31, .inl (cs 0, 16, .inl (fun _ => 0)))], [(q39, .inl (cs 0, 16, .inl (fun _ => 0)))], [(q47, .inl (cs 0, 16, .inl (fun _ => 0)))]]) := hD'
  replace hS := hS'
  clear hP' hD' hS'
  refine va_putF (D := (dC, dI)) (ci := 0) (v := .ref q47) (ty := .array .int) (C := RX1) (T := TX1) (N := 7) hx hb hts hinX1 tyX1 tyX1_ok nmX1 hown hK hP hD hS 0 rfl rfl 6 (by decide) (hts (.fieldLink RX1 27 "DockedBikes$Bicycles" "ready" "[I") (List.mem_of_getElem? (i := 10) rfl)) (fun _ h9 => h9) rfl hin rfl (by decide +kernel) rfl rfl (Nat.le_of_ble_eq_true rfl) dX1_init_49 (fun H49 locs49 hP' hD' hS' => ?_)
  replace hP : va_P (dC, dI) vwCl (fl [[(h0, .inr (0, [.int 0, .ref q7, .ref q15, .ref q23, .ref q31, .ref q39, .ref q47]))], [(q7, .inl (cs 0, 16, .inl (fun _ => 0)))], [(q15, .inl (cs 0, 16, .inl (fun _ => 0)))], [(q23, .inl (cs 0, 16, .inl (fun _ => 0)))], [(q31, .inl (cs 0, 16, .inl (fun _ => 0)))], [(q39, .inl (cs 0, 16, .inl (fun _ => 0)))], [(q47, .inl (cs 0, 16, .inl (fun _ => 0)))]]) H49 := hP'
  replace hD : va_D A (fl [[(h0, .inr (0, [.int 0, .ref q7, .ref q15, .ref q23, .ref q31, .ref q39, .ref q47]))], [(q7, .inl (cs 0, 16, .inl (fun _ => 0)))], [(q15, .inl (cs 0, 16, .inl (fun _ => 0)))], [(q23, .inl (cs 0, 16, .inl (fun _ => 0)))], [(q31, .inl (cs 0, 16, .inl (fun _ => 0)))], [(q39, .inl (cs 0, 16, .inl (fun _ => 0)))], [(q47, .inl (cs 0, 16, .inl (fun _ => 0)))]]) := hD'
  replace hS := hS'
  clear hP' hD' hS'
  obtain ⟨ad, had⟩ : ∃ ad : Nat → Nat, ad = fun k => ([h0, q7, q15, q23, q31, q39, q47] : List Nat).getD k 0 := ⟨_, rfl⟩
  have hPf : va_P (dC, dI) vwCl (w_X1 ad 0 cs zz2) H49 := by rw [had]; exact hP
  have hDf : va_D A (w_X1 ad 0 cs zz2) := by rw [had]; exact hD
  refine W.widen (k := 6) (n := 96) (Nat.le_of_ble_eq_true rfl) (Nat.le_of_ble_eq_true rfl) ?_
  exact W.vret hx hb hr (fun t ht hW => ⟨⟨ad, rfl, by rw [had]; rfl, by rw [ht]; exact hPf, va_K.moved hW.alike hK, hDf⟩, hS.F ht⟩) hS.2.2 dX1_init_52
set_option maxHeartbeats 8000000 in
set_option maxRecDepth 100000 in
theorem k_X4_init (l : Launch) (dC : Nat → ClassId) (dI : Nat → Nat → Nat) (cs : Nat → ClassId) (en : Nat → Nat) (h0 sz : Nat) : Met l yX4_init wsX4_init ({ frames := 1, cells := 9, slots := 72, locals := 12 } : Room) (va_Pc [.ref h0] (pV dC dI (tyL cs) en [(h0, .inr (3, [.int 0, .null, .null, .null, .null, .null, .null, .null, .null, .null]))] sz)) (va_Qv (fun ad : Nat → Nat => ad 0 = h0) (fun ad => qW dC dI (tyL cs) (va_A [(h0, .inr (3, [.int 0, .null, .null, .null, .null, .null, .null, .null, .null, .null]))] sz) (w_X4 ad 0 cs zz2)) (va_A [(h0, .inr (3, [.int 0, .null, .null, .null, .null, .null, .null, .null, .null, .null]))] sz)) 9 72 (va_A [(h0, .inr (3, [.int 0, .null, .null, .null, .null, .null, .null, .null, .null, .null]))] sz) := by
  refine mt_V (own := RX4) (cc := cX4_init) (maxL := 1) (ret := none) (Qc := fun A => va_Qv (fun ad : Nat → Nat => ad 0 = h0) (fun ad => qW dC dI (tyL cs) A (w_X4 ad 0 cs zz2)) A) rfl (by decide) rfl (Nat.le_of_ble_eq_true rfl) (fun p e s m below meth c A ls hsz hx hb hr hts hown hlocks hml hA hK hP hD hS hl hN hV hin => ?_)
  subst hsz
  have hl : lv_has ls 1 [(0, .ref h0)] := hl
  have hinX4 : ∀ w ∈ wsX40, w ∈ wsX4_init := by decide +kernel
  replace hP : va_P (dC, dI) vwCl (fl [[(h0, .inr (3, [.int 0, .null, .null, .null, .null, .null, .null, .null, .null, .null]))]]) s.heap := hP
  replace hD : va_D A (fl [[(h0, .inr (3, [.int 0, .null, .null, .null, .null, .null, .null, .null, .null, .null]))]]) := hD
  refine lv_aload_n hx hb dX4_init_0 rfl (lv_at hl 0 rfl) ?_
  refine W.objInit hx hb hown (hts (.methodLink RX4 3 objectInit) (List.mem_of_getElem? (i := 1) rfl)) (hts (.instanceMethod objectInit) (List.mem_of_getElem? (i := 2) rfl)) (hts (.code objectInit ⟨#[0xb1]⟩ 1 none) (List.mem_of_getElem? (i := 3) rfl)) rfl (by rw [hml]; exact hl.1) rfl dX4_init_1 (Nat.le_of_ble_eq_true rfl) (Nat.le_of_ble_eq_true rfl) ?_
  refine lv_aload_n hx hb dX4_init_4 rfl (lv_at hl 0 rfl) ?_
  refine lv_bipush (v := 8) hx hb dX4_init_5 bp_8 ?_
  refine nw_ai hx hb (hts (.arrayClass .int) (List.mem_of_getElem? (i := 4) rfl)) hK hP hD hS hA (N := 8) (by decide) (by decide) (Nat.le_of_ble_eq_true rfl) (Nat.le_of_ble_eq_true rfl) (Nat.le_of_ble_eq_true rfl) dX4_init_7 (fun q7 H7 hP' hD' hS' => ?_)
  replace hP : va_P (dC, dI) vwCl (fl [[(h0, .inr (3, [.int 0, .null, .null, .null, .null, .null, .null, .null, .null, .null]))], [(q7, .inl (cs 0, 8, .inl (fun _ => 0)))]]) H7 := hP'
  replace hD : va_D A (fl [[(h0, .inr (3, [.int 0, .null, .null, .null, .null, .null, .null, .null, .null, .null]))], [(q7, .inl (cs 0, 8, .inl (fun _ => 0)))]]) := hD'
  replace hS := hS'
  clear hP' hD' hS'
  refine va_putF (D := (dC, dI)) (ci := 3) (v := .ref q7) (ty := .array .int) (C := RX4) (T := TX4) (N := 10) hx hb hts hinX4 tyX4 tyX4_ok nmX4 hown hK hP hD hS 0 rfl rfl 1 (by decide) (hts (.fieldLink RX4 11 "DockedBikes$Riders" "owed" "[I") (List.mem_of_getElem? (i := 5) rfl)) (fun _ h9 => h9) rfl hin rfl (by decide +kernel) rfl rfl (Nat.le_of_ble_eq_true rfl) dX4_init_9 (fun H9 locs9 hP' hD' hS' => ?_)
  replace hP : va_P (dC, dI) vwCl (fl [[(h0, .inr (3, [.int 0, .ref q7, .null, .null, .null, .null, .null, .null, .null, .null]))], [(q7, .inl (cs 0, 8, .inl (fun _ => 0)))]]) H9 := hP'
  replace hD : va_D A (fl [[(h0, .inr (3, [.int 0, .ref q7, .null, .null, .null, .null, .null, .null, .null, .null]))], [(q7, .inl (cs 0, 8, .inl (fun _ => 0)))]]) := hD'
  replace hS := hS'
  clear hP' hD' hS'
  refine lv_aload_n hx hb dX4_init_12 rfl (lv_at hl 0 rfl) ?_
  refine lv_bipush (v := 8) hx hb dX4_init_13 bp_8 ?_
  refine nw_ai hx hb (hts (.arrayClass .int) (List.mem_of_getElem? (i := 4) rfl)) hK hP hD hS hA (N := 8) (by decide) (by decide) (Nat.le_of_ble_eq_true rfl) (Nat.le_of_ble_eq_true rfl) (Nat.le_of_ble_eq_true rfl) dX4_init_15 (fun q15 H15 hP' hD' hS' => ?_)
  replace hP : va_P (dC, dI) vwCl (fl [[(h0, .inr (3, [.int 0, .ref q7, .null, .null, .null, .null, .null, .null, .null, .null]))], [(q7, .inl (cs 0, 8, .inl (fun _ => 0)))], [(q15, .inl (cs 0, 8, .inl (fun _ => 0)))]]) H15 := hP'
  replace hD : va_D A (fl [[(h0, .inr (3, [.int 0, .ref q7, .null, .null, .null, .null, .null, .null, .null, .null]))], [(q7, .inl (cs 0, 8, .inl (fun _ => 0)))], [(q15, .inl (cs 0, 8, .inl (fun _ => 0)))]]) := hD'
  replace hS := hS'
  clear hP' hD' hS'
  refine va_putF (D := (dC, dI)) (ci := 3) (v := .ref q15) (ty := .array .int) (C := RX4) (T := TX4) (N := 10) hx hb hts hinX4 tyX4 tyX4_ok nmX4 hown hK hP hD hS 0 rfl rfl 2 (by decide) (hts (.fieldLink RX4 15 "DockedBikes$Riders" "passEnd" "[I") (List.mem_of_getElem? (i := 6) rfl)) (fun _ h9 => h9) rfl hin rfl (by decide +kernel) rfl rfl (Nat.le_of_ble_eq_true rfl) dX4_init_17 (fun H17 locs17 hP' hD' hS' => ?_)
  replace hP : va_P (dC, dI) vwCl (fl [[(h0, .inr (3, [.int 0, .ref q7, .ref q15, .null, .null, .null, .null, .null, .null, .null]))], [(q7, .inl (cs 0, 8, .inl (fun _ => 0)))], [(q15, .inl (cs 0, 8, .inl (fun _ => 0)))]]) H17 := hP'
  replace hD : va_D A (fl [[(h0, .inr (3, [.int 0, .ref q7, .ref q15, .null, .null, .null, .null, .null, .null, .null]))], [(q7, .inl (cs 0, 8, .inl (fun _ => 0)))], [(q15, .inl (cs 0, 8, .inl (fun _ => 0)))]]) := hD'
  replace hS := hS'
  clear hP' hD' hS'
  refine lv_aload_n hx hb dX4_init_20 rfl (lv_at hl 0 rfl) ?_
  refine lv_bipush (v := 8) hx hb dX4_init_21 bp_8 ?_
  refine nw_ai hx hb (hts (.arrayClass .int) (List.mem_of_getElem? (i := 4) rfl)) hK hP hD hS hA (N := 8) (by decide) (by decide) (Nat.le_of_ble_eq_true rfl) (Nat.le_of_ble_eq_true rfl) (Nat.le_of_ble_eq_true rfl) dX4_init_23 (fun q23 H23 hP' hD' hS' => ?_)
  replace hP : va_P (dC, dI) vwCl (fl [[(h0, .inr (3, [.int 0, .ref q7, .ref q15, .null, .null, .null, .null, .null, .null, .null]))], [(q7, .inl (cs 0, 8, .inl (fun _ => 0)))], [(q15, .inl (cs 0, 8, .inl (fun _ => 0)))], [(q23, .inl (cs 0, 8, .inl (fun _ => 0)))]]) H23 := hP'
  replace hD : va_D A (fl [[(h0, .inr (3, [.int 0, .ref q7, .ref q15, .null, .null, .null, .null, .null, .null, .null]))], [(q7, .inl (cs 0, 8, .inl (fun _ => 0)))], [(q15, .inl (cs 0, 8, .inl (fun _ => 0)))], [(q23, .inl (cs 0, 8, .inl (fun _ => 0)))]]) := hD'
  replace hS := hS'
  clear hP' hD' hS'
  refine va_putF (D := (dC, dI)) (ci := 3) (v := .ref q23) (ty := .array .int) (C := RX4) (T := TX4) (N := 10) hx hb hts hinX4 tyX4 tyX4_ok nmX4 hown hK hP hD hS 0 rfl rfl 3 (by decide) (hts (.fieldLink RX4 18 "DockedBikes$Riders" "passCoins" "[I") (List.mem_of_getElem? (i := 7) rfl)) (fun _ h9 => h9) rfl hin rfl (by decide +kernel) rfl rfl (Nat.le_of_ble_eq_true rfl) dX4_init_25 (fun H25 locs25 hP' hD' hS' => ?_)
  replace hP : va_P (dC, dI) vwCl (fl [[(h0, .inr (3, [.int 0, .ref q7, .ref q15, .ref q23, .null, .null, .null, .null, .null, .null]))], [(q7, .inl (cs 0, 8, .inl (fun _ => 0)))], [(q15, .inl (cs 0, 8, .inl (fun _ => 0)))], [(q23, .inl (cs 0, 8, .inl (fun _ => 0)))]]) H25 := hP'
  replace hD : va_D A (fl [[(h0, .inr (3, [.int 0, .ref q7, .ref q15, .ref q23, .null, .null, .null, .null, .null, .null]))], [(q7, .inl (cs 0, 8, .inl (fun _ => 0)))], [(q15, .inl (cs 0, 8, .inl (fun _ => 0)))], [(q23, .inl (cs 0, 8, .inl (fun _ => 0)))]]) := hD'
  replace hS := hS'
  clear hP' hD' hS'
  refine lv_aload_n hx hb dX4_init_28 rfl (lv_at hl 0 rfl) ?_
  refine lv_bipush (v := 8) hx hb dX4_init_29 bp_8 ?_
  refine nw_ai hx hb (hts (.arrayClass .int) (List.mem_of_getElem? (i := 4) rfl)) hK hP hD hS hA (N := 8) (by decide) (by decide) (Nat.le_of_ble_eq_true rfl) (Nat.le_of_ble_eq_true rfl) (Nat.le_of_ble_eq_true rfl) dX4_init_31 (fun q31 H31 hP' hD' hS' => ?_)
  replace hP : va_P (dC, dI) vwCl (fl [[(h0, .inr (3, [.int 0, .ref q7, .ref q15, .ref q23, .null, .null, .null, .null, .null, .null]))], [(q7, .inl (cs 0, 8, .inl (fun _ => 0)))], [(q15, .inl (cs 0, 8, .inl (fun _ => 0)))], [(q23, .inl (cs 0, 8, .inl (fun _ => 0)))], [(q31, .inl (cs 0, 8, .inl (fun _ => 0)))]]) H31 := hP'
  replace hD : va_D A (fl [[(h0, .inr (3, [.int 0, .ref q7, .ref q15, .ref q23, .null, .null, .null, .null, .null, .null]))], [(q7, .inl (cs 0, 8, .inl (fun _ => 0)))], [(q15, .inl (cs 0, 8, .inl (fun _ => 0)))], [(q23, .inl (cs 0, 8, .inl (fun _ => 0)))], [(q31, .inl (cs 0, 8, .inl (fun _ => 0)))]]) := hD'
  replace hS := hS'
  clear hP' hD' hS'
  refine va_putF (D := (dC, dI)) (ci := 3) (v := .ref q31) (ty := .array .int) (C := RX4) (T := TX4) (N := 10) hx hb hts hinX4 tyX4 tyX4_ok nmX4 hown hK hP hD hS 0 rfl rfl 4 (by decide) (hts (.fieldLink RX4 21 "DockedBikes$Riders" "rides" "[I") (List.mem_of_getElem? (i := 8) rfl)) (fun _ h9 => h9) rfl hin rfl (by decide +kernel) rfl rfl (Nat.le_of_ble_eq_true rfl) dX4_init_33 (fun H33 locs33 hP' hD' hS' => ?_)
  replace hP : va_P (dC, dI) vwCl (fl [[(h0, .inr (3, [.int 0, .ref q7, .ref q15, .ref q23, .ref q31, .null, .null, .null, .null, .null]))], [(q7, .inl (cs 0, 8, .inl (fun _ => 0)))], [(q15, .inl (cs 0, 8, .inl (fun _ => 0)))], [(q23, .inl (cs 0, 8, .inl (fun _ => 0)))], [(q31, .inl (cs 0, 8, .inl (fun _ => 0)))]]) H33 := hP'
  replace hD : va_D A (fl [[(h0, .inr (3, [.int 0, .ref q7, .ref q15, .ref q23, .ref q31, .null, .null, .null, .null, .null]))], [(q7, .inl (cs 0, 8, .inl (fun _ => 0)))], [(q15, .inl (cs 0, 8, .inl (fun _ => 0)))], [(q23, .inl (cs 0, 8, .inl (fun _ => 0)))], [(q31, .inl (cs 0, 8, .inl (fun _ => 0)))]]) := hD'
  replace hS := hS'
  clear hP' hD' hS'
  refine lv_aload_n hx hb dX4_init_36 rfl (lv_at hl 0 rfl) ?_
  refine lv_bipush (v := 8) hx hb dX4_init_37 bp_8 ?_
  refine nw_ai hx hb (hts (.arrayClass .int) (List.mem_of_getElem? (i := 4) rfl)) hK hP hD hS hA (N := 8) (by decide) (by decide) (Nat.le_of_ble_eq_true rfl) (Nat.le_of_ble_eq_true rfl) (Nat.le_of_ble_eq_true rfl) dX4_init_39 (fun q39 H39 hP' hD' hS' => ?_)
  replace hP : va_P (dC, dI) vwCl (fl [[(h0, .inr (3, [.int 0, .ref q7, .ref q15, .ref q23, .ref q31, .null, .null, .null, .null, .null]))], [(q7, .inl (cs 0, 8, .inl (fun _ => 0)))], [(q15, .inl (cs 0, 8, .inl (fun _ => 0)))], [(q23, .inl (cs 0, 8, .inl (fun _ => 0)))], [(q31, .inl (cs 0, 8, .inl (fun _ => 0)))], [(q39, .inl (cs 0, 8, .inl (fun _ => 0)))]]) H39 := hP'
  replace hD : va_D A (fl [[(h0, .inr (3, [.int 0, .ref q7, .ref q15, .ref q23, .ref q31, .null, .null, .null, .null, .null]))], [(q7, .inl (cs 0, 8, .inl (fun _ => 0)))], [(q15, .inl (cs 0, 8, .inl (fun _ => 0)))], [(q23, .inl (cs 0, 8, .inl (fun _ => 0)))], [(q31, .inl (cs 0, 8, .inl (fun _ => 0)))], [(q39, .inl (cs 0, 8, .inl (fun _ => 0)))]]) := hD'
  replace hS := hS'
  clear hP' hD' hS'
  refine va_putF (D := (dC, dI)) (ci := 3) (v := .ref q39) (ty := .array .int) (C := RX4) (T := TX4) (N := 10) hx hb hts hinX4 tyX4 tyX4_ok nmX4 hown hK hP hD hS 0 rfl rfl 5 (by decide) (hts (.fieldLink RX4 24 "DockedBikes$Riders" "bicycle" "[I") (List.mem_of_getElem? (i := 9) rfl)) (fun _ h9 => h9) rfl hin rfl (by decide +kernel) rfl rfl (Nat.le_of_ble_eq_true rfl) dX4_init_41 (fun H41 locs41 hP' hD' hS' => ?_)
  replace hP : va_P (dC, dI) vwCl (fl [[(h0, .inr (3, [.int 0, .ref q7, .ref q15, .ref q23, .ref q31, .ref q39, .null, .null, .null, .null]))], [(q7, .inl (cs 0, 8, .inl (fun _ => 0)))], [(q15, .inl (cs 0, 8, .inl (fun _ => 0)))], [(q23, .inl (cs 0, 8, .inl (fun _ => 0)))], [(q31, .inl (cs 0, 8, .inl (fun _ => 0)))], [(q39, .inl (cs 0, 8, .inl (fun _ => 0)))]]) H41 := hP'
  replace hD : va_D A (fl [[(h0, .inr (3, [.int 0, .ref q7, .ref q15, .ref q23, .ref q31, .ref q39, .null, .null, .null, .null]))], [(q7, .inl (cs 0, 8, .inl (fun _ => 0)))], [(q15, .inl (cs 0, 8, .inl (fun _ => 0)))], [(q23, .inl (cs 0, 8, .inl (fun _ => 0)))], [(q31, .inl (cs 0, 8, .inl (fun _ => 0)))], [(q39, .inl (cs 0, 8, .inl (fun _ => 0)))]]) := hD'
  replace hS := hS'
  clear hP' hD' hS'
  refine lv_aload_n hx hb dX4_init_44 rfl (lv_at hl 0 rfl) ?_
  refine lv_bipush (v := 8) hx hb dX4_init_45 bp_8 ?_
  refine nw_ai hx hb (hts (.arrayClass .int) (List.mem_of_getElem? (i := 4) rfl)) hK hP hD hS hA (N := 8) (by decide) (by decide) (Nat.le_of_ble_eq_true rfl) (Nat.le_of_ble_eq_true rfl) (Nat.le_of_ble_eq_true rfl) dX4_init_47 (fun q47 H47 hP' hD' hS' => ?_)
  replace hP : va_P (dC, dI) vwCl (fl [[(h0, .inr (3, [.int 0, .ref q7, .ref q15, .ref q23, .ref q31, .ref q39, .null, .null, .null, .null]))], [(q7, .inl (cs 0, 8, .inl (fun _ => 0)))], [(q15, .inl (cs 0, 8, .inl (fun _ => 0)))], [(q23, .inl (cs 0, 8, .inl (fun _ => 0)))], [(q31, .inl (cs 0, 8, .inl (fun _ => 0)))], [(q39, .inl (cs 0, 8, .inl (fun _ => 0)))], [(q47, .inl (cs 0, 8, .inl (fun _ => 0)))]]) H47 := hP'
  replace hD : va_D A (fl [[(h0, .inr (3, [.int 0, .ref q7, .ref q15, .ref q23, .ref q31, .ref q39, .null, .null, .null, .null]))], [(q7, .inl (cs 0, 8, .inl (fun _ => 0)))], [(q15, .inl (cs 0, 8, .inl (fun _ => 0)))], [(q23, .inl (cs 0, 8, .inl (fun _ => 0)))], [(q31, .inl (cs 0, 8, .inl (fun _ => 0)))], [(q39, .inl (cs 0, 8, .inl (fun _ => 0)))], [(q47, .inl (cs 0, 8, .inl (fun _ => 0)))]]) := hD'
  replace hS := hS'
  clear hP' hD' hS'
  refine va_putF (D := (dC, dI)) (ci := 3) (v := .ref q47) (ty := .array .int) (C := RX4) (T := TX4) (N := 10) hx hb hts hinX4 tyX4 tyX4_ok nmX4 hown hK hP hD hS 0 rfl rfl 6 (by decide) (hts (.fieldLink RX4 27 "DockedBikes$Riders" "start" "[I") (List.mem_of_getElem? (i := 10) rfl)) (fun _ h9 => h9) rfl hin rfl (by decide +kernel) rfl rfl (Nat.le_of_ble_eq_true rfl) dX4_init_49 (fun H49 locs49 hP' hD' hS' => ?_)
  replace hP : va_P (dC, dI) vwCl (fl [[(h0, .inr (3, [.int 0, .ref q7, .ref q15, .ref q23, .ref q31, .ref q39, .ref q47, .null, .null, .null]))], [(q7, .inl (cs 0, 8, .inl (fun _ => 0)))], [(q15, .inl (cs 0, 8, .inl (fun _ => 0)))], [(q23, .inl (cs 0, 8, .inl (fun _ => 0)))], [(q31, .inl (cs 0, 8, .inl (fun _ => 0)))], [(q39, .inl (cs 0, 8, .inl (fun _ => 0)))], [(q47, .inl (cs 0, 8, .inl (fun _ => 0)))]]) H49 := hP'
  replace hD : va_D A (fl [[(h0, .inr (3, [.int 0, .ref q7, .ref q15, .ref q23, .ref q31, .ref q39, .ref q47, .null, .null, .null]))], [(q7, .inl (cs 0, 8, .inl (fun _ => 0)))], [(q15, .inl (cs 0, 8, .inl (fun _ => 0)))], [(q23, .inl (cs 0, 8, .inl (fun _ => 0)))], [(q31, .inl (cs 0, 8, .inl (fun _ => 0)))], [(q39, .inl (cs 0, 8, .inl (fun _ => 0)))], [(q47, .inl (cs 0, 8, .inl (fun _ => 0)))]]) := hD'
  replace hS := hS'
  clear hP' hD' hS'
  refine lv_aload_n hx hb dX4_init_52 rfl (lv_at hl 0 rfl) ?_
  refine lv_bipush (v := 8) hx hb dX4_init_53 bp_8 ?_
  refine nw_ai hx hb (hts (.arrayClass .int) (List.mem_of_getElem? (i := 4) rfl)) hK hP hD hS hA (N := 8) (by decide) (by decide) (Nat.le_of_ble_eq_true rfl) (Nat.le_of_ble_eq_true rfl) (Nat.le_of_ble_eq_true rfl) dX4_init_55 (fun q55 H55 hP' hD' hS' => ?_)
  replace hP : va_P (dC, dI) vwCl (fl [[(h0, .inr (3, [.int 0, .ref q7, .ref q15, .ref q23, .ref q31, .ref q39, .ref q47, .null, .null, .null]))], [(q7, .inl (cs 0, 8, .inl (fun _ => 0)))], [(q15, .inl (cs 0, 8, .inl (fun _ => 0)))], [(q23, .inl (cs 0, 8, .inl (fun _ => 0)))], [(q31, .inl (cs 0, 8, .inl (fun _ => 0)))], [(q39, .inl (cs 0, 8, .inl (fun _ => 0)))], [(q47, .inl (cs 0, 8, .inl (fun _ => 0)))], [(q55, .inl (cs 0, 8, .inl (fun _ => 0)))]]) H55 := hP'
  replace hD : va_D A (fl [[(h0, .inr (3, [.int 0, .ref q7, .ref q15, .ref q23, .ref q31, .ref q39, .ref q47, .null, .null, .null]))], [(q7, .inl (cs 0, 8, .inl (fun _ => 0)))], [(q15, .inl (cs 0, 8, .inl (fun _ => 0)))], [(q23, .inl (cs 0, 8, .inl (fun _ => 0)))], [(q31, .inl (cs 0, 8, .inl (fun _ => 0)))], [(q39, .inl (cs 0, 8, .inl (fun _ => 0)))], [(q47, .inl (cs 0, 8, .inl (fun _ => 0)))], [(q55, .inl (cs 0, 8, .inl (fun _ => 0)))]]) := hD'
  replace hS := hS'
  clear hP' hD' hS'
  refine va_putF (D := (dC, dI)) (ci := 3) (v := .ref q55) (ty := .array .int) (C := RX4) (T := TX4) (N := 10) hx hb hts hinX4 tyX4 tyX4_ok nmX4 hown hK hP hD hS 0 rfl rfl 7 (by decide) (hts (.fieldLink RX4 30 "DockedBikes$Riders" "free" "[I") (List.mem_of_getElem? (i := 11) rfl)) (fun _ h9 => h9) rfl hin rfl (by decide +kernel) rfl rfl (Nat.le_of_ble_eq_true rfl) dX4_init_57 (fun H57 locs57 hP' hD' hS' => ?_)
  replace hP : va_P (dC, dI) vwCl (fl [[(h0, .inr (3, [.int 0, .ref q7, .ref q15, .ref q23, .ref q31, .ref q39, .ref q47, .ref q55, .null, .null]))], [(q7, .inl (cs 0, 8, .inl (fun _ => 0)))], [(q15, .inl (cs 0, 8, .inl (fun _ => 0)))], [(q23, .inl (cs 0, 8, .inl (fun _ => 0)))], [(q31, .inl (cs 0, 8, .inl (fun _ => 0)))], [(q39, .inl (cs 0, 8, .inl (fun _ => 0)))], [(q47, .inl (cs 0, 8, .inl (fun _ => 0)))], [(q55, .inl (cs 0, 8, .inl (fun _ => 0)))]]) H57 := hP'
  replace hD : va_D A (fl [[(h0, .inr (3, [.int 0, .ref q7, .ref q15, .ref q23, .ref q31, .ref q39, .ref q47, .ref q55, .null, .null]))], [(q7, .inl (cs 0, 8, .inl (fun _ => 0)))], [(q15, .inl (cs 0, 8, .inl (fun _ => 0)))], [(q23, .inl (cs 0, 8, .inl (fun _ => 0)))], [(q31, .inl (cs 0, 8, .inl (fun _ => 0)))], [(q39, .inl (cs 0, 8, .inl (fun _ => 0)))], [(q47, .inl (cs 0, 8, .inl (fun _ => 0)))], [(q55, .inl (cs 0, 8, .inl (fun _ => 0)))]]) := hD'
  replace hS := hS'
  clear hP' hD' hS'
  refine lv_aload_n hx hb dX4_init_60 rfl (lv_at hl 0 rfl) ?_
  refine lv_bipush (v := 8) hx hb dX4_init_61 bp_8 ?_
  refine nw_ai hx hb (hts (.arrayClass .int) (List.mem_of_getElem? (i := 4) rfl)) hK hP hD hS hA (N := 8) (by decide) (by decide) (Nat.le_of_ble_eq_true rfl) (Nat.le_of_ble_eq_true rfl) (Nat.le_of_ble_eq_true rfl) dX4_init_63 (fun q63 H63 hP' hD' hS' => ?_)
  replace hP : va_P (dC, dI) vwCl (fl [[(h0, .inr (3, [.int 0, .ref q7, .ref q15, .ref q23, .ref q31, .ref q39, .ref q47, .ref q55, .null, .null]))], [(q7, .inl (cs 0, 8, .inl (fun _ => 0)))], [(q15, .inl (cs 0, 8, .inl (fun _ => 0)))], [(q23, .inl (cs 0, 8, .inl (fun _ => 0)))], [(q31, .inl (cs 0, 8, .inl (fun _ => 0)))], [(q39, .inl (cs 0, 8, .inl (fun _ => 0)))], [(q47, .inl (cs 0, 8, .inl (fun _ => 0)))], [(q55, .inl (cs 0, 8, .inl (fun _ => 0)))], [(q63, .inl (cs 0, 8, .inl (fun _ => 0)))]]) H63 := hP'
  replace hD : va_D A (fl [[(h0, .inr (3, [.int 0, .ref q7, .ref q15, .ref q23, .ref q31, .ref q39, .ref q47, .ref q55, .null, .null]))], [(q7, .inl (cs 0, 8, .inl (fun _ => 0)))], [(q15, .inl (cs 0, 8, .inl (fun _ => 0)))], [(q23, .inl (cs 0, 8, .inl (fun _ => 0)))], [(q31, .inl (cs 0, 8, .inl (fun _ => 0)))], [(q39, .inl (cs 0, 8, .inl (fun _ => 0)))], [(q47, .inl (cs 0, 8, .inl (fun _ => 0)))], [(q55, .inl (cs 0, 8, .inl (fun _ => 0)))], [(q63, .inl (cs 0, 8, .inl (fun _ => 0)))]]) := hD'
  replace hS := hS'
  clear hP' hD' hS'
  refine va_putF (D := (dC, dI)) (ci := 3) (v := .ref q63) (ty := .array .int) (C := RX4) (T := TX4) (N := 10) hx hb hts hinX4 tyX4 tyX4_ok nmX4 hown hK hP hD hS 0 rfl rfl 8 (by decide) (hts (.fieldLink RX4 33 "DockedBikes$Riders" "ground" "[I") (List.mem_of_getElem? (i := 12) rfl)) (fun _ h9 => h9) rfl hin rfl (by decide +kernel) rfl rfl (Nat.le_of_ble_eq_true rfl) dX4_init_65 (fun H65 locs65 hP' hD' hS' => ?_)
  replace hP : va_P (dC, dI) vwCl (fl [[(h0, .inr (3, [.int 0, .ref q7, .ref q15, .ref q23, .ref q31, .ref q39, .ref q47, .ref q55, .ref q63, .null]))], [(q7, .inl (cs 0, 8, .inl (fun _ => 0)))], [(q15, .inl (cs 0, 8, .inl (fun _ => 0)))], [(q23, .inl (cs 0, 8, .inl (fun _ => 0)))], [(q31, .inl (cs 0, 8, .inl (fun _ => 0)))], [(q39, .inl (cs 0, 8, .inl (fun _ => 0)))], [(q47, .inl (cs 0, 8, .inl (fun _ => 0)))], [(q55, .inl (cs 0, 8, .inl (fun _ => 0)))], [(q63, .inl (cs 0, 8, .inl (fun _ => 0)))]]) H65 := hP'
  replace hD : va_D A (fl [[(h0, .inr (3, [.int 0, .ref q7, .ref q15, .ref q23, .ref q31, .ref q39, .ref q47, .ref q55, .ref q63, .null]))], [(q7, .inl (cs 0, 8, .inl (fun _ => 0)))], [(q15, .inl (cs 0, 8, .inl (fun _ => 0)))], [(q23, .inl (cs 0, 8, .inl (fun _ => 0)))], [(q31, .inl (cs 0, 8, .inl (fun _ => 0)))], [(q39, .inl (cs 0, 8, .inl (fun _ => 0)))], [(q47, .inl (cs 0, 8, .inl (fun _ => 0)))], [(q55, .inl (cs 0, 8, .inl (fun _ => 0)))], [(q63, .inl (cs 0, 8, .inl (fun _ => 0)))]]) := hD'
  replace hS := hS'
  clear hP' hD' hS'
  refine lv_aload_n hx hb dX4_init_68 rfl (lv_at hl 0 rfl) ?_
  refine lv_bipush (v := 8) hx hb dX4_init_69 bp_8 ?_
  refine nw_ai hx hb (hts (.arrayClass .int) (List.mem_of_getElem? (i := 4) rfl)) hK hP hD hS hA (N := 8) (by decide) (by decide) (Nat.le_of_ble_eq_true rfl) (Nat.le_of_ble_eq_true rfl) (Nat.le_of_ble_eq_true rfl) dX4_init_71 (fun q71 H71 hP' hD' hS' => ?_)
  replace hP : va_P (dC, dI) vwCl (fl [[(h0, .inr (3, [.int 0, .ref q7, .ref q15, .ref q23, .ref q31, .ref q39, .ref q47, .ref q55, .ref q63, .null]))], [(q7, .inl (cs 0, 8, .inl (fun _ => 0)))], [(q15, .inl (cs 0, 8, .inl (fun _ => 0)))], [(q23, .inl (cs 0, 8, .inl (fun _ => 0)))], [(q31, .inl (cs 0, 8, .inl (fun _ => 0)))], [(q39, .inl (cs 0, 8, .inl (fun _ => 0)))], [(q47, .inl (cs 0, 8, .inl (fun _ => 0)))], [(q55, .inl (cs 0, 8, .inl (fun _ => 0)))], [(q63, .inl (cs 0, 8, .inl (fun _ => 0)))], [(q71, .inl (cs 0, 8, .inl (fun _ => 0)))]]) H71 := hP'
  replace hD : va_D A (fl [[(h0, .inr (3, [.int 0, .ref q7, .ref q15, .ref q23, .ref q31, .ref q39, .ref q47, .ref q55, .ref q63, .null]))], [(q7, .inl (cs 0, 8, .inl (fun _ => 0)))], [(q15, .inl (cs 0, 8, .inl (fun _ => 0)))], [(q23, .inl (cs 0, 8, .inl (fun _ => 0)))], [(q31, .inl (cs 0, 8, .inl (fun _ => 0)))], [(q39, .inl (cs 0, 8, .inl (fun _ => 0)))], [(q47, .inl (cs 0, 8, .inl (fun _ => 0)))], [(q55, .inl (cs 0, 8, .inl (fun _ => 0)))], [(q63, .inl (cs 0, 8, .inl (fun _ => 0)))], [(q71, .inl (cs 0, 8, .inl (fun _ => 0)))]]) := hD'
  replace hS := hS'
  clear hP' hD' hS'
  refine va_putF (D := (dC, dI)) (ci := 3) (v := .ref q71) (ty := .array .int) (C := RX4) (T := TX4) (N := 10) hx hb hts hinX4 tyX4 tyX4_ok nmX4 hown hK hP hD hS 0 rfl rfl 9 (by decide) (hts (.fieldLink RX4 36 "DockedBikes$Riders" "told" "[I") (List.mem_of_getElem? (i := 13) rfl)) (fun _ h9 => h9) rfl hin rfl (by decide +kernel) rfl rfl (Nat.le_of_ble_eq_true rfl) dX4_init_73 (fun H73 locs73 hP' hD' hS' => ?_)
  replace hP : va_P (dC, dI) vwCl (fl [[(h0, .inr (3, [.int 0, .ref q7, .ref q15, .ref q23, .ref q31, .ref q39, .ref q47, .ref q55, .ref q63, .ref q71]))], [(q7, .inl (cs 0, 8, .inl (fun _ => 0)))], [(q15, .inl (cs 0, 8, .inl (fun _ => 0)))], [(q23, .inl (cs 0, 8, .inl (fun _ => 0)))], [(q31, .inl (cs 0, 8, .inl (fun _ => 0)))], [(q39, .inl (cs 0, 8, .inl (fun _ => 0)))], [(q47, .inl (cs 0, 8, .inl (fun _ => 0)))], [(q55, .inl (cs 0, 8, .inl (fun _ => 0)))], [(q63, .inl (cs 0, 8, .inl (fun _ => 0)))], [(q71, .inl (cs 0, 8, .inl (fun _ => 0)))]]) H73 := hP'
  replace hD : va_D A (fl [[(h0, .inr (3, [.int 0, .ref q7, .ref q15, .ref q23, .ref q31, .ref q39, .ref q47, .ref q55, .ref q63, .ref q71]))], [(q7, .inl (cs 0, 8, .inl (fun _ => 0)))], [(q15, .inl (cs 0, 8, .inl (fun _ => 0)))], [(q23, .inl (cs 0, 8, .inl (fun _ => 0)))], [(q31, .inl (cs 0, 8, .inl (fun _ => 0)))], [(q39, .inl (cs 0, 8, .inl (fun _ => 0)))], [(q47, .inl (cs 0, 8, .inl (fun _ => 0)))], [(q55, .inl (cs 0, 8, .inl (fun _ => 0)))], [(q63, .inl (cs 0, 8, .inl (fun _ => 0)))], [(q71, .inl (cs 0, 8, .inl (fun _ => 0)))]]) := hD'
  replace hS := hS'
  clear hP' hD' hS'
  obtain ⟨ad, had⟩ : ∃ ad : Nat → Nat, ad = fun k => ([h0, q7, q15, q23, q31, q39, q47, q55, q63, q71] : List Nat).getD k 0 := ⟨_, rfl⟩
  have hPf : va_P (dC, dI) vwCl (w_X4 ad 0 cs zz2) H73 := by rw [had]; exact hP
  have hDf : va_D A (w_X4 ad 0 cs zz2) := by rw [had]; exact hD
  refine W.widen (k := 9) (n := 72) (Nat.le_of_ble_eq_true rfl) (Nat.le_of_ble_eq_true rfl) ?_
  exact W.vret hx hb hr (fun t ht hW => ⟨⟨ad, rfl, by rw [had]; rfl, by rw [ht]; exact hPf, va_K.moved hW.alike hK, hDf⟩, hS.F ht⟩) hS.2.2 dX4_init_76
set_option maxHeartbeats 8000000 in
set_option maxRecDepth 100000 in
theorem k_X8_init (l : Launch) (dC : Nat → ClassId) (dI : Nat → Nat → Nat) (cs : Nat → ClassId) (en : Nat → Nat) (h0 sz : Nat) : Met l yX8_init wsX8_init ({ frames := 1, cells := 3, slots := 6, locals := 12 } : Room) (va_Pc [.ref h0] (pV dC dI (tyL cs) en [(h0, .inr (7, [.int 0, .null, .null, .null]))] sz)) (va_Qv (fun ad : Nat → Nat => ad 0 = h0) (fun ad => qW dC dI (tyL cs) (va_A [(h0, .inr (7, [.int 0, .null, .null, .null]))] sz) (w_X8 ad 0 cs zz2)) (va_A [(h0, .inr (7, [.int 0, .null, .null, .null]))] sz)) 3 6 (va_A [(h0, .inr (7, [.int 0, .null, .null, .null]))] sz) := by
  refine mt_V (own := RX8) (cc := cX8_init) (maxL := 1) (ret := none) (Qc := fun A => va_Qv (fun ad : Nat → Nat => ad 0 = h0) (fun ad => qW dC dI (tyL cs) A (w_X8 ad 0 cs zz2)) A) rfl (by decide) rfl (Nat.le_of_ble_eq_true rfl) (fun p e s m below meth c A ls hsz hx hb hr hts hown hlocks hml hA hK hP hD hS hl hN hV hin => ?_)
  subst hsz
  have hl : lv_has ls 1 [(0, .ref h0)] := hl
  have hinX8 : ∀ w ∈ wsX80, w ∈ wsX8_init := by decide +kernel
  replace hP : va_P (dC, dI) vwCl (fl [[(h0, .inr (7, [.int 0, .null, .null, .null]))]]) s.heap := hP
  replace hD : va_D A (fl [[(h0, .inr (7, [.int 0, .null, .null, .null]))]]) := hD
  refine lv_aload_n hx hb dX8_init_0 rfl (lv_at hl 0 rfl) ?_
  refine W.objInit hx hb hown (hts (.methodLink RX8 3 objectInit) (List.mem_of_getElem? (i := 1) rfl)) (hts (.instanceMethod objectInit) (List.mem_of_getElem? (i := 2) rfl)) (hts (.code objectInit ⟨#[0xb1]⟩ 1 none) (List.mem_of_getElem? (i := 3) rfl)) rfl (by rw [hml]; exact hl.1) rfl dX8_init_1 (Nat.le_of_ble_eq_true rfl) (Nat.le_of_ble_eq_true rfl) ?_
  refine lv_aload_n hx hb dX8_init_4 rfl (lv_at hl 0 rfl) ?_
  refine lv_iconst (v := 2) hx hb dX8_init_5 ic_2 ?_
  refine nw_ai hx hb (hts (.arrayClass .int) (List.mem_of_getElem? (i := 4) rfl)) hK hP hD hS hA (N := 2) (by decide) (by decide) (Nat.le_of_ble_eq_true rfl) (Nat.le_of_ble_eq_true rfl) (Nat.le_of_ble_eq_true rfl) dX8_init_6 (fun q6 H6 hP' hD' hS' => ?_)
  replace hP : va_P (dC, dI) vwCl (fl [[(h0, .inr (7, [.int 0, .null, .null, .null]))], [(q6, .inl (cs 0, 2, .inl (fun _ => 0)))]]) H6 := hP'
  replace hD : va_D A (fl [[(h0, .inr (7, [.int 0, .null, .null, .null]))], [(q6, .inl (cs 0, 2, .inl (fun _ => 0)))]]) := hD'
  replace hS := hS'
  clear hP' hD' hS'
  refine va_putF (D := (dC, dI)) (ci := 7) (v := .ref q6) (ty := .array .int) (C := RX8) (T := TX8) (N := 4) hx hb hts hinX8 tyX8 tyX8_ok nmX8 hown hK hP hD hS 0 rfl rfl 1 (by decide) (hts (.fieldLink RX8 11 "DockedBikes$Vans" "station" "[I") (List.mem_of_getElem? (i := 5) rfl)) (fun _ h9 => h9) rfl hin rfl (by decide +kernel) rfl rfl (Nat.le_of_ble_eq_true rfl) dX8_init_8 (fun H8 locs8 hP' hD' hS' => ?_)
  replace hP : va_P (dC, dI) vwCl (fl [[(h0, .inr (7, [.int 0, .ref q6, .null, .null]))], [(q6, .inl (cs 0, 2, .inl (fun _ => 0)))]]) H8 := hP'
  replace hD : va_D A (fl [[(h0, .inr (7, [.int 0, .ref q6, .null, .null]))], [(q6, .inl (cs 0, 2, .inl (fun _ => 0)))]]) := hD'
  replace hS := hS'
  clear hP' hD' hS'
  refine lv_aload_n hx hb dX8_init_11 rfl (lv_at hl 0 rfl) ?_
  refine lv_iconst (v := 2) hx hb dX8_init_12 ic_2 ?_
  refine nw_ai hx hb (hts (.arrayClass .int) (List.mem_of_getElem? (i := 4) rfl)) hK hP hD hS hA (N := 2) (by decide) (by decide) (Nat.le_of_ble_eq_true rfl) (Nat.le_of_ble_eq_true rfl) (Nat.le_of_ble_eq_true rfl) dX8_init_13 (fun q13 H13 hP' hD' hS' => ?_)
  replace hP : va_P (dC, dI) vwCl (fl [[(h0, .inr (7, [.int 0, .ref q6, .null, .null]))], [(q6, .inl (cs 0, 2, .inl (fun _ => 0)))], [(q13, .inl (cs 0, 2, .inl (fun _ => 0)))]]) H13 := hP'
  replace hD : va_D A (fl [[(h0, .inr (7, [.int 0, .ref q6, .null, .null]))], [(q6, .inl (cs 0, 2, .inl (fun _ => 0)))], [(q13, .inl (cs 0, 2, .inl (fun _ => 0)))]]) := hD'
  replace hS := hS'
  clear hP' hD' hS'
  refine va_putF (D := (dC, dI)) (ci := 7) (v := .ref q13) (ty := .array .int) (C := RX8) (T := TX8) (N := 4) hx hb hts hinX8 tyX8 tyX8_ok nmX8 hown hK hP hD hS 0 rfl rfl 2 (by decide) (hts (.fieldLink RX8 15 "DockedBikes$Vans" "room" "[I") (List.mem_of_getElem? (i := 6) rfl)) (fun _ h9 => h9) rfl hin rfl (by decide +kernel) rfl rfl (Nat.le_of_ble_eq_true rfl) dX8_init_15 (fun H15 locs15 hP' hD' hS' => ?_)
  replace hP : va_P (dC, dI) vwCl (fl [[(h0, .inr (7, [.int 0, .ref q6, .ref q13, .null]))], [(q6, .inl (cs 0, 2, .inl (fun _ => 0)))], [(q13, .inl (cs 0, 2, .inl (fun _ => 0)))]]) H15 := hP'
  replace hD : va_D A (fl [[(h0, .inr (7, [.int 0, .ref q6, .ref q13, .null]))], [(q6, .inl (cs 0, 2, .inl (fun _ => 0)))], [(q13, .inl (cs 0, 2, .inl (fun _ => 0)))]]) := hD'
  replace hS := hS'
  clear hP' hD' hS'
  refine lv_aload_n hx hb dX8_init_18 rfl (lv_at hl 0 rfl) ?_
  refine lv_iconst (v := 2) hx hb dX8_init_19 ic_2 ?_
  refine nw_ai hx hb (hts (.arrayClass .int) (List.mem_of_getElem? (i := 4) rfl)) hK hP hD hS hA (N := 2) (by decide) (by decide) (Nat.le_of_ble_eq_true rfl) (Nat.le_of_ble_eq_true rfl) (Nat.le_of_ble_eq_true rfl) dX8_init_20 (fun q20 H20 hP' hD' hS' => ?_)
  replace hP : va_P (dC, dI) vwCl (fl [[(h0, .inr (7, [.int 0, .ref q6, .ref q13, .null]))], [(q6, .inl (cs 0, 2, .inl (fun _ => 0)))], [(q13, .inl (cs 0, 2, .inl (fun _ => 0)))], [(q20, .inl (cs 0, 2, .inl (fun _ => 0)))]]) H20 := hP'
  replace hD : va_D A (fl [[(h0, .inr (7, [.int 0, .ref q6, .ref q13, .null]))], [(q6, .inl (cs 0, 2, .inl (fun _ => 0)))], [(q13, .inl (cs 0, 2, .inl (fun _ => 0)))], [(q20, .inl (cs 0, 2, .inl (fun _ => 0)))]]) := hD'
  replace hS := hS'
  clear hP' hD' hS'
  refine va_putF (D := (dC, dI)) (ci := 7) (v := .ref q20) (ty := .array .int) (C := RX8) (T := TX8) (N := 4) hx hb hts hinX8 tyX8 tyX8_ok nmX8 hown hK hP hD hS 0 rfl rfl 3 (by decide) (hts (.fieldLink RX8 18 "DockedBikes$Vans" "arrival" "[I") (List.mem_of_getElem? (i := 7) rfl)) (fun _ h9 => h9) rfl hin rfl (by decide +kernel) rfl rfl (Nat.le_of_ble_eq_true rfl) dX8_init_22 (fun H22 locs22 hP' hD' hS' => ?_)
  replace hP : va_P (dC, dI) vwCl (fl [[(h0, .inr (7, [.int 0, .ref q6, .ref q13, .ref q20]))], [(q6, .inl (cs 0, 2, .inl (fun _ => 0)))], [(q13, .inl (cs 0, 2, .inl (fun _ => 0)))], [(q20, .inl (cs 0, 2, .inl (fun _ => 0)))]]) H22 := hP'
  replace hD : va_D A (fl [[(h0, .inr (7, [.int 0, .ref q6, .ref q13, .ref q20]))], [(q6, .inl (cs 0, 2, .inl (fun _ => 0)))], [(q13, .inl (cs 0, 2, .inl (fun _ => 0)))], [(q20, .inl (cs 0, 2, .inl (fun _ => 0)))]]) := hD'
  replace hS := hS'
  clear hP' hD' hS'
  obtain ⟨ad, had⟩ : ∃ ad : Nat → Nat, ad = fun k => ([h0, q6, q13, q20] : List Nat).getD k 0 := ⟨_, rfl⟩
  have hPf : va_P (dC, dI) vwCl (w_X8 ad 0 cs zz2) H22 := by rw [had]; exact hP
  have hDf : va_D A (w_X8 ad 0 cs zz2) := by rw [had]; exact hD
  refine W.widen (k := 3) (n := 6) (Nat.le_of_ble_eq_true rfl) (Nat.le_of_ble_eq_true rfl) ?_
  exact W.vret hx hb hr (fun t ht hW => ⟨⟨ad, rfl, by rw [had]; rfl, by rw [ht]; exact hPf, va_K.moved hW.alike hK, hDf⟩, hS.F ht⟩) hS.2.2 dX8_init_25
set_option maxHeartbeats 8000000 in
set_option maxRecDepth 100000 in
theorem k_X2_init (l : Launch) (dC : Nat → ClassId) (dI : Nat → Nat → Nat) (cs : Nat → ClassId) (en : Nat → Nat) (h0 sz : Nat) : Met l yX2_init wsX2_init ({ frames := 1, cells := 2, slots := 12, locals := 12 } : Room) (va_Pc [.ref h0] (pV dC dI (tyL cs) en [(h0, .inr (1, [.int 0, .int 0, .int 0, .int 0, .null, .null]))] sz)) (va_Qv (fun ad : Nat → Nat => ad 0 = h0) (fun ad => qW dC dI (tyL cs) (va_A [(h0, .inr (1, [.int 0, .int 0, .int 0, .int 0, .null, .null]))] sz) (w_X2 ad 0 cs zz2)) (va_A [(h0, .inr (1, [.int 0, .int 0, .int 0, .int 0, .null, .null]))] sz)) 2 12 (va_A [(h0, .inr (1, [.int 0, .int 0, .int 0, .int 0, .null, .null]))] sz) := by
  refine mt_V (own := RX2) (cc := cX2_init) (maxL := 1) (ret := none) (Qc := fun A => va_Qv (fun ad : Nat → Nat => ad 0 = h0) (fun ad => qW dC dI (tyL cs) A (w_X2 ad 0 cs zz2)) A) rfl (by decide) rfl (Nat.le_of_ble_eq_true rfl) (fun p e s m below meth c A ls hsz hx hb hr hts hown hlocks hml hA hK hP hD hS hl hN hV hin => ?_)
  subst hsz
  have hl : lv_has ls 1 [(0, .ref h0)] := hl
  have hinX2 : ∀ w ∈ wsX20, w ∈ wsX2_init := by decide +kernel
  replace hP : va_P (dC, dI) vwCl (fl [[(h0, .inr (1, [.int 0, .int 0, .int 0, .int 0, .null, .null]))]]) s.heap := hP
  replace hD : va_D A (fl [[(h0, .inr (1, [.int 0, .int 0, .int 0, .int 0, .null, .null]))]]) := hD
  refine lv_aload_n hx hb dX2_init_0 rfl (lv_at hl 0 rfl) ?_
  refine W.objInit hx hb hown (hts (.methodLink RX2 1 objectInit) (List.mem_of_getElem? (i := 1) rfl)) (hts (.instanceMethod objectInit) (List.mem_of_getElem? (i := 2) rfl)) (hts (.code objectInit ⟨#[0xb1]⟩ 1 none) (List.mem_of_getElem? (i := 3) rfl)) rfl (by rw [hml]; exact hl.1) rfl dX2_init_1 (Nat.le_of_ble_eq_true rfl) (Nat.le_of_ble_eq_true rfl) ?_
  refine lv_aload_n hx hb dX2_init_4 rfl (lv_at hl 0 rfl) ?_
  refine lv_bipush (v := 6) hx hb dX2_init_5 bp_6 ?_
  refine nw_ai hx hb (hts (.arrayClass .int) (List.mem_of_getElem? (i := 4) rfl)) hK hP hD hS hA (N := 6) (by decide) (by decide) (Nat.le_of_ble_eq_true rfl) (Nat.le_of_ble_eq_true rfl) (Nat.le_of_ble_eq_true rfl) dX2_init_7 (fun q7 H7 hP' hD' hS' => ?_)
  replace hP : va_P (dC, dI) vwCl (fl [[(h0, .inr (1, [.int 0, .int 0, .int 0, .int 0, .null, .null]))], [(q7, .inl (cs 0, 6, .inl (fun _ => 0)))]]) H7 := hP'
  replace hD : va_D A (fl [[(h0, .inr (1, [.int 0, .int 0, .int 0, .int 0, .null, .null]))], [(q7, .inl (cs 0, 6, .inl (fun _ => 0)))]]) := hD'
  replace hS := hS'
  clear hP' hD' hS'
  refine va_putF (D := (dC, dI)) (ci := 1) (v := .ref q7) (ty := .array .int) (C := RX2) (T := TX2) (N := 6) hx hb hts hinX2 tyX2 tyX2_ok nmX2 hown hK hP hD hS 0 rfl rfl 4 (by decide) (hts (.fieldLink RX2 9 "DockedBikes$Filling" "aims" "[I") (List.mem_of_getElem? (i := 5) rfl)) (fun _ h9 => h9) rfl hin rfl (by decide +kernel) rfl rfl (Nat.le_of_ble_eq_true rfl) dX2_init_9 (fun H9 locs9 hP' hD' hS' => ?_)
  replace hP : va_P (dC, dI) vwCl (fl [[(h0, .inr (1, [.int 0, .int 0, .int 0, .int 0, .ref q7, .null]))], [(q7, .inl (cs 0, 6, .inl (fun _ => 0)))]]) H9 := hP'
  replace hD : va_D A (fl [[(h0, .inr (1, [.int 0, .int 0, .int 0, .int 0, .ref q7, .null]))], [(q7, .inl (cs 0, 6, .inl (fun _ => 0)))]]) := hD'
  replace hS := hS'
  clear hP' hD' hS'
  refine lv_aload_n hx hb dX2_init_12 rfl (lv_at hl 0 rfl) ?_
  refine lv_bipush (v := 6) hx hb dX2_init_13 bp_6 ?_
  refine nw_ai hx hb (hts (.arrayClass .int) (List.mem_of_getElem? (i := 4) rfl)) hK hP hD hS hA (N := 6) (by decide) (by decide) (Nat.le_of_ble_eq_true rfl) (Nat.le_of_ble_eq_true rfl) (Nat.le_of_ble_eq_true rfl) dX2_init_15 (fun q15 H15 hP' hD' hS' => ?_)
  replace hP : va_P (dC, dI) vwCl (fl [[(h0, .inr (1, [.int 0, .int 0, .int 0, .int 0, .ref q7, .null]))], [(q7, .inl (cs 0, 6, .inl (fun _ => 0)))], [(q15, .inl (cs 0, 6, .inl (fun _ => 0)))]]) H15 := hP'
  replace hD : va_D A (fl [[(h0, .inr (1, [.int 0, .int 0, .int 0, .int 0, .ref q7, .null]))], [(q7, .inl (cs 0, 6, .inl (fun _ => 0)))], [(q15, .inl (cs 0, 6, .inl (fun _ => 0)))]]) := hD'
  replace hS := hS'
  clear hP' hD' hS'
  refine va_putF (D := (dC, dI)) (ci := 1) (v := .ref q15) (ty := .array .int) (C := RX2) (T := TX2) (N := 6) hx hb hts hinX2 tyX2 tyX2_ok nmX2 hown hK hP hD hS 0 rfl rfl 5 (by decide) (hts (.fieldLink RX2 15 "DockedBikes$Filling" "surplus" "[I") (List.mem_of_getElem? (i := 6) rfl)) (fun _ h9 => h9) rfl hin rfl (by decide +kernel) rfl rfl (Nat.le_of_ble_eq_true rfl) dX2_init_17 (fun H17 locs17 hP' hD' hS' => ?_)
  replace hP : va_P (dC, dI) vwCl (fl [[(h0, .inr (1, [.int 0, .int 0, .int 0, .int 0, .ref q7, .ref q15]))], [(q7, .inl (cs 0, 6, .inl (fun _ => 0)))], [(q15, .inl (cs 0, 6, .inl (fun _ => 0)))]]) H17 := hP'
  replace hD : va_D A (fl [[(h0, .inr (1, [.int 0, .int 0, .int 0, .int 0, .ref q7, .ref q15]))], [(q7, .inl (cs 0, 6, .inl (fun _ => 0)))], [(q15, .inl (cs 0, 6, .inl (fun _ => 0)))]]) := hD'
  replace hS := hS'
  clear hP' hD' hS'
  obtain ⟨ad, had⟩ : ∃ ad : Nat → Nat, ad = fun k => ([h0, q7, q15] : List Nat).getD k 0 := ⟨_, rfl⟩
  have hPf : va_P (dC, dI) vwCl (w_X2 ad 0 cs zz2) H17 := by rw [had]; exact hP
  have hDf : va_D A (w_X2 ad 0 cs zz2) := by rw [had]; exact hD
  refine W.widen (k := 2) (n := 12) (Nat.le_of_ble_eq_true rfl) (Nat.le_of_ble_eq_true rfl) ?_
  exact W.vret hx hb hr (fun t ht hW => ⟨⟨ad, rfl, by rw [had]; rfl, by rw [ht]; exact hPf, va_K.moved hW.alike hK, hDf⟩, hS.F ht⟩) hS.2.2 dX2_init_20
set_option maxHeartbeats 8000000 in
set_option maxRecDepth 100000 in
theorem k_X7_init (l : Launch) (dC : Nat → ClassId) (dI : Nat → Nat → Nat) (cs : Nat → ClassId) (en : Nat → Nat) (h0 sz : Nat) : Met l yX7_init wsX7_init ({ frames := 2, cells := 3, slots := 72, locals := 33 } : Room) (va_Pc [.ref h0] (pV dC dI (tyL cs) en [(h0, .inr (6, [.int 0, .int 0, .int 0, .int 0, .int 0, .null, .null, .null, .int 0]))] sz)) (va_Qv (fun ad : Nat → Nat => ad 0 = h0) (fun ad => qW dC dI (tyL cs) (va_A [(h0, .inr (6, [.int 0, .int 0, .int 0, .int 0, .int 0, .null, .null, .null, .int 0]))] sz) (w_X7 ad 0 cs en zz7)) (va_A [(h0, .inr (6, [.int 0, .int 0, .int 0, .int 0, .int 0, .null, .null, .null, .int 0]))] sz)) 3 72 (va_A [(h0, .inr (6, [.int 0, .int 0, .int 0, .int 0, .int 0, .null, .null, .null, .int 0]))] sz) := by
  refine mt_V (own := RX7) (cc := cX7_init) (maxL := 1) (ret := none) (Qc := fun A => va_Qv (fun ad : Nat → Nat => ad 0 = h0) (fun ad => qW dC dI (tyL cs) A (w_X7 ad 0 cs en zz7)) A) rfl (by decide) rfl (Nat.le_of_ble_eq_true rfl) (fun p e s m below meth c A ls hsz hx hb hr hts hown hlocks hml hA hK hP hD hS hl hN hV hin => ?_)
  subst hsz
  have hl : lv_has ls 1 [(0, .ref h0)] := hl
  have hinX7 : ∀ w ∈ wsX70, w ∈ wsX7_init := by decide +kernel
  replace hP : va_P (dC, dI) vwCl (fl [[(h0, .inr (6, [.int 0, .int 0, .int 0, .int 0, .int 0, .null, .null, .null, .int 0]))]]) s.heap := hP
  replace hD : va_D A (fl [[(h0, .inr (6, [.int 0, .int 0, .int 0, .int 0, .int 0, .null, .null, .null, .int 0]))]]) := hD
  refine lv_aload_n hx hb dX7_init_0 rfl (lv_at hl 0 rfl) ?_
  refine W.objInit hx hb hown (hts (.methodLink RX7 3 objectInit) (List.mem_of_getElem? (i := 1) rfl)) (hts (.instanceMethod objectInit) (List.mem_of_getElem? (i := 2) rfl)) (hts (.code objectInit ⟨#[0xb1]⟩ 1 none) (List.mem_of_getElem? (i := 3) rfl)) rfl (by rw [hml]; exact hl.1) rfl dX7_init_1 (Nat.le_of_ble_eq_true rfl) (Nat.le_of_ble_eq_true rfl) ?_
  refine lv_aload_n hx hb dX7_init_4 rfl (lv_at hl 0 rfl) ?_
  refine lv_iconst (v := (-1)) hx hb dX7_init_5 ic_m1 ?_
  refine va_put (D := (dC, dI)) (ci := 6) (v := .int (-1)) (ty := .int) (C := RX7) (T := TX7) (N := 9) hx hb hts hinX7 tyX7 tyX7_ok nmX7 hown hK hP hD hS 0 rfl rfl 2 (by decide) (hts (.fieldLink RX7 11 "DockedBikes$Text" "faultAt" "I") (List.mem_of_getElem? (i := 4) rfl)) (fun _ h9 => h9) rfl (by decide +kernel) rfl rfl (Nat.le_of_ble_eq_true rfl) dX7_init_6 (fun H6 locs6 hP' hD' hS' => ?_)
  replace hP : va_P (dC, dI) vwCl (fl [[(h0, .inr (6, [.int 0, .int 0, .int (-1), .int 0, .int 0, .null, .null, .null, .int 0]))]]) H6 := hP'
  replace hD : va_D A (fl [[(h0, .inr (6, [.int 0, .int 0, .int (-1), .int 0, .int 0, .null, .null, .null, .int 0]))]]) := hD'
  replace hS := hS'
  clear hP' hD' hS'
  refine lv_aload_n hx hb dX7_init_9 rfl (lv_at hl 0 rfl) ?_
  refine lv_bipush (v := 60) hx hb dX7_init_10 bp_60 ?_
  refine nw_ac hx hb (hts (.arrayClass .char) (List.mem_of_getElem? (i := 5) rfl)) hK hP hD hS hA (N := 60) (by decide) (by decide) (Nat.le_of_ble_eq_true rfl) (Nat.le_of_ble_eq_true rfl) (Nat.le_of_ble_eq_true rfl) dX7_init_12 (fun q12 H12 hP' hD' hS' => ?_)
  replace hP : va_P (dC, dI) vwCl (fl [[(h0, .inr (6, [.int 0, .int 0, .int (-1), .int 0, .int 0, .null, .null, .null, .int 0]))], [(q12, .inl (cs 1, 60, .inl (fun _ => 0)))]]) H12 := hP'
  replace hD : va_D A (fl [[(h0, .inr (6, [.int 0, .int 0, .int (-1), .int 0, .int 0, .null, .null, .null, .int 0]))], [(q12, .inl (cs 1, 60, .inl (fun _ => 0)))]]) := hD'
  replace hS := hS'
  clear hP' hD' hS'
  refine va_putF (D := (dC, dI)) (ci := 6) (v := .ref q12) (ty := .array .char) (C := RX7) (T := TX7) (N := 9) hx hb hts hinX7 tyX7 tyX7_ok nmX7 hown hK hP hD hS 0 rfl rfl 5 (by decide) (hts (.fieldLink RX7 15 "DockedBikes$Text" "signs" "[C") (List.mem_of_getElem? (i := 6) rfl)) (fun _ h9 => h9) rfl hin rfl (by decide +kernel) rfl rfl (Nat.le_of_ble_eq_true rfl) dX7_init_14 (fun H14 locs14 hP' hD' hS' => ?_)
  replace hP : va_P (dC, dI) vwCl (fl [[(h0, .inr (6, [.int 0, .int 0, .int (-1), .int 0, .int 0, .ref q12, .null, .null, .int 0]))], [(q12, .inl (cs 1, 60, .inl (fun _ => 0)))]]) H14 := hP'
  replace hD : va_D A (fl [[(h0, .inr (6, [.int 0, .int 0, .int (-1), .int 0, .int 0, .ref q12, .null, .null, .int 0]))], [(q12, .inl (cs 1, 60, .inl (fun _ => 0)))]]) := hD'
  replace hS := hS'
  clear hP' hD' hS'
  refine lv_aload_n hx hb dX7_init_17 rfl (lv_at hl 0 rfl) ?_
  refine cl_vals ⟨hx, hb, hml, hown, hts⟩ (va_cwS 0 hts gX7_init_X9_values rfl rfl rfl (by decide +kernel) ⟨(Nat.le_of_ble_eq_true rfl), (Nat.le_of_ble_eq_true rfl)⟩) hK hP hD hS hA hN hV hl.1 (Nat.le_of_ble_eq_true rfl) dX7_init_18 ⟨(Nat.le_of_ble_eq_true rfl), (Nat.le_of_ble_eq_true rfl)⟩ (fun q18 H18 locs18 hP' hD' hS' => ?_)
  replace hP : va_P (dC, dI) vwCl (fl [[(h0, .inr (6, [.int 0, .int 0, .int (-1), .int 0, .int 0, .ref q12, .null, .null, .int 0]))], [(q12, .inl (cs 1, 60, .inl (fun _ => 0)))], [(q18, .inl (cs 3, 10, .inr (.inr (.inr (.inr (fun k => some (en k)))))))]]) H18 := hP'
  replace hD : va_D A (fl [[(h0, .inr (6, [.int 0, .int 0, .int (-1), .int 0, .int 0, .ref q12, .null, .null, .int 0]))], [(q12, .inl (cs 1, 60, .inl (fun _ => 0)))], [(q18, .inl (cs 3, 10, .inr (.inr (.inr (.inr (fun k => some (en k)))))))]]) := hD'
  replace hS := hS'
  clear hP' hD' hS'
  refine va_putF (D := (dC, dI)) (ci := 6) (v := .ref q18) (ty := .array (.object "DockedBikes$Verb")) (C := RX7) (T := TX7) (N := 9) hx hb hts hinX7 tyX7 tyX7_ok nmX7 hown hK hP hD hS 0 rfl rfl 6 (by decide) (hts (.fieldLink RX7 25 "DockedBikes$Text" "verbs" "[LDockedBikes$Verb;") (List.mem_of_getElem? (i := 7) rfl)) (fun _ h9 => h9) rfl hin rfl (by decide +kernel) rfl rfl (Nat.le_of_ble_eq_true rfl) dX7_init_21 (fun H21 locs21 hP' hD' hS' => ?_)
  replace hP : va_P (dC, dI) vwCl (fl [[(h0, .inr (6, [.int 0, .int 0, .int (-1), .int 0, .int 0, .ref q12, .ref q18, .null, .int 0]))], [(q12, .inl (cs 1, 60, .inl (fun _ => 0)))], [(q18, .inl (cs 3, 10, .inr (.inr (.inr (.inr (fun k => some (en k)))))))]]) H21 := hP'
  replace hD : va_D A (fl [[(h0, .inr (6, [.int 0, .int 0, .int (-1), .int 0, .int 0, .ref q12, .ref q18, .null, .int 0]))], [(q12, .inl (cs 1, 60, .inl (fun _ => 0)))], [(q18, .inl (cs 3, 10, .inr (.inr (.inr (.inr (fun k => some (en k)))))))]]) := hD'
  replace hS := hS'
  clear hP' hD' hS'
  refine lv_aload_n hx hb dX7_init_24 rfl (lv_at hl 0 rfl) ?_
  refine lv_iconst (v := 2) hx hb dX7_init_25 ic_2 ?_
  refine nw_ai hx hb (hts (.arrayClass .int) (List.mem_of_getElem? (i := 8) rfl)) hK hP hD hS hA (N := 2) (by decide) (by decide) (Nat.le_of_ble_eq_true rfl) (Nat.le_of_ble_eq_true rfl) (Nat.le_of_ble_eq_true rfl) dX7_init_26 (fun q26 H26 hP' hD' hS' => ?_)
  replace hP : va_P (dC, dI) vwCl (fl [[(h0, .inr (6, [.int 0, .int 0, .int (-1), .int 0, .int 0, .ref q12, .ref q18, .null, .int 0]))], [(q12, .inl (cs 1, 60, .inl (fun _ => 0)))], [(q18, .inl (cs 3, 10, .inr (.inr (.inr (.inr (fun k => some (en k)))))))], [(q26, .inl (cs 0, 2, .inl (fun _ => 0)))]]) H26 := hP'
  replace hD : va_D A (fl [[(h0, .inr (6, [.int 0, .int 0, .int (-1), .int 0, .int 0, .ref q12, .ref q18, .null, .int 0]))], [(q12, .inl (cs 1, 60, .inl (fun _ => 0)))], [(q18, .inl (cs 3, 10, .inr (.inr (.inr (.inr (fun k => some (en k)))))))], [(q26, .inl (cs 0, 2, .inl (fun _ => 0)))]]) := hD'
  replace hS := hS'
  clear hP' hD' hS'
  refine va_putF (D := (dC, dI)) (ci := 6) (v := .ref q26) (ty := .array .int) (C := RX7) (T := TX7) (N := 9) hx hb hts hinX7 tyX7 tyX7_ok nmX7 hown hK hP hD hS 0 rfl rfl 7 (by decide) (hts (.fieldLink RX7 29 "DockedBikes$Text" "numbers" "[I") (List.mem_of_getElem? (i := 9) rfl)) (fun _ h9 => h9) rfl hin rfl (by decide +kernel) rfl rfl (Nat.le_of_ble_eq_true rfl) dX7_init_28 (fun H28 locs28 hP' hD' hS' => ?_)
  replace hP : va_P (dC, dI) vwCl (fl [[(h0, .inr (6, [.int 0, .int 0, .int (-1), .int 0, .int 0, .ref q12, .ref q18, .ref q26, .int 0]))], [(q12, .inl (cs 1, 60, .inl (fun _ => 0)))], [(q18, .inl (cs 3, 10, .inr (.inr (.inr (.inr (fun k => some (en k)))))))], [(q26, .inl (cs 0, 2, .inl (fun _ => 0)))]]) H28 := hP'
  replace hD : va_D A (fl [[(h0, .inr (6, [.int 0, .int 0, .int (-1), .int 0, .int 0, .ref q12, .ref q18, .ref q26, .int 0]))], [(q12, .inl (cs 1, 60, .inl (fun _ => 0)))], [(q18, .inl (cs 3, 10, .inr (.inr (.inr (.inr (fun k => some (en k)))))))], [(q26, .inl (cs 0, 2, .inl (fun _ => 0)))]]) := hD'
  replace hS := hS'
  clear hP' hD' hS'
  obtain ⟨ad, had⟩ : ∃ ad : Nat → Nat, ad = fun k => ([h0, q12, q18, q26] : List Nat).getD k 0 := ⟨_, rfl⟩
  have hPf : va_P (dC, dI) vwCl (w_X7 ad 0 cs en zz7) H28 := by rw [had]; exact hP
  have hDf : va_D A (w_X7 ad 0 cs en zz7) := by rw [had]; exact hD
  refine W.widen (k := 3) (n := 72) (Nat.le_of_ble_eq_true rfl) (Nat.le_of_ble_eq_true rfl) ?_
  exact W.vret hx hb hr (fun t ht hW => ⟨⟨ad, rfl, by rw [had]; rfl, by rw [ht]; exact hPf, va_K.moved hW.alike hK, hDf⟩, hS.F ht⟩) hS.2.2 dX7_init_31
set_option maxHeartbeats 8000000 in
set_option maxRecDepth 100000 in
theorem k_X5_init (l : Launch) (dC : Nat → ClassId) (dI : Nat → Nat → Nat) (cs : Nat → ClassId) (en : Nat → Nat) (h0 sz : Nat) : Met l yX5_init wsX5_init ({ frames := 2, cells := 27, slots := 227, locals := 32 } : Room) (va_Pc [.ref h0] (pV dC dI (tyL cs) en [(h0, .inr (4, [.null, .null, .null, .null, .null, .int 0]))] sz)) (va_Qv (fun ad : Nat → Nat => ad 0 = h0) (fun ad => qW dC dI (tyL cs) (va_A [(h0, .inr (4, [.null, .null, .null, .null, .null, .int 0]))] sz) (w_X5 ad 0 cs zz5)) (va_A [(h0, .inr (4, [.null, .null, .null, .null, .null, .int 0]))] sz)) 27 227 (va_A [(h0, .inr (4, [.null, .null, .null, .null, .null, .int 0]))] sz) := by
  refine mt_V (own := RX5) (cc := cX5_init) (maxL := 1) (ret := none) (Qc := fun A => va_Qv (fun ad : Nat → Nat => ad 0 = h0) (fun ad => qW dC dI (tyL cs) A (w_X5 ad 0 cs zz5)) A) rfl (by decide) rfl (Nat.le_of_ble_eq_true rfl) (fun p e s m below meth c A ls hsz hx hb hr hts hown hlocks hml hA hK hP hD hS hl hN hV hin => ?_)
  subst hsz
  have hl : lv_has ls 1 [(0, .ref h0)] := hl
  have hinX6 : ∀ w ∈ wsX60, w ∈ wsX5_init := by decide +kernel
  have hinX5 : ∀ w ∈ wsX50, w ∈ wsX5_init := by decide +kernel
  have hinX1 : ∀ w ∈ wsX10, w ∈ wsX5_init := by decide +kernel
  have hinX4 : ∀ w ∈ wsX40, w ∈ wsX5_init := by decide +kernel
  have hinX8 : ∀ w ∈ wsX80, w ∈ wsX5_init := by decide +kernel
  replace hP : va_P (dC, dI) vwCl (fl [[(h0, .inr (4, [.null, .null, .null, .null, .null, .int 0]))]]) s.heap := hP
  replace hD : va_D A (fl [[(h0, .inr (4, [.null, .null, .null, .null, .null, .int 0]))]]) := hD
  refine lv_aload_n hx hb dX5_init_0 rfl (lv_at hl 0 rfl) ?_
  refine W.objInit hx hb hown (hts (.methodLink RX5 3 objectInit) (List.mem_of_getElem? (i := 1) rfl)) (hts (.instanceMethod objectInit) (List.mem_of_getElem? (i := 2) rfl)) (hts (.code objectInit ⟨#[0xb1]⟩ 1 none) (List.mem_of_getElem? (i := 3) rfl)) rfl (by rw [hml]; exact hl.1) rfl dX5_init_1 (Nat.le_of_ble_eq_true rfl) (Nat.le_of_ble_eq_true rfl) ?_
  refine lv_aload_n hx hb dX5_init_4 rfl (lv_at hl 0 rfl) ?_
  refine va_new (ci := 5) (fs := [.int 0, .null, .null, .null, .null]) (C := RX6) (T := TX6) (N := 5) hx hb hts hinX6 tyX6 tyX6_ok hown (hts (.classLink RX5 9 RX6) (List.mem_of_getElem? (i := 4) rfl)) (hts (.instantiable RX6 5) (List.mem_of_getElem? (i := 5) rfl)) (hts (.initialized RX6) (List.mem_of_getElem? (i := 6) rfl)) hK hP hD hS hA rfl (fun j hj => by rcases (show j = 0 ∨ j = 1 ∨ j = 2 ∨ j = 3 ∨ j = 4 by omega) with rfl | rfl | rfl | rfl | rfl <;> rfl) (Nat.le_of_ble_eq_true rfl) (Nat.le_of_ble_eq_true rfl) dX5_init_5 (fun q5 H5 hP' hD' hS' => ?_)
  rw [fl_push] at hP' hD'
  replace hP : va_P (dC, dI) vwCl (fl [[(h0, .inr (4, [.null, .null, .null, .null, .null, .int 0]))], [(q5, .inr (5, [.int 0, .null, .null, .null, .null]))]]) H5 := hP'
  replace hD : va_D A (fl [[(h0, .inr (4, [.null, .null, .null, .null, .null, .int 0]))], [(q5, .inr (5, [.int 0, .null, .null, .null, .null]))]]) := hD'
  replace hS := hS'
  clear hP' hD' hS'
  refine lv_dup hx hb dX5_init_8 rfl ?_
  refine cl_new (ci := 5) (fs := [.int 0, .null, .null, .null, .null]) (L := [[(h0, .inr (4, [.null, .null, .null, .null, .null, .int 0]))]]) (Wf := fun ad => (w_X6 ad 0 cs zz2)) ⟨hx, hb, hml, hown, hts⟩ (k_X6_init l dC dI cs en q5 H5.size) (va_cnB 0 hts gX5_init_X6_init_n11 rfl rfl rfl hN.2.1.1 (hts (.initialized RX6) (List.mem_of_getElem? (i := 6) rfl)) (by decide +kernel) ⟨(Nat.le_of_ble_eq_true rfl), (Nat.le_of_ble_eq_true rfl)⟩) rfl (hts (.instanceMethod yX6_init) (List.mem_of_getElem? (i := 22) rfl)) hK hP hD hS hA hN hV rfl hl.1 (Nat.le_of_ble_eq_true rfl) dX5_init_9 ⟨(Nat.le_of_ble_eq_true rfl), (Nat.le_of_ble_eq_true rfl)⟩ (fun a9 H9 locs9 e9 hP' hD' hS' => ?_)
  replace hP : va_P (dC, dI) vwCl (fl [[(h0, .inr (4, [.null, .null, .null, .null, .null, .int 0]))], (w_X6 a9 0 cs zz2)]) H9 := hP'
  replace hD : va_D A (fl [[(h0, .inr (4, [.null, .null, .null, .null, .null, .int 0]))], (w_X6 a9 0 cs zz2)]) := hD'
  replace hS := hS'
  clear hP' hD' hS'
  subst e9
  refine va_putF (D := (dC, dI)) (ci := 4) (v := .ref (a9 0)) (ty := .object "DockedBikes$Stations") (C := RX5) (T := TX5) (N := 6) hx hb hts hinX5 tyX5 tyX5_ok nmX5 hown hK hP hD hS 0 rfl rfl 0 (by decide) (hts (.fieldLink RX5 12 "DockedBikes$Road" "stations" "LDockedBikes$Stations;") (List.mem_of_getElem? (i := 7) rfl)) (fun _ h9 => h9) rfl hin rfl (by decide +kernel) rfl rfl (Nat.le_of_ble_eq_true rfl) dX5_init_12 (fun H12 locs12 hP' hD' hS' => ?_)
  replace hP : va_P (dC, dI) vwCl (fl [[(h0, .inr (4, [.ref (a9 0), .null, .null, .null, .null, .int 0]))], (w_X6 a9 0 cs zz2)]) H12 := hP'
  replace hD : va_D A (fl [[(h0, .inr (4, [.ref (a9 0), .null, .null, .null, .null, .int 0]))], (w_X6 a9 0 cs zz2)]) := hD'
  replace hS := hS'
  clear hP' hD' hS'
  refine lv_aload_n hx hb dX5_init_15 rfl (lv_at hl 0 rfl) ?_
  refine va_new (ci := 0) (fs := [.int 0, .null, .null, .null, .null, .null, .null]) (C := RX1) (T := TX1) (N := 7) hx hb hts hinX1 tyX1 tyX1_ok hown (hts (.classLink RX5 18 RX1) (List.mem_of_getElem? (i := 8) rfl)) (hts (.instantiable RX1 7) (List.mem_of_getElem? (i := 9) rfl)) (hts (.initialized RX1) (List.mem_of_getElem? (i := 10) rfl)) hK hP hD hS hA rfl (fun j hj => by rcases (show j = 0 ∨ j = 1 ∨ j = 2 ∨ j = 3 ∨ j = 4 ∨ j = 5 ∨ j = 6 by omega) with rfl | rfl | rfl | rfl | rfl | rfl | rfl <;> rfl) (Nat.le_of_ble_eq_true rfl) (Nat.le_of_ble_eq_true rfl) dX5_init_16 (fun q16 H16 hP' hD' hS' => ?_)
  rw [fl_push] at hP' hD'
  replace hP : va_P (dC, dI) vwCl (fl [[(h0, .inr (4, [.ref (a9 0), .null, .null, .null, .null, .int 0]))], (w_X6 a9 0 cs zz2), [(q16, .inr (0, [.int 0, .null, .null, .null, .null, .null, .null]))]]) H16 := hP'
  replace hD : va_D A (fl [[(h0, .inr (4, [.ref (a9 0), .null, .null, .null, .null, .int 0]))], (w_X6 a9 0 cs zz2), [(q16, .inr (0, [.int 0, .null, .null, .null, .null, .null, .null]))]]) := hD'
  replace hS := hS'
  clear hP' hD' hS'
  refine lv_dup hx hb dX5_init_19 rfl ?_
  refine cl_new (ci := 0) (fs := [.int 0, .null, .null, .null, .null, .null, .null]) (L := [[(h0, .inr (4, [.ref (a9 0), .null, .null, .null, .null, .int 0]))], (w_X6 a9 0 cs zz2)]) (Wf := fun ad => (w_X1 ad 0 cs zz2)) ⟨hx, hb, hml, hown, hts⟩ (k_X1_init l dC dI cs en q16 H16.size) (va_cnB 0 hts gX5_init_X1_init_n20 rfl rfl rfl hN.2.1.2.1 (hts (.initialized RX1) (List.mem_of_getElem? (i := 10) rfl)) (by decide +kernel) ⟨(Nat.le_of_ble_eq_true rfl), (Nat.le_of_ble_eq_true rfl)⟩) rfl (hts (.instanceMethod yX1_init) (List.mem_of_getElem? (i := 29) rfl)) hK hP hD hS hA hN hV rfl hl.1 (Nat.le_of_ble_eq_true rfl) dX5_init_20 ⟨(Nat.le_of_ble_eq_true rfl), (Nat.le_of_ble_eq_true rfl)⟩ (fun a20 H20 locs20 e20 hP' hD' hS' => ?_)
  replace hP : va_P (dC, dI) vwCl (fl [[(h0, .inr (4, [.ref (a9 0), .null, .null, .null, .null, .int 0]))], (w_X6 a9 0 cs zz2), (w_X1 a20 0 cs zz2)]) H20 := hP'
  replace hD : va_D A (fl [[(h0, .inr (4, [.ref (a9 0), .null, .null, .null, .null, .int 0]))], (w_X6 a9 0 cs zz2), (w_X1 a20 0 cs zz2)]) := hD'
  replace hS := hS'
  clear hP' hD' hS'
  subst e20
  refine va_putF (D := (dC, dI)) (ci := 4) (v := .ref (a20 0)) (ty := .object "DockedBikes$Bicycles") (C := RX5) (T := TX5) (N := 6) hx hb hts hinX5 tyX5 tyX5_ok nmX5 hown hK hP hD hS 0 rfl rfl 1 (by decide) (hts (.fieldLink RX5 21 "DockedBikes$Road" "bicycles" "LDockedBikes$Bicycles;") (List.mem_of_getElem? (i := 11) rfl)) (fun _ h9 => h9) rfl hin rfl (by decide +kernel) rfl rfl (Nat.le_of_ble_eq_true rfl) dX5_init_23 (fun H23 locs23 hP' hD' hS' => ?_)
  replace hP : va_P (dC, dI) vwCl (fl [[(h0, .inr (4, [.ref (a9 0), .ref (a20 0), .null, .null, .null, .int 0]))], (w_X6 a9 0 cs zz2), (w_X1 a20 0 cs zz2)]) H23 := hP'
  replace hD : va_D A (fl [[(h0, .inr (4, [.ref (a9 0), .ref (a20 0), .null, .null, .null, .int 0]))], (w_X6 a9 0 cs zz2), (w_X1 a20 0 cs zz2)]) := hD'
  replace hS := hS'
  clear hP' hD' hS'
  refine lv_aload_n hx hb dX5_init_26 rfl (lv_at hl 0 rfl) ?_
  refine va_new (ci := 3) (fs := [.int 0, .null, .null, .null, .null, .null, .null, .null, .null, .null]) (C := RX4) (T := TX4) (N := 10) hx hb hts hinX4 tyX4 tyX4_ok hown (hts (.classLink RX5 25 RX4) (List.mem_of_getElem? (i := 12) rfl)) (hts (.instantiable RX4 10) (List.mem_of_getElem? (i := 13) rfl)) (hts (.initialized RX4) (List.mem_of_getElem? (i := 14) rfl)) hK hP hD hS hA rfl (fun j hj => by rcases (show j = 0 ∨ j = 1 ∨ j = 2 ∨ j = 3 ∨ j = 4 ∨ j = 5 ∨ j = 6 ∨ j = 7 ∨ j = 8 ∨ j = 9 by omega) with rfl | rfl | rfl | rfl | rfl | rfl | rfl | rfl | rfl | rfl <;> rfl) (Nat.le_of_ble_eq_true rfl) (Nat.le_of_ble_eq_true rfl) dX5_init_27 (fun q27 H27 hP' hD' hS' => ?_)
  rw [fl_push] at hP' hD'
  replace hP : va_P (dC, dI) vwCl (fl [[(h0, .inr (4, [.ref (a9 0), .ref (a20 0), .null, .null, .null, .int 0]))], (w_X6 a9 0 cs zz2), (w_X1 a20 0 cs zz2), [(q27, .inr (3, [.int 0, .null, .null, .null, .null, .null, .null, .null, .null, .null]))]]) H27 := hP'
  replace hD : va_D A (fl [[(h0, .inr (4, [.ref (a9 0), .ref (a20 0), .null, .null, .null, .int 0]))], (w_X6 a9 0 cs zz2), (w_X1 a20 0 cs zz2), [(q27, .inr (3, [.int 0, .null, .null, .null, .null, .null, .null, .null, .null, .null]))]]) := hD'
  replace hS := hS'
  clear hP' hD' hS'
  refine lv_dup hx hb dX5_init_30 rfl ?_
  refine cl_new (ci := 3) (fs := [.int 0, .null, .null, .null, .null, .null, .null, .null, .null, .null]) (L := [[(h0, .inr (4, [.ref (a9 0), .ref (a20 0), .null, .null, .null, .int 0]))], (w_X6 a9 0 cs zz2), (w_X1 a20 0 cs zz2)]) (Wf := fun ad => (w_X4 ad 0 cs zz2)) ⟨hx, hb, hml, hown, hts⟩ (k_X4_init l dC dI cs en q27 H27.size) (va_cnB 0 hts gX5_init_X4_init_n27 rfl rfl rfl hN.2.1.2.2.1 (hts (.initialized RX4) (List.mem_of_getElem? (i := 14) rfl)) (by decide +kernel) ⟨(Nat.le_of_ble_eq_true rfl), (Nat.le_of_ble_eq_true rfl)⟩) rfl (hts (.instanceMethod yX4_init) (List.mem_of_getElem? (i := 38) rfl)) hK hP hD hS hA hN hV rfl hl.1 (Nat.le_of_ble_eq_true rfl) dX5_init_31 ⟨(Nat.le_of_ble_eq_true rfl), (Nat.le_of_ble_eq_true rfl)⟩ (fun a31 H31 locs31 e31 hP' hD' hS' => ?_)
  replace hP : va_P (dC, dI) vwCl (fl [[(h0, .inr (4, [.ref (a9 0), .ref (a20 0), .null, .null, .null, .int 0]))], (w_X6 a9 0 cs zz2), (w_X1 a20 0 cs zz2), (w_X4 a31 0 cs zz2)]) H31 := hP'
  replace hD : va_D A (fl [[(h0, .inr (4, [.ref (a9 0), .ref (a20 0), .null, .null, .null, .int 0]))], (w_X6 a9 0 cs zz2), (w_X1 a20 0 cs zz2), (w_X4 a31 0 cs zz2)]) := hD'
  replace hS := hS'
  clear hP' hD' hS'
  subst e31
  refine va_putF (D := (dC, dI)) (ci := 4) (v := .ref (a31 0)) (ty := .object "DockedBikes$Riders") (C := RX5) (T := TX5) (N := 6) hx hb hts hinX5 tyX5 tyX5_ok nmX5 hown hK hP hD hS 0 rfl rfl 2 (by decide) (hts (.fieldLink RX5 28 "DockedBikes$Road" "riders" "LDockedBikes$Riders;") (List.mem_of_getElem? (i := 15) rfl)) (fun _ h9 => h9) rfl hin rfl (by decide +kernel) rfl rfl (Nat.le_of_ble_eq_true rfl) dX5_init_34 (fun H34 locs34 hP' hD' hS' => ?_)
  replace hP : va_P (dC, dI) vwCl (fl [[(h0, .inr (4, [.ref (a9 0), .ref (a20 0), .ref (a31 0), .null, .null, .int 0]))], (w_X6 a9 0 cs zz2), (w_X1 a20 0 cs zz2), (w_X4 a31 0 cs zz2)]) H34 := hP'
  replace hD : va_D A (fl [[(h0, .inr (4, [.ref (a9 0), .ref (a20 0), .ref (a31 0), .null, .null, .int 0]))], (w_X6 a9 0 cs zz2), (w_X1 a20 0 cs zz2), (w_X4 a31 0 cs zz2)]) := hD'
  replace hS := hS'
  clear hP' hD' hS'
  refine lv_aload_n hx hb dX5_init_37 rfl (lv_at hl 0 rfl) ?_
  refine va_new (ci := 7) (fs := [.int 0, .null, .null, .null]) (C := RX8) (T := TX8) (N := 4) hx hb hts hinX8 tyX8 tyX8_ok hown (hts (.classLink RX5 32 RX8) (List.mem_of_getElem? (i := 16) rfl)) (hts (.instantiable RX8 4) (List.mem_of_getElem? (i := 17) rfl)) (hts (.initialized RX8) (List.mem_of_getElem? (i := 18) rfl)) hK hP hD hS hA rfl (fun j hj => by rcases (show j = 0 ∨ j = 1 ∨ j = 2 ∨ j = 3 by omega) with rfl | rfl | rfl | rfl <;> rfl) (Nat.le_of_ble_eq_true rfl) (Nat.le_of_ble_eq_true rfl) dX5_init_38 (fun q38 H38 hP' hD' hS' => ?_)
  rw [fl_push] at hP' hD'
  replace hP : va_P (dC, dI) vwCl (fl [[(h0, .inr (4, [.ref (a9 0), .ref (a20 0), .ref (a31 0), .null, .null, .int 0]))], (w_X6 a9 0 cs zz2), (w_X1 a20 0 cs zz2), (w_X4 a31 0 cs zz2), [(q38, .inr (7, [.int 0, .null, .null, .null]))]]) H38 := hP'
  replace hD : va_D A (fl [[(h0, .inr (4, [.ref (a9 0), .ref (a20 0), .ref (a31 0), .null, .null, .int 0]))], (w_X6 a9 0 cs zz2), (w_X1 a20 0 cs zz2), (w_X4 a31 0 cs zz2), [(q38, .inr (7, [.int 0, .null, .null, .null]))]]) := hD'
  replace hS := hS'
  clear hP' hD' hS'
  refine lv_dup hx hb dX5_init_41 rfl ?_
  refine cl_new (ci := 7) (fs := [.int 0, .null, .null, .null]) (L := [[(h0, .inr (4, [.ref (a9 0), .ref (a20 0), .ref (a31 0), .null, .null, .int 0]))], (w_X6 a9 0 cs zz2), (w_X1 a20 0 cs zz2), (w_X4 a31 0 cs zz2)]) (Wf := fun ad => (w_X8 ad 0 cs zz2)) ⟨hx, hb, hml, hown, hts⟩ (k_X8_init l dC dI cs en q38 H38.size) (va_cnB 0 hts gX5_init_X8_init_n34 rfl rfl rfl hN.2.1.2.2.2 (hts (.initialized RX8) (List.mem_of_getElem? (i := 18) rfl)) (by decide +kernel) ⟨(Nat.le_of_ble_eq_true rfl), (Nat.le_of_ble_eq_true rfl)⟩) rfl (hts (.instanceMethod yX8_init) (List.mem_of_getElem? (i := 50) rfl)) hK hP hD hS hA hN hV rfl hl.1 (Nat.le_of_ble_eq_true rfl) dX5_init_42 ⟨(Nat.le_of_ble_eq_true rfl), (Nat.le_of_ble_eq_true rfl)⟩ (fun a42 H42 locs42 e42 hP' hD' hS' => ?_)
  replace hP : va_P (dC, dI) vwCl (fl [[(h0, .inr (4, [.ref (a9 0), .ref (a20 0), .ref (a31 0), .null, .null, .int 0]))], (w_X6 a9 0 cs zz2), (w_X1 a20 0 cs zz2), (w_X4 a31 0 cs zz2), (w_X8 a42 0 cs zz2)]) H42 := hP'
  replace hD : va_D A (fl [[(h0, .inr (4, [.ref (a9 0), .ref (a20 0), .ref (a31 0), .null, .null, .int 0]))], (w_X6 a9 0 cs zz2), (w_X1 a20 0 cs zz2), (w_X4 a31 0 cs zz2), (w_X8 a42 0 cs zz2)]) := hD'
  replace hS := hS'
  clear hP' hD' hS'
  subst e42
  refine va_putF (D := (dC, dI)) (ci := 4) (v := .ref (a42 0)) (ty := .object "DockedBikes$Vans") (C := RX5) (T := TX5) (N := 6) hx hb hts hinX5 tyX5 tyX5_ok nmX5 hown hK hP hD hS 0 rfl rfl 3 (by decide) (hts (.fieldLink RX5 35 "DockedBikes$Road" "vans" "LDockedBikes$Vans;") (List.mem_of_getElem? (i := 19) rfl)) (fun _ h9 => h9) rfl hin rfl (by decide +kernel) rfl rfl (Nat.le_of_ble_eq_true rfl) dX5_init_45 (fun H45 locs45 hP' hD' hS' => ?_)
  replace hP : va_P (dC, dI) vwCl (fl [[(h0, .inr (4, [.ref (a9 0), .ref (a20 0), .ref (a31 0), .ref (a42 0), .null, .int 0]))], (w_X6 a9 0 cs zz2), (w_X1 a20 0 cs zz2), (w_X4 a31 0 cs zz2), (w_X8 a42 0 cs zz2)]) H45 := hP'
  replace hD : va_D A (fl [[(h0, .inr (4, [.ref (a9 0), .ref (a20 0), .ref (a31 0), .ref (a42 0), .null, .int 0]))], (w_X6 a9 0 cs zz2), (w_X1 a20 0 cs zz2), (w_X4 a31 0 cs zz2), (w_X8 a42 0 cs zz2)]) := hD'
  replace hS := hS'
  clear hP' hD' hS'
  refine lv_aload_n hx hb dX5_init_48 rfl (lv_at hl 0 rfl) ?_
  refine lv_iconst (v := 3) hx hb dX5_init_49 ic_3 ?_
  refine nw_ai hx hb (hts (.arrayClass .int) (List.mem_of_getElem? (i := 20) rfl)) hK hP hD hS hA (N := 3) (by decide) (by decide) (Nat.le_of_ble_eq_true rfl) (Nat.le_of_ble_eq_true rfl) (Nat.le_of_ble_eq_true rfl) dX5_init_50 (fun q50 H50 hP' hD' hS' => ?_)
  replace hP : va_P (dC, dI) vwCl (fl [[(h0, .inr (4, [.ref (a9 0), .ref (a20 0), .ref (a31 0), .ref (a42 0), .null, .int 0]))], (w_X6 a9 0 cs zz2), (w_X1 a20 0 cs zz2), (w_X4 a31 0 cs zz2), (w_X8 a42 0 cs zz2), [(q50, .inl (cs 0, 3, .inl (fun _ => 0)))]]) H50 := hP'
  replace hD : va_D A (fl [[(h0, .inr (4, [.ref (a9 0), .ref (a20 0), .ref (a31 0), .ref (a42 0), .null, .int 0]))], (w_X6 a9 0 cs zz2), (w_X1 a20 0 cs zz2), (w_X4 a31 0 cs zz2), (w_X8 a42 0 cs zz2), [(q50, .inl (cs 0, 3, .inl (fun _ => 0)))]]) := hD'
  replace hS := hS'
  clear hP' hD' hS'
  refine lv_dup hx hb dX5_init_52 rfl ?_
  refine lv_iconst (v := 0) hx hb dX5_init_53 ic_0 ?_
  refine lv_bipush (v := 30) hx hb dX5_init_54 bp_30 ?_
  refine va_iast hx hb hK hP hD hS 27 0 rfl rfl vj_0_3 dX5_init_56 (fun H56 locs56 hP' hD' hS' => ?_)
  rw [ct0] at hP' hD'
  replace hP : va_P (dC, dI) vwCl (fl [[(h0, .inr (4, [.ref (a9 0), .ref (a20 0), .ref (a31 0), .ref (a42 0), .null, .int 0]))], (w_X6 a9 0 cs zz2), (w_X1 a20 0 cs zz2), (w_X4 a31 0 cs zz2), (w_X8 a42 0 cs zz2), [(q50, .inl (cs 0, 3, .inl (sU (fun _ => 0) 0 30)))]]) H56 := hP'
  replace hD : va_D A (fl [[(h0, .inr (4, [.ref (a9 0), .ref (a20 0), .ref (a31 0), .ref (a42 0), .null, .int 0]))], (w_X6 a9 0 cs zz2), (w_X1 a20 0 cs zz2), (w_X4 a31 0 cs zz2), (w_X8 a42 0 cs zz2), [(q50, .inl (cs 0, 3, .inl (sU (fun _ => 0) 0 30)))]]) := hD'
  replace hS := hS'
  clear hP' hD' hS'
  refine lv_dup hx hb dX5_init_57 rfl ?_
  refine lv_iconst (v := 1) hx hb dX5_init_58 ic_1 ?_
  refine lv_bipush (v := 60) hx hb dX5_init_59 bp_60 ?_
  refine va_iast hx hb hK hP hD hS 27 0 rfl rfl vj_1_3 dX5_init_61 (fun H61 locs61 hP' hD' hS' => ?_)
  rw [ct1] at hP' hD'
  replace hP : va_P (dC, dI) vwCl (fl [[(h0, .inr (4, [.ref (a9 0), .ref (a20 0), .ref (a31 0), .ref (a42 0), .null, .int 0]))], (w_X6 a9 0 cs zz2), (w_X1 a20 0 cs zz2), (w_X4 a31 0 cs zz2), (w_X8 a42 0 cs zz2), [(q50, .inl (cs 0, 3, .inl (sU (sU (fun _ => 0) 0 30) 1 60)))]]) H61 := hP'
  replace hD : va_D A (fl [[(h0, .inr (4, [.ref (a9 0), .ref (a20 0), .ref (a31 0), .ref (a42 0), .null, .int 0]))], (w_X6 a9 0 cs zz2), (w_X1 a20 0 cs zz2), (w_X4 a31 0 cs zz2), (w_X8 a42 0 cs zz2), [(q50, .inl (cs 0, 3, .inl (sU (sU (fun _ => 0) 0 30) 1 60)))]]) := hD'
  replace hS := hS'
  clear hP' hD' hS'
  refine lv_dup hx hb dX5_init_62 rfl ?_
  refine lv_iconst (v := 2) hx hb dX5_init_63 ic_2 ?_
  refine lv_bipush (v := 100) hx hb dX5_init_64 bp_100 ?_
  refine va_iast hx hb hK hP hD hS 27 0 rfl rfl vj_2_3 dX5_init_66 (fun H66 locs66 hP' hD' hS' => ?_)
  rw [cu_2] at hP' hD'
  replace hP : va_P (dC, dI) vwCl (fl [[(h0, .inr (4, [.ref (a9 0), .ref (a20 0), .ref (a31 0), .ref (a42 0), .null, .int 0]))], (w_X6 a9 0 cs zz2), (w_X1 a20 0 cs zz2), (w_X4 a31 0 cs zz2), (w_X8 a42 0 cs zz2), [(q50, .inl (cs 0, 3, .inl (sU (sU (sU (fun _ => 0) 0 30) 1 60) 2 100)))]]) H66 := hP'
  replace hD : va_D A (fl [[(h0, .inr (4, [.ref (a9 0), .ref (a20 0), .ref (a31 0), .ref (a42 0), .null, .int 0]))], (w_X6 a9 0 cs zz2), (w_X1 a20 0 cs zz2), (w_X4 a31 0 cs zz2), (w_X8 a42 0 cs zz2), [(q50, .inl (cs 0, 3, .inl (sU (sU (sU (fun _ => 0) 0 30) 1 60) 2 100)))]]) := hD'
  replace hS := hS'
  clear hP' hD' hS'
  refine va_putF (D := (dC, dI)) (ci := 4) (v := .ref q50) (ty := .array .int) (C := RX5) (T := TX5) (N := 6) hx hb hts hinX5 tyX5 tyX5_ok nmX5 hown hK hP hD hS 0 rfl rfl 4 (by decide) (hts (.fieldLink RX5 39 "DockedBikes$Road" "settings" "[I") (List.mem_of_getElem? (i := 21) rfl)) (fun _ h9 => h9) rfl hin rfl (by decide +kernel) rfl rfl (Nat.le_of_ble_eq_true rfl) dX5_init_67 (fun H67 locs67 hP' hD' hS' => ?_)
  replace hP : va_P (dC, dI) vwCl (fl [[(h0, .inr (4, [.ref (a9 0), .ref (a20 0), .ref (a31 0), .ref (a42 0), .ref q50, .int 0]))], (w_X6 a9 0 cs zz2), (w_X1 a20 0 cs zz2), (w_X4 a31 0 cs zz2), (w_X8 a42 0 cs zz2), [(q50, .inl (cs 0, 3, .inl (sU (sU (sU (fun _ => 0) 0 30) 1 60) 2 100)))]]) H67 := hP'
  replace hD : va_D A (fl [[(h0, .inr (4, [.ref (a9 0), .ref (a20 0), .ref (a31 0), .ref (a42 0), .ref q50, .int 0]))], (w_X6 a9 0 cs zz2), (w_X1 a20 0 cs zz2), (w_X4 a31 0 cs zz2), (w_X8 a42 0 cs zz2), [(q50, .inl (cs 0, 3, .inl (sU (sU (sU (fun _ => 0) 0 30) 1 60) 2 100)))]]) := hD'
  replace hS := hS'
  clear hP' hD' hS'
  obtain ⟨ad, had⟩ : ∃ ad : Nat → Nat, ad = fun k => if k < 1 then h0 else if k < 6 then a9 (k - 1) else if k < 13 then a20 (k - 6) else if k < 23 then a31 (k - 13) else if k < 27 then a42 (k - 23) else q50 := ⟨_, rfl⟩
  have w1 : (w_X6 a9 0 cs zz2) = (w_X6 ad 1 cs zz2) := sh_X6 (fun k hk => by rw [had]; show a9 (0 + k) = if (1 + k) < 1 then h0 else if (1 + k) < 6 then a9 ((1 + k) - 1) else if (1 + k) < 13 then a20 ((1 + k) - 6) else if (1 + k) < 23 then a31 ((1 + k) - 13) else if (1 + k) < 27 then a42 ((1 + k) - 23) else q50; rw [if_neg (by omega), if_pos (by omega)]; exact congrArg a9 (by omega))
  have w6 : (w_X1 a20 0 cs zz2) = (w_X1 ad 6 cs zz2) := sh_X1 (fun k hk => by rw [had]; show a20 (0 + k) = if (6 + k) < 1 then h0 else if (6 + k) < 6 then a9 ((6 + k) - 1) else if (6 + k) < 13 then a20 ((6 + k) - 6) else if (6 + k) < 23 then a31 ((6 + k) - 13) else if (6 + k) < 27 then a42 ((6 + k) - 23) else q50; rw [if_neg (by omega), if_neg (by omega), if_pos (by omega)]; exact congrArg a20 (by omega))
  have w13 : (w_X4 a31 0 cs zz2) = (w_X4 ad 13 cs zz2) := sh_X4 (fun k hk => by rw [had]; show a31 (0 + k) = if (13 + k) < 1 then h0 else if (13 + k) < 6 then a9 ((13 + k) - 1) else if (13 + k) < 13 then a20 ((13 + k) - 6) else if (13 + k) < 23 then a31 ((13 + k) - 13) else if (13 + k) < 27 then a42 ((13 + k) - 23) else q50; rw [if_neg (by omega), if_neg (by omega), if_neg (by omega), if_pos (by omega)]; exact congrArg a31 (by omega))
  have w23 : (w_X8 a42 0 cs zz2) = (w_X8 ad 23 cs zz2) := sh_X8 (fun k hk => by rw [had]; show a42 (0 + k) = if (23 + k) < 1 then h0 else if (23 + k) < 6 then a9 ((23 + k) - 1) else if (23 + k) < 13 then a20 ((23 + k) - 6) else if (23 + k) < 23 then a31 ((23 + k) - 13) else if (23 + k) < 27 then a42 ((23 + k) - 23) else q50; rw [if_neg (by omega), if_neg (by omega), if_neg (by omega), if_neg (by omega), if_pos (by omega)]; exact congrArg a42 (by omega))
  rw [w1, w6, w13, w23] at hP hD
  have hPf : va_P (dC, dI) vwCl (w_X5 ad 0 cs zz5) H67 := by rw [had] at hP ⊢; exact hP
  have hDf : va_D A (w_X5 ad 0 cs zz5) := by rw [had] at hD ⊢; exact hD
  refine W.widen (k := 27) (n := 227) (Nat.le_of_ble_eq_true rfl) (Nat.le_of_ble_eq_true rfl) ?_
  exact W.vret hx hb hr (fun t ht hW => ⟨⟨ad, rfl, by rw [had]; rfl, by rw [ht]; exact hPf, va_K.moved hW.alike hK, hDf⟩, hS.F ht⟩) hS.2.2 dX5_init_70
set_option maxHeartbeats 8000000 in
set_option maxRecDepth 100000 in
theorem k_X3_init (l : Launch) (dC : Nat → ClassId) (dI : Nat → Nat → Nat) (cs : Nat → ClassId) (en : Nat → Nat) (h0 sz : Nat) : Met l yX3_init wsX3_init ({ frames := 3, cells := 113, slots := 936, locals := 52 } : Room) (va_Pc [.ref h0] (pV dC dI (tyL cs) en [(h0, .inr (2, [.int 0, .null, .int 0]))] sz)) (va_Qv (fun ad : Nat → Nat => ad 0 = h0) (fun ad => qW dC dI (tyL cs) (va_A [(h0, .inr (2, [.int 0, .null, .int 0]))] sz) (w_X3 ad 0 cs zz3)) (va_A [(h0, .inr (2, [.int 0, .null, .int 0]))] sz)) 113 936 (va_A [(h0, .inr (2, [.int 0, .null, .int 0]))] sz) := by
  refine mt_V (own := RX3) (cc := cX3_init) (maxL := 1) (ret := none) (Qc := fun A => va_Qv (fun ad : Nat → Nat => ad 0 = h0) (fun ad => qW dC dI (tyL cs) A (w_X3 ad 0 cs zz3)) A) rfl (by decide) rfl (Nat.le_of_ble_eq_true rfl) (fun p e s m below meth c A ls hsz hx hb hr hts hown hlocks hml hA hK hP hD hS hl hN hV hin => ?_)
  subst hsz
  have hl : lv_has ls 1 [(0, .ref h0)] := hl
  have hinX5 : ∀ w ∈ wsX50, w ∈ wsX3_init := by decide +kernel
  have hinX3 : ∀ w ∈ wsX30, w ∈ wsX3_init := by decide +kernel
  replace hP : va_P (dC, dI) vwCl (fl [[(h0, .inr (2, [.int 0, .null, .int 0]))]]) s.heap := hP
  replace hD : va_D A (fl [[(h0, .inr (2, [.int 0, .null, .int 0]))]]) := hD
  refine lv_aload_n hx hb dX3_init_0 rfl (lv_at hl 0 rfl) ?_
  refine W.objInit hx hb hown (hts (.methodLink RX3 1 objectInit) (List.mem_of_getElem? (i := 1) rfl)) (hts (.instanceMethod objectInit) (List.mem_of_getElem? (i := 2) rfl)) (hts (.code objectInit ⟨#[0xb1]⟩ 1 none) (List.mem_of_getElem? (i := 3) rfl)) rfl (by rw [hml]; exact hl.1) rfl dX3_init_1 (Nat.le_of_ble_eq_true rfl) (Nat.le_of_ble_eq_true rfl) ?_
  refine lv_aload_n hx hb dX3_init_4 rfl (lv_at hl 0 rfl) ?_
  refine lv_iconst (v := 4) hx hb dX3_init_5 ic_4 ?_
  refine nw_ao hx hb hown (hts (.classLink RX3 7 RX5) (List.mem_of_getElem? (i := 4) rfl)) hN hK hP hD hS hA (N := 4) (by decide) (by decide) (Nat.le_of_ble_eq_true rfl) (Nat.le_of_ble_eq_true rfl) (Nat.le_of_ble_eq_true rfl) dX3_init_6 (fun q6 H6 hP' hD' hS' => ?_)
  replace hP : va_P (dC, dI) vwCl (fl [[(h0, .inr (2, [.int 0, .null, .int 0]))], [(q6, .inl (cs 2, 4, .inr (.inr (.inr (.inr (fun _ => none))))))]]) H6 := hP'
  replace hD : va_D A (fl [[(h0, .inr (2, [.int 0, .null, .int 0]))], [(q6, .inl (cs 2, 4, .inr (.inr (.inr (.inr (fun _ => none))))))]]) := hD'
  replace hS := hS'
  clear hP' hD' hS'
  refine lv_dup hx hb dX3_init_9 rfl ?_
  refine lv_iconst (v := 0) hx hb dX3_init_10 ic_0 ?_
  refine va_new (ci := 4) (fs := [.null, .null, .null, .null, .null, .int 0]) (C := RX5) (T := TX5) (N := 6) hx hb hts hinX5 tyX5 tyX5_ok hown (hts (.classLink RX3 7 RX5) (List.mem_of_getElem? (i := 4) rfl)) (hts (.instantiable RX5 6) (List.mem_of_getElem? (i := 5) rfl)) (hts (.initialized RX5) (List.mem_of_getElem? (i := 6) rfl)) hK hP hD hS hA rfl (fun j hj => by rcases (show j = 0 ∨ j = 1 ∨ j = 2 ∨ j = 3 ∨ j = 4 ∨ j = 5 by omega) with rfl | rfl | rfl | rfl | rfl | rfl <;> rfl) (Nat.le_of_ble_eq_true rfl) (Nat.le_of_ble_eq_true rfl) dX3_init_11 (fun q11 H11 hP' hD' hS' => ?_)
  rw [fl_push] at hP' hD'
  replace hP : va_P (dC, dI) vwCl (fl [[(h0, .inr (2, [.int 0, .null, .int 0]))], [(q6, .inl (cs 2, 4, .inr (.inr (.inr (.inr (fun _ => none))))))], [(q11, .inr (4, [.null, .null, .null, .null, .null, .int 0]))]]) H11 := hP'
  replace hD : va_D A (fl [[(h0, .inr (2, [.int 0, .null, .int 0]))], [(q6, .inl (cs 2, 4, .inr (.inr (.inr (.inr (fun _ => none))))))], [(q11, .inr (4, [.null, .null, .null, .null, .null, .int 0]))]]) := hD'
  replace hS := hS'
  clear hP' hD' hS'
  refine lv_dup hx hb dX3_init_14 rfl ?_
  refine cl_new (ci := 4) (fs := [.null, .null, .null, .null, .null, .int 0]) (L := [[(h0, .inr (2, [.int 0, .null, .int 0]))], [(q6, .inl (cs 2, 4, .inr (.inr (.inr (.inr (fun _ => none))))))]]) (Wf := fun ad => (w_X5 ad 0 cs zz5)) ⟨hx, hb, hml, hown, hts⟩ (k_X5_init l dC dI cs en q11 H11.size) (va_cnB 0 hts gX3_init_X5_init_n9 rfl rfl rfl hN.2.2.1 (hts (.initialized RX5) (List.mem_of_getElem? (i := 6) rfl)) (by decide +kernel) ⟨(Nat.le_of_ble_eq_true rfl), (Nat.le_of_ble_eq_true rfl)⟩) rfl (hts (.instanceMethod yX5_init) (List.mem_of_getElem? (i := 8) rfl)) hK hP hD hS hA hN hV rfl hl.1 (Nat.le_of_ble_eq_true rfl) dX3_init_15 ⟨(Nat.le_of_ble_eq_true rfl), (Nat.le_of_ble_eq_true rfl)⟩ (fun a15 H15 locs15 e15 hP' hD' hS' => ?_)
  replace hP : va_P (dC, dI) vwCl (fl [[(h0, .inr (2, [.int 0, .null, .int 0]))], [(q6, .inl (cs 2, 4, .inr (.inr (.inr (.inr (fun _ => none))))))], (w_X5 a15 0 cs zz5)]) H15 := hP'
  replace hD : va_D A (fl [[(h0, .inr (2, [.int 0, .null, .int 0]))], [(q6, .inl (cs 2, 4, .inr (.inr (.inr (.inr (fun _ => none))))))], (w_X5 a15 0 cs zz5)]) := hD'
  replace hS := hS'
  clear hP' hD' hS'
  subst e15
  refine va_astq (r := (RX5, TX5, 6)) hx hb hK hP hD hS 1 2 2 4 rfl rfl rfl rfl vj_0_4 dX3_init_18 (fun H18 locs18 hP' hD' hS' => ?_)
  rw [ct0] at hP' hD'
  replace hP : va_P (dC, dI) vwCl (fl [[(h0, .inr (2, [.int 0, .null, .int 0]))], [(q6, .inl (cs 2, 4, .inr (.inr (.inr (.inr (va_up (fun _ => none) 0 (some (a15 0))))))))], (w_X5 a15 0 cs zz5)]) H18 := hP'
  replace hD : va_D A (fl [[(h0, .inr (2, [.int 0, .null, .int 0]))], [(q6, .inl (cs 2, 4, .inr (.inr (.inr (.inr (va_up (fun _ => none) 0 (some (a15 0))))))))], (w_X5 a15 0 cs zz5)]) := hD'
  replace hS := hS'
  clear hP' hD' hS'
  refine lv_dup hx hb dX3_init_19 rfl ?_
  refine lv_iconst (v := 1) hx hb dX3_init_20 ic_1 ?_
  refine va_new (ci := 4) (fs := [.null, .null, .null, .null, .null, .int 0]) (C := RX5) (T := TX5) (N := 6) hx hb hts hinX5 tyX5 tyX5_ok hown (hts (.classLink RX3 7 RX5) (List.mem_of_getElem? (i := 4) rfl)) (hts (.instantiable RX5 6) (List.mem_of_getElem? (i := 5) rfl)) (hts (.initialized RX5) (List.mem_of_getElem? (i := 6) rfl)) hK hP hD hS hA rfl (fun j hj => by rcases (show j = 0 ∨ j = 1 ∨ j = 2 ∨ j = 3 ∨ j = 4 ∨ j = 5 by omega) with rfl | rfl | rfl | rfl | rfl | rfl <;> rfl) (Nat.le_of_ble_eq_true rfl) (Nat.le_of_ble_eq_true rfl) dX3_init_21 (fun q21 H21 hP' hD' hS' => ?_)
  rw [fl_push] at hP' hD'
  replace hP : va_P (dC, dI) vwCl (fl [[(h0, .inr (2, [.int 0, .null, .int 0]))], [(q6, .inl (cs 2, 4, .inr (.inr (.inr (.inr (va_up (fun _ => none) 0 (some (a15 0))))))))], (w_X5 a15 0 cs zz5), [(q21, .inr (4, [.null, .null, .null, .null, .null, .int 0]))]]) H21 := hP'
  replace hD : va_D A (fl [[(h0, .inr (2, [.int 0, .null, .int 0]))], [(q6, .inl (cs 2, 4, .inr (.inr (.inr (.inr (va_up (fun _ => none) 0 (some (a15 0))))))))], (w_X5 a15 0 cs zz5), [(q21, .inr (4, [.null, .null, .null, .null, .null, .int 0]))]]) := hD'
  replace hS := hS'
  clear hP' hD' hS'
  refine lv_dup hx hb dX3_init_24 rfl ?_
  refine cl_new (ci := 4) (fs := [.null, .null, .null, .null, .null, .int 0]) (L := [[(h0, .inr (2, [.int 0, .null, .int 0]))], [(q6, .inl (cs 2, 4, .inr (.inr (.inr (.inr (va_up (fun _ => none) 0 (some (a15 0))))))))], (w_X5 a15 0 cs zz5)]) (Wf := fun ad => (w_X5 ad 0 cs zz5)) ⟨hx, hb, hml, hown, hts⟩ (k_X5_init l dC dI cs en q21 H21.size) (va_cnB 0 hts gX3_init_X5_init_n9 rfl rfl rfl hN.2.2.1 (hts (.initialized RX5) (List.mem_of_getElem? (i := 6) rfl)) (by decide +kernel) ⟨(Nat.le_of_ble_eq_true rfl), (Nat.le_of_ble_eq_true rfl)⟩) rfl (hts (.instanceMethod yX5_init) (List.mem_of_getElem? (i := 8) rfl)) hK hP hD hS hA hN hV rfl hl.1 (Nat.le_of_ble_eq_true rfl) dX3_init_25 ⟨(Nat.le_of_ble_eq_true rfl), (Nat.le_of_ble_eq_true rfl)⟩ (fun a25 H25 locs25 e25 hP' hD' hS' => ?_)
  replace hP : va_P (dC, dI) vwCl (fl [[(h0, .inr (2, [.int 0, .null, .int 0]))], [(q6, .inl (cs 2, 4, .inr (.inr (.inr (.inr (va_up (fun _ => none) 0 (some (a15 0))))))))], (w_X5 a15 0 cs zz5), (w_X5 a25 0 cs zz5)]) H25 := hP'
  replace hD : va_D A (fl [[(h0, .inr (2, [.int 0, .null, .int 0]))], [(q6, .inl (cs 2, 4, .inr (.inr (.inr (.inr (va_up (fun _ => none) 0 (some (a15 0))))))))], (w_X5 a15 0 cs zz5), (w_X5 a25 0 cs zz5)]) := hD'
  replace hS := hS'
  clear hP' hD' hS'
  subst e25
  refine va_astq (r := (RX5, TX5, 6)) hx hb hK hP hD hS 1 2 30 4 rfl rfl rfl rfl vj_1_4 dX3_init_28 (fun H28 locs28 hP' hD' hS' => ?_)
  rw [ct1] at hP' hD'
  replace hP : va_P (dC, dI) vwCl (fl [[(h0, .inr (2, [.int 0, .null, .int 0]))], [(q6, .inl (cs 2, 4, .inr (.inr (.inr (.inr (va_up (va_up (fun _ => none) 0 (some (a15 0))) 1 (some (a25 0))))))))], (w_X5 a15 0 cs zz5), (w_X5 a25 0 cs zz5)]) H28 := hP'
  replace hD : va_D A (fl [[(h0, .inr (2, [.int 0, .null, .int 0]))], [(q6, .inl (cs 2, 4, .inr (.inr (.inr (.inr (va_up (va_up (fun _ => none) 0 (some (a15 0))) 1 (some (a25 0))))))))], (w_X5 a15 0 cs zz5), (w_X5 a25 0 cs zz5)]) := hD'
  replace hS := hS'
  clear hP' hD' hS'
  refine lv_dup hx hb dX3_init_29 rfl ?_
  refine lv_iconst (v := 2) hx hb dX3_init_30 ic_2 ?_
  refine va_new (ci := 4) (fs := [.null, .null, .null, .null, .null, .int 0]) (C := RX5) (T := TX5) (N := 6) hx hb hts hinX5 tyX5 tyX5_ok hown (hts (.classLink RX3 7 RX5) (List.mem_of_getElem? (i := 4) rfl)) (hts (.instantiable RX5 6) (List.mem_of_getElem? (i := 5) rfl)) (hts (.initialized RX5) (List.mem_of_getElem? (i := 6) rfl)) hK hP hD hS hA rfl (fun j hj => by rcases (show j = 0 ∨ j = 1 ∨ j = 2 ∨ j = 3 ∨ j = 4 ∨ j = 5 by omega) with rfl | rfl | rfl | rfl | rfl | rfl <;> rfl) (Nat.le_of_ble_eq_true rfl) (Nat.le_of_ble_eq_true rfl) dX3_init_31 (fun q31 H31 hP' hD' hS' => ?_)
  rw [fl_push] at hP' hD'
  replace hP : va_P (dC, dI) vwCl (fl [[(h0, .inr (2, [.int 0, .null, .int 0]))], [(q6, .inl (cs 2, 4, .inr (.inr (.inr (.inr (va_up (va_up (fun _ => none) 0 (some (a15 0))) 1 (some (a25 0))))))))], (w_X5 a15 0 cs zz5), (w_X5 a25 0 cs zz5), [(q31, .inr (4, [.null, .null, .null, .null, .null, .int 0]))]]) H31 := hP'
  replace hD : va_D A (fl [[(h0, .inr (2, [.int 0, .null, .int 0]))], [(q6, .inl (cs 2, 4, .inr (.inr (.inr (.inr (va_up (va_up (fun _ => none) 0 (some (a15 0))) 1 (some (a25 0))))))))], (w_X5 a15 0 cs zz5), (w_X5 a25 0 cs zz5), [(q31, .inr (4, [.null, .null, .null, .null, .null, .int 0]))]]) := hD'
  replace hS := hS'
  clear hP' hD' hS'
  refine lv_dup hx hb dX3_init_34 rfl ?_
  refine cl_new (ci := 4) (fs := [.null, .null, .null, .null, .null, .int 0]) (L := [[(h0, .inr (2, [.int 0, .null, .int 0]))], [(q6, .inl (cs 2, 4, .inr (.inr (.inr (.inr (va_up (va_up (fun _ => none) 0 (some (a15 0))) 1 (some (a25 0))))))))], (w_X5 a15 0 cs zz5), (w_X5 a25 0 cs zz5)]) (Wf := fun ad => (w_X5 ad 0 cs zz5)) ⟨hx, hb, hml, hown, hts⟩ (k_X5_init l dC dI cs en q31 H31.size) (va_cnB 0 hts gX3_init_X5_init_n9 rfl rfl rfl hN.2.2.1 (hts (.initialized RX5) (List.mem_of_getElem? (i := 6) rfl)) (by decide +kernel) ⟨(Nat.le_of_ble_eq_true rfl), (Nat.le_of_ble_eq_true rfl)⟩) rfl (hts (.instanceMethod yX5_init) (List.mem_of_getElem? (i := 8) rfl)) hK hP hD hS hA hN hV rfl hl.1 (Nat.le_of_ble_eq_true rfl) dX3_init_35 ⟨(Nat.le_of_ble_eq_true rfl), (Nat.le_of_ble_eq_true rfl)⟩ (fun a35 H35 locs35 e35 hP' hD' hS' => ?_)
  replace hP : va_P (dC, dI) vwCl (fl [[(h0, .inr (2, [.int 0, .null, .int 0]))], [(q6, .inl (cs 2, 4, .inr (.inr (.inr (.inr (va_up (va_up (fun _ => none) 0 (some (a15 0))) 1 (some (a25 0))))))))], (w_X5 a15 0 cs zz5), (w_X5 a25 0 cs zz5), (w_X5 a35 0 cs zz5)]) H35 := hP'
  replace hD : va_D A (fl [[(h0, .inr (2, [.int 0, .null, .int 0]))], [(q6, .inl (cs 2, 4, .inr (.inr (.inr (.inr (va_up (va_up (fun _ => none) 0 (some (a15 0))) 1 (some (a25 0))))))))], (w_X5 a15 0 cs zz5), (w_X5 a25 0 cs zz5), (w_X5 a35 0 cs zz5)]) := hD'
  replace hS := hS'
  clear hP' hD' hS'
  subst e35
  refine va_astq (r := (RX5, TX5, 6)) hx hb hK hP hD hS 1 2 58 4 rfl rfl rfl rfl vj_2_4 dX3_init_38 (fun H38 locs38 hP' hD' hS' => ?_)
  rw [cu_2] at hP' hD'
  replace hP : va_P (dC, dI) vwCl (fl [[(h0, .inr (2, [.int 0, .null, .int 0]))], [(q6, .inl (cs 2, 4, .inr (.inr (.inr (.inr (va_up (va_up (va_up (fun _ => none) 0 (some (a15 0))) 1 (some (a25 0))) 2 (some (a35 0))))))))], (w_X5 a15 0 cs zz5), (w_X5 a25 0 cs zz5), (w_X5 a35 0 cs zz5)]) H38 := hP'
  replace hD : va_D A (fl [[(h0, .inr (2, [.int 0, .null, .int 0]))], [(q6, .inl (cs 2, 4, .inr (.inr (.inr (.inr (va_up (va_up (va_up (fun _ => none) 0 (some (a15 0))) 1 (some (a25 0))) 2 (some (a35 0))))))))], (w_X5 a15 0 cs zz5), (w_X5 a25 0 cs zz5), (w_X5 a35 0 cs zz5)]) := hD'
  replace hS := hS'
  clear hP' hD' hS'
  refine lv_dup hx hb dX3_init_39 rfl ?_
  refine lv_iconst (v := 3) hx hb dX3_init_40 ic_3 ?_
  refine va_new (ci := 4) (fs := [.null, .null, .null, .null, .null, .int 0]) (C := RX5) (T := TX5) (N := 6) hx hb hts hinX5 tyX5 tyX5_ok hown (hts (.classLink RX3 7 RX5) (List.mem_of_getElem? (i := 4) rfl)) (hts (.instantiable RX5 6) (List.mem_of_getElem? (i := 5) rfl)) (hts (.initialized RX5) (List.mem_of_getElem? (i := 6) rfl)) hK hP hD hS hA rfl (fun j hj => by rcases (show j = 0 ∨ j = 1 ∨ j = 2 ∨ j = 3 ∨ j = 4 ∨ j = 5 by omega) with rfl | rfl | rfl | rfl | rfl | rfl <;> rfl) (Nat.le_of_ble_eq_true rfl) (Nat.le_of_ble_eq_true rfl) dX3_init_41 (fun q41 H41 hP' hD' hS' => ?_)
  rw [fl_push] at hP' hD'
  replace hP : va_P (dC, dI) vwCl (fl [[(h0, .inr (2, [.int 0, .null, .int 0]))], [(q6, .inl (cs 2, 4, .inr (.inr (.inr (.inr (va_up (va_up (va_up (fun _ => none) 0 (some (a15 0))) 1 (some (a25 0))) 2 (some (a35 0))))))))], (w_X5 a15 0 cs zz5), (w_X5 a25 0 cs zz5), (w_X5 a35 0 cs zz5), [(q41, .inr (4, [.null, .null, .null, .null, .null, .int 0]))]]) H41 := hP'
  replace hD : va_D A (fl [[(h0, .inr (2, [.int 0, .null, .int 0]))], [(q6, .inl (cs 2, 4, .inr (.inr (.inr (.inr (va_up (va_up (va_up (fun _ => none) 0 (some (a15 0))) 1 (some (a25 0))) 2 (some (a35 0))))))))], (w_X5 a15 0 cs zz5), (w_X5 a25 0 cs zz5), (w_X5 a35 0 cs zz5), [(q41, .inr (4, [.null, .null, .null, .null, .null, .int 0]))]]) := hD'
  replace hS := hS'
  clear hP' hD' hS'
  refine lv_dup hx hb dX3_init_44 rfl ?_
  refine cl_new (ci := 4) (fs := [.null, .null, .null, .null, .null, .int 0]) (L := [[(h0, .inr (2, [.int 0, .null, .int 0]))], [(q6, .inl (cs 2, 4, .inr (.inr (.inr (.inr (va_up (va_up (va_up (fun _ => none) 0 (some (a15 0))) 1 (some (a25 0))) 2 (some (a35 0))))))))], (w_X5 a15 0 cs zz5), (w_X5 a25 0 cs zz5), (w_X5 a35 0 cs zz5)]) (Wf := fun ad => (w_X5 ad 0 cs zz5)) ⟨hx, hb, hml, hown, hts⟩ (k_X5_init l dC dI cs en q41 H41.size) (va_cnB 0 hts gX3_init_X5_init_n9 rfl rfl rfl hN.2.2.1 (hts (.initialized RX5) (List.mem_of_getElem? (i := 6) rfl)) (by decide +kernel) ⟨(Nat.le_of_ble_eq_true rfl), (Nat.le_of_ble_eq_true rfl)⟩) rfl (hts (.instanceMethod yX5_init) (List.mem_of_getElem? (i := 8) rfl)) hK hP hD hS hA hN hV rfl hl.1 (Nat.le_of_ble_eq_true rfl) dX3_init_45 ⟨(Nat.le_of_ble_eq_true rfl), (Nat.le_of_ble_eq_true rfl)⟩ (fun a45 H45 locs45 e45 hP' hD' hS' => ?_)
  replace hP : va_P (dC, dI) vwCl (fl [[(h0, .inr (2, [.int 0, .null, .int 0]))], [(q6, .inl (cs 2, 4, .inr (.inr (.inr (.inr (va_up (va_up (va_up (fun _ => none) 0 (some (a15 0))) 1 (some (a25 0))) 2 (some (a35 0))))))))], (w_X5 a15 0 cs zz5), (w_X5 a25 0 cs zz5), (w_X5 a35 0 cs zz5), (w_X5 a45 0 cs zz5)]) H45 := hP'
  replace hD : va_D A (fl [[(h0, .inr (2, [.int 0, .null, .int 0]))], [(q6, .inl (cs 2, 4, .inr (.inr (.inr (.inr (va_up (va_up (va_up (fun _ => none) 0 (some (a15 0))) 1 (some (a25 0))) 2 (some (a35 0))))))))], (w_X5 a15 0 cs zz5), (w_X5 a25 0 cs zz5), (w_X5 a35 0 cs zz5), (w_X5 a45 0 cs zz5)]) := hD'
  replace hS := hS'
  clear hP' hD' hS'
  subst e45
  refine va_astq (r := (RX5, TX5, 6)) hx hb hK hP hD hS 1 2 86 4 rfl rfl rfl rfl vj_3_4 dX3_init_48 (fun H48 locs48 hP' hD' hS' => ?_)
  rw [cu_3] at hP' hD'
  replace hP : va_P (dC, dI) vwCl (fl [[(h0, .inr (2, [.int 0, .null, .int 0]))], [(q6, .inl (cs 2, 4, .inr (.inr (.inr (.inr (va_up (va_up (va_up (va_up (fun _ => none) 0 (some (a15 0))) 1 (some (a25 0))) 2 (some (a35 0))) 3 (some (a45 0))))))))], (w_X5 a15 0 cs zz5), (w_X5 a25 0 cs zz5), (w_X5 a35 0 cs zz5), (w_X5 a45 0 cs zz5)]) H48 := hP'
  replace hD : va_D A (fl [[(h0, .inr (2, [.int 0, .null, .int 0]))], [(q6, .inl (cs 2, 4, .inr (.inr (.inr (.inr (va_up (va_up (va_up (va_up (fun _ => none) 0 (some (a15 0))) 1 (some (a25 0))) 2 (some (a35 0))) 3 (some (a45 0))))))))], (w_X5 a15 0 cs zz5), (w_X5 a25 0 cs zz5), (w_X5 a35 0 cs zz5), (w_X5 a45 0 cs zz5)]) := hD'
  replace hS := hS'
  clear hP' hD' hS'
  refine va_putF (D := (dC, dI)) (ci := 2) (v := .ref q6) (ty := .array (.object "DockedBikes$Road")) (C := RX3) (T := TX3) (N := 3) hx hb hts hinX3 tyX3 tyX3_ok nmX3 hown hK hP hD hS 0 rfl rfl 1 (by decide) (hts (.fieldLink RX3 10 "DockedBikes$History" "states" "[LDockedBikes$Road;") (List.mem_of_getElem? (i := 7) rfl)) (fun _ h9 => h9) rfl hin rfl (by decide +kernel) rfl rfl (Nat.le_of_ble_eq_true rfl) dX3_init_49 (fun H49 locs49 hP' hD' hS' => ?_)
  replace hP : va_P (dC, dI) vwCl (fl [[(h0, .inr (2, [.int 0, .ref q6, .int 0]))], [(q6, .inl (cs 2, 4, .inr (.inr (.inr (.inr (va_up (va_up (va_up (va_up (fun _ => none) 0 (some (a15 0))) 1 (some (a25 0))) 2 (some (a35 0))) 3 (some (a45 0))))))))], (w_X5 a15 0 cs zz5), (w_X5 a25 0 cs zz5), (w_X5 a35 0 cs zz5), (w_X5 a45 0 cs zz5)]) H49 := hP'
  replace hD : va_D A (fl [[(h0, .inr (2, [.int 0, .ref q6, .int 0]))], [(q6, .inl (cs 2, 4, .inr (.inr (.inr (.inr (va_up (va_up (va_up (va_up (fun _ => none) 0 (some (a15 0))) 1 (some (a25 0))) 2 (some (a35 0))) 3 (some (a45 0))))))))], (w_X5 a15 0 cs zz5), (w_X5 a25 0 cs zz5), (w_X5 a35 0 cs zz5), (w_X5 a45 0 cs zz5)]) := hD'
  replace hS := hS'
  clear hP' hD' hS'
  obtain ⟨ad, had⟩ : ∃ ad : Nat → Nat, ad = fun k => if k < 1 then h0 else if k < 2 then q6 else if k < 30 then a15 (k - 2) else if k < 58 then a25 (k - 30) else if k < 86 then a35 (k - 58) else a45 (k - 86) := ⟨_, rfl⟩
  have w2 : (w_X5 a15 0 cs zz5) = (w_X5 ad 2 cs zz5) := sh_X5 (fun k hk => by rw [had]; show a15 (0 + k) = if (2 + k) < 1 then h0 else if (2 + k) < 2 then q6 else if (2 + k) < 30 then a15 ((2 + k) - 2) else if (2 + k) < 58 then a25 ((2 + k) - 30) else if (2 + k) < 86 then a35 ((2 + k) - 58) else a45 ((2 + k) - 86); rw [if_neg (by omega), if_neg (by omega), if_pos (by omega)]; exact congrArg a15 (by omega))
  have w30 : (w_X5 a25 0 cs zz5) = (w_X5 ad 30 cs zz5) := sh_X5 (fun k hk => by rw [had]; show a25 (0 + k) = if (30 + k) < 1 then h0 else if (30 + k) < 2 then q6 else if (30 + k) < 30 then a15 ((30 + k) - 2) else if (30 + k) < 58 then a25 ((30 + k) - 30) else if (30 + k) < 86 then a35 ((30 + k) - 58) else a45 ((30 + k) - 86); rw [if_neg (by omega), if_neg (by omega), if_neg (by omega), if_pos (by omega)]; exact congrArg a25 (by omega))
  have w58 : (w_X5 a35 0 cs zz5) = (w_X5 ad 58 cs zz5) := sh_X5 (fun k hk => by rw [had]; show a35 (0 + k) = if (58 + k) < 1 then h0 else if (58 + k) < 2 then q6 else if (58 + k) < 30 then a15 ((58 + k) - 2) else if (58 + k) < 58 then a25 ((58 + k) - 30) else if (58 + k) < 86 then a35 ((58 + k) - 58) else a45 ((58 + k) - 86); rw [if_neg (by omega), if_neg (by omega), if_neg (by omega), if_neg (by omega), if_pos (by omega)]; exact congrArg a35 (by omega))
  have w86 : (w_X5 a45 0 cs zz5) = (w_X5 ad 86 cs zz5) := sh_X5 (fun k hk => by rw [had]; show a45 (0 + k) = if (86 + k) < 1 then h0 else if (86 + k) < 2 then q6 else if (86 + k) < 30 then a15 ((86 + k) - 2) else if (86 + k) < 58 then a25 ((86 + k) - 30) else if (86 + k) < 86 then a35 ((86 + k) - 58) else a45 ((86 + k) - 86); rw [if_neg (by omega), if_neg (by omega), if_neg (by omega), if_neg (by omega), if_neg (by omega)]; exact congrArg a45 (by omega))
  rw [w2, w30, w58, w86] at hP hD
  have hfg : ∀ k, k < 4 → (va_up (va_up (va_up (va_up (fun _ => none) 0 (some (a15 0))) 1 (some (a25 0))) 2 (some (a35 0))) 3 (some (a45 0))) k = (fun k => some (ad (0 + 2 + 28 * k))) k := fun k hk => by
    rw [had]
    rcases (show k = 0 ∨ k = 1 ∨ k = 2 ∨ k = 3 by omega) with rfl | rfl | rfl | rfl <;> rfl
  replace hP := nw_at (X := [(h0, .inr (2, [.int 0, .ref q6, .int 0]))]) (Y := List.flatten [(w_X5 ad 2 cs zz5), (w_X5 ad 30 cs zz5), (w_X5 ad 58 cs zz5), (w_X5 ad 86 cs zz5)]) hP (nw_q hfg)
  replace hD : va_D A ([(h0, .inr (2, [.int 0, .ref q6, .int 0]))] ++ (q6, .inl (cs 2, 4, .inr (.inr (.inr (.inr (fun k => some (ad (0 + 2 + 28 * k)))))))) :: List.flatten [(w_X5 ad 2 cs zz5), (w_X5 ad 30 cs zz5), (w_X5 ad 58 cs zz5), (w_X5 ad 86 cs zz5)]) := hD.fst rfl
  have hPf : va_P (dC, dI) vwCl (w_X3 ad 0 cs zz3) H49 := by rw [had] at hP ⊢; exact hP
  have hDf : va_D A (w_X3 ad 0 cs zz3) := by rw [had] at hD ⊢; exact hD
  refine W.widen (k := 113) (n := 936) (Nat.le_of_ble_eq_true rfl) (Nat.le_of_ble_eq_true rfl) ?_
  exact W.vret hx hb hr (fun t ht hW => ⟨⟨ad, rfl, by rw [had]; rfl, by rw [ht]; exact hPf, va_K.moved hW.alike hK, hDf⟩, hS.F ht⟩) hS.2.2 dX3_init_52
set_option maxHeartbeats 8000000 in
set_option maxRecDepth 100000 in
theorem k_X10_init (l : Launch) (dC : Nat → ClassId) (dI : Nat → Nat → Nat) (cs : Nat → ClassId) (en : Nat → Nat) (h0 sz : Nat) : Met l yX10_init wsX10_init ({ frames := 4, cells := 205, slots := 1737, locals := 72 } : Room) (va_Pc [.ref h0] (pV dC dI (tyL cs) en [(h0, .inr (8, [.null, .null, .null, .int 0, .null, .null, .null]))] sz)) (va_Qv (fun ad : Nat → Nat => ad 0 = h0) (fun ad => qW dC dI (tyL cs) (va_A [(h0, .inr (8, [.null, .null, .null, .int 0, .null, .null, .null]))] sz) (w_X10 ad 0 cs en zz10)) (va_A [(h0, .inr (8, [.null, .null, .null, .int 0, .null, .null, .null]))] sz)) 205 1737 (va_A [(h0, .inr (8, [.null, .null, .null, .int 0, .null, .null, .null]))] sz) := by
  refine mt_V (own := RX10) (cc := cX10_init) (maxL := 1) (ret := none) (Qc := fun A => va_Qv (fun ad : Nat → Nat => ad 0 = h0) (fun ad => qW dC dI (tyL cs) A (w_X10 ad 0 cs en zz10)) A) rfl (by decide) rfl (Nat.le_of_ble_eq_true rfl) (fun p e s m below meth c A ls hsz hx hb hr hts hown hlocks hml hA hK hP hD hS hl hN hV hin => ?_)
  subst hsz
  have hl : lv_has ls 1 [(0, .ref h0)] := hl
  have hinX5 : ∀ w ∈ wsX50, w ∈ wsX10_init := by decide +kernel
  have hinX10 : ∀ w ∈ wsX100, w ∈ wsX10_init := by decide +kernel
  have hinX3 : ∀ w ∈ wsX30, w ∈ wsX10_init := by decide +kernel
  have hinX2 : ∀ w ∈ wsX20, w ∈ wsX10_init := by decide +kernel
  have hinX7 : ∀ w ∈ wsX70, w ∈ wsX10_init := by decide +kernel
  replace hP : va_P (dC, dI) vwCl (fl [[(h0, .inr (8, [.null, .null, .null, .int 0, .null, .null, .null]))]]) s.heap := hP
  replace hD : va_D A (fl [[(h0, .inr (8, [.null, .null, .null, .int 0, .null, .null, .null]))]]) := hD
  refine lv_aload_n hx hb dX10_init_0 rfl (lv_at hl 0 rfl) ?_
  refine W.objInit hx hb hown (hts (.methodLink RX10 1 objectInit) (List.mem_of_getElem? (i := 1) rfl)) (hts (.instanceMethod objectInit) (List.mem_of_getElem? (i := 2) rfl)) (hts (.code objectInit ⟨#[0xb1]⟩ 1 none) (List.mem_of_getElem? (i := 3) rfl)) rfl (by rw [hml]; exact hl.1) rfl dX10_init_1 (Nat.le_of_ble_eq_true rfl) (Nat.le_of_ble_eq_true rfl) ?_
  refine lv_aload_n hx hb dX10_init_4 rfl (lv_at hl 0 rfl) ?_
  refine va_new (ci := 4) (fs := [.null, .null, .null, .null, .null, .int 0]) (C := RX5) (T := TX5) (N := 6) hx hb hts hinX5 tyX5 tyX5_ok hown (hts (.classLink RX10 7 RX5) (List.mem_of_getElem? (i := 4) rfl)) (hts (.instantiable RX5 6) (List.mem_of_getElem? (i := 5) rfl)) (hts (.initialized RX5) (List.mem_of_getElem? (i := 6) rfl)) hK hP hD hS hA rfl (fun j hj => by rcases (show j = 0 ∨ j = 1 ∨ j = 2 ∨ j = 3 ∨ j = 4 ∨ j = 5 by omega) with rfl | rfl | rfl | rfl | rfl | rfl <;> rfl) (Nat.le_of_ble_eq_true rfl) (Nat.le_of_ble_eq_true rfl) dX10_init_5 (fun q5 H5 hP' hD' hS' => ?_)
  rw [fl_push] at hP' hD'
  replace hP : va_P (dC, dI) vwCl (fl [[(h0, .inr (8, [.null, .null, .null, .int 0, .null, .null, .null]))], [(q5, .inr (4, [.null, .null, .null, .null, .null, .int 0]))]]) H5 := hP'
  replace hD : va_D A (fl [[(h0, .inr (8, [.null, .null, .null, .int 0, .null, .null, .null]))], [(q5, .inr (4, [.null, .null, .null, .null, .null, .int 0]))]]) := hD'
  replace hS := hS'
  clear hP' hD' hS'
  refine lv_dup hx hb dX10_init_8 rfl ?_
  refine cl_new (ci := 4) (fs := [.null, .null, .null, .null, .null, .int 0]) (L := [[(h0, .inr (8, [.null, .null, .null, .int 0, .null, .null, .null]))]]) (Wf := fun ad => (w_X5 ad 0 cs zz5)) ⟨hx, hb, hml, hown, hts⟩ (k_X5_init l dC dI cs en q5 H5.size) (va_cnB 0 hts gX10_init_X5_init_n9 rfl rfl rfl hN.1.1 (hts (.initialized RX5) (List.mem_of_getElem? (i := 6) rfl)) (by decide +kernel) ⟨(Nat.le_of_ble_eq_true rfl), (Nat.le_of_ble_eq_true rfl)⟩) rfl (hts (.instanceMethod yX5_init) (List.mem_of_getElem? (i := 22) rfl)) hK hP hD hS hA hN hV rfl hl.1 (Nat.le_of_ble_eq_true rfl) dX10_init_9 ⟨(Nat.le_of_ble_eq_true rfl), (Nat.le_of_ble_eq_true rfl)⟩ (fun a9 H9 locs9 e9 hP' hD' hS' => ?_)
  replace hP : va_P (dC, dI) vwCl (fl [[(h0, .inr (8, [.null, .null, .null, .int 0, .null, .null, .null]))], (w_X5 a9 0 cs zz5)]) H9 := hP'
  replace hD : va_D A (fl [[(h0, .inr (8, [.null, .null, .null, .int 0, .null, .null, .null]))], (w_X5 a9 0 cs zz5)]) := hD'
  replace hS := hS'
  clear hP' hD' hS'
  subst e9
  refine va_putF (D := (dC, dI)) (ci := 8) (v := .ref (a9 0)) (ty := .object "DockedBikes$Road") (C := RX10) (T := TX10) (N := 7) hx hb hts hinX10 tyX10 tyX10_ok nmX10 hown hK hP hD hS 0 rfl rfl 0 (by decide) (hts (.fieldLink RX10 10 "DockedBikes" "now" "LDockedBikes$Road;") (List.mem_of_getElem? (i := 7) rfl)) (fun _ h9 => h9) rfl hin rfl (by decide +kernel) rfl rfl (Nat.le_of_ble_eq_true rfl) dX10_init_12 (fun H12 locs12 hP' hD' hS' => ?_)
  replace hP : va_P (dC, dI) vwCl (fl [[(h0, .inr (8, [.ref (a9 0), .null, .null, .int 0, .null, .null, .null]))], (w_X5 a9 0 cs zz5)]) H12 := hP'
  replace hD : va_D A (fl [[(h0, .inr (8, [.ref (a9 0), .null, .null, .int 0, .null, .null, .null]))], (w_X5 a9 0 cs zz5)]) := hD'
  replace hS := hS'
  clear hP' hD' hS'
  refine lv_aload_n hx hb dX10_init_15 rfl (lv_at hl 0 rfl) ?_
  refine va_new (ci := 4) (fs := [.null, .null, .null, .null, .null, .int 0]) (C := RX5) (T := TX5) (N := 6) hx hb hts hinX5 tyX5 tyX5_ok hown (hts (.classLink RX10 7 RX5) (List.mem_of_getElem? (i := 4) rfl)) (hts (.instantiable RX5 6) (List.mem_of_getElem? (i := 5) rfl)) (hts (.initialized RX5) (List.mem_of_getElem? (i := 6) rfl)) hK hP hD hS hA rfl (fun j hj => by rcases (show j = 0 ∨ j = 1 ∨ j = 2 ∨ j = 3 ∨ j = 4 ∨ j = 5 by omega) with rfl | rfl | rfl | rfl | rfl | rfl <;> rfl) (Nat.le_of_ble_eq_true rfl) (Nat.le_of_ble_eq_true rfl) dX10_init_16 (fun q16 H16 hP' hD' hS' => ?_)
  rw [fl_push] at hP' hD'
  replace hP : va_P (dC, dI) vwCl (fl [[(h0, .inr (8, [.ref (a9 0), .null, .null, .int 0, .null, .null, .null]))], (w_X5 a9 0 cs zz5), [(q16, .inr (4, [.null, .null, .null, .null, .null, .int 0]))]]) H16 := hP'
  replace hD : va_D A (fl [[(h0, .inr (8, [.ref (a9 0), .null, .null, .int 0, .null, .null, .null]))], (w_X5 a9 0 cs zz5), [(q16, .inr (4, [.null, .null, .null, .null, .null, .int 0]))]]) := hD'
  replace hS := hS'
  clear hP' hD' hS'
  refine lv_dup hx hb dX10_init_19 rfl ?_
  refine cl_new (ci := 4) (fs := [.null, .null, .null, .null, .null, .int 0]) (L := [[(h0, .inr (8, [.ref (a9 0), .null, .null, .int 0, .null, .null, .null]))], (w_X5 a9 0 cs zz5)]) (Wf := fun ad => (w_X5 ad 0 cs zz5)) ⟨hx, hb, hml, hown, hts⟩ (k_X5_init l dC dI cs en q16 H16.size) (va_cnB 0 hts gX10_init_X5_init_n9 rfl rfl rfl hN.1.1 (hts (.initialized RX5) (List.mem_of_getElem? (i := 6) rfl)) (by decide +kernel) ⟨(Nat.le_of_ble_eq_true rfl), (Nat.le_of_ble_eq_true rfl)⟩) rfl (hts (.instanceMethod yX5_init) (List.mem_of_getElem? (i := 22) rfl)) hK hP hD hS hA hN hV rfl hl.1 (Nat.le_of_ble_eq_true rfl) dX10_init_20 ⟨(Nat.le_of_ble_eq_true rfl), (Nat.le_of_ble_eq_true rfl)⟩ (fun a20 H20 locs20 e20 hP' hD' hS' => ?_)
  replace hP : va_P (dC, dI) vwCl (fl [[(h0, .inr (8, [.ref (a9 0), .null, .null, .int 0, .null, .null, .null]))], (w_X5 a9 0 cs zz5), (w_X5 a20 0 cs zz5)]) H20 := hP'
  replace hD : va_D A (fl [[(h0, .inr (8, [.ref (a9 0), .null, .null, .int 0, .null, .null, .null]))], (w_X5 a9 0 cs zz5), (w_X5 a20 0 cs zz5)]) := hD'
  replace hS := hS'
  clear hP' hD' hS'
  subst e20
  refine va_putF (D := (dC, dI)) (ci := 8) (v := .ref (a20 0)) (ty := .object "DockedBikes$Road") (C := RX10) (T := TX10) (N := 7) hx hb hts hinX10 tyX10 tyX10_ok nmX10 hown hK hP hD hS 0 rfl rfl 1 (by decide) (hts (.fieldLink RX10 16 "DockedBikes" "draft" "LDockedBikes$Road;") (List.mem_of_getElem? (i := 8) rfl)) (fun _ h9 => h9) rfl hin rfl (by decide +kernel) rfl rfl (Nat.le_of_ble_eq_true rfl) dX10_init_23 (fun H23 locs23 hP' hD' hS' => ?_)
  replace hP : va_P (dC, dI) vwCl (fl [[(h0, .inr (8, [.ref (a9 0), .ref (a20 0), .null, .int 0, .null, .null, .null]))], (w_X5 a9 0 cs zz5), (w_X5 a20 0 cs zz5)]) H23 := hP'
  replace hD : va_D A (fl [[(h0, .inr (8, [.ref (a9 0), .ref (a20 0), .null, .int 0, .null, .null, .null]))], (w_X5 a9 0 cs zz5), (w_X5 a20 0 cs zz5)]) := hD'
  replace hS := hS'
  clear hP' hD' hS'
  refine lv_aload_n hx hb dX10_init_26 rfl (lv_at hl 0 rfl) ?_
  refine va_new (ci := 4) (fs := [.null, .null, .null, .null, .null, .int 0]) (C := RX5) (T := TX5) (N := 6) hx hb hts hinX5 tyX5 tyX5_ok hown (hts (.classLink RX10 7 RX5) (List.mem_of_getElem? (i := 4) rfl)) (hts (.instantiable RX5 6) (List.mem_of_getElem? (i := 5) rfl)) (hts (.initialized RX5) (List.mem_of_getElem? (i := 6) rfl)) hK hP hD hS hA rfl (fun j hj => by rcases (show j = 0 ∨ j = 1 ∨ j = 2 ∨ j = 3 ∨ j = 4 ∨ j = 5 by omega) with rfl | rfl | rfl | rfl | rfl | rfl <;> rfl) (Nat.le_of_ble_eq_true rfl) (Nat.le_of_ble_eq_true rfl) dX10_init_27 (fun q27 H27 hP' hD' hS' => ?_)
  rw [fl_push] at hP' hD'
  replace hP : va_P (dC, dI) vwCl (fl [[(h0, .inr (8, [.ref (a9 0), .ref (a20 0), .null, .int 0, .null, .null, .null]))], (w_X5 a9 0 cs zz5), (w_X5 a20 0 cs zz5), [(q27, .inr (4, [.null, .null, .null, .null, .null, .int 0]))]]) H27 := hP'
  replace hD : va_D A (fl [[(h0, .inr (8, [.ref (a9 0), .ref (a20 0), .null, .int 0, .null, .null, .null]))], (w_X5 a9 0 cs zz5), (w_X5 a20 0 cs zz5), [(q27, .inr (4, [.null, .null, .null, .null, .null, .int 0]))]]) := hD'
  replace hS := hS'
  clear hP' hD' hS'
  refine lv_dup hx hb dX10_init_30 rfl ?_
  refine cl_new (ci := 4) (fs := [.null, .null, .null, .null, .null, .int 0]) (L := [[(h0, .inr (8, [.ref (a9 0), .ref (a20 0), .null, .int 0, .null, .null, .null]))], (w_X5 a9 0 cs zz5), (w_X5 a20 0 cs zz5)]) (Wf := fun ad => (w_X5 ad 0 cs zz5)) ⟨hx, hb, hml, hown, hts⟩ (k_X5_init l dC dI cs en q27 H27.size) (va_cnB 0 hts gX10_init_X5_init_n9 rfl rfl rfl hN.1.1 (hts (.initialized RX5) (List.mem_of_getElem? (i := 6) rfl)) (by decide +kernel) ⟨(Nat.le_of_ble_eq_true rfl), (Nat.le_of_ble_eq_true rfl)⟩) rfl (hts (.instanceMethod yX5_init) (List.mem_of_getElem? (i := 22) rfl)) hK hP hD hS hA hN hV rfl hl.1 (Nat.le_of_ble_eq_true rfl) dX10_init_31 ⟨(Nat.le_of_ble_eq_true rfl), (Nat.le_of_ble_eq_true rfl)⟩ (fun a31 H31 locs31 e31 hP' hD' hS' => ?_)
  replace hP : va_P (dC, dI) vwCl (fl [[(h0, .inr (8, [.ref (a9 0), .ref (a20 0), .null, .int 0, .null, .null, .null]))], (w_X5 a9 0 cs zz5), (w_X5 a20 0 cs zz5), (w_X5 a31 0 cs zz5)]) H31 := hP'
  replace hD : va_D A (fl [[(h0, .inr (8, [.ref (a9 0), .ref (a20 0), .null, .int 0, .null, .null, .null]))], (w_X5 a9 0 cs zz5), (w_X5 a20 0 cs zz5), (w_X5 a31 0 cs zz5)]) := hD'
  replace hS := hS'
  clear hP' hD' hS'
  subst e31
  refine va_putF (D := (dC, dI)) (ci := 8) (v := .ref (a31 0)) (ty := .object "DockedBikes$Road") (C := RX10) (T := TX10) (N := 7) hx hb hts hinX10 tyX10 tyX10_ok nmX10 hown hK hP hD hS 0 rfl rfl 2 (by decide) (hts (.fieldLink RX10 19 "DockedBikes" "snapshot" "LDockedBikes$Road;") (List.mem_of_getElem? (i := 9) rfl)) (fun _ h9 => h9) rfl hin rfl (by decide +kernel) rfl rfl (Nat.le_of_ble_eq_true rfl) dX10_init_34 (fun H34 locs34 hP' hD' hS' => ?_)
  replace hP : va_P (dC, dI) vwCl (fl [[(h0, .inr (8, [.ref (a9 0), .ref (a20 0), .ref (a31 0), .int 0, .null, .null, .null]))], (w_X5 a9 0 cs zz5), (w_X5 a20 0 cs zz5), (w_X5 a31 0 cs zz5)]) H34 := hP'
  replace hD : va_D A (fl [[(h0, .inr (8, [.ref (a9 0), .ref (a20 0), .ref (a31 0), .int 0, .null, .null, .null]))], (w_X5 a9 0 cs zz5), (w_X5 a20 0 cs zz5), (w_X5 a31 0 cs zz5)]) := hD'
  replace hS := hS'
  clear hP' hD' hS'
  refine lv_aload_n hx hb dX10_init_37 rfl (lv_at hl 0 rfl) ?_
  refine va_new (ci := 2) (fs := [.int 0, .null, .int 0]) (C := RX3) (T := TX3) (N := 3) hx hb hts hinX3 tyX3 tyX3_ok hown (hts (.classLink RX10 22 RX3) (List.mem_of_getElem? (i := 10) rfl)) (hts (.instantiable RX3 3) (List.mem_of_getElem? (i := 11) rfl)) (hts (.initialized RX3) (List.mem_of_getElem? (i := 12) rfl)) hK hP hD hS hA rfl (fun j hj => by rcases (show j = 0 ∨ j = 1 ∨ j = 2 by omega) with rfl | rfl | rfl <;> rfl) (Nat.le_of_ble_eq_true rfl) (Nat.le_of_ble_eq_true rfl) dX10_init_38 (fun q38 H38 hP' hD' hS' => ?_)
  rw [fl_push] at hP' hD'
  replace hP : va_P (dC, dI) vwCl (fl [[(h0, .inr (8, [.ref (a9 0), .ref (a20 0), .ref (a31 0), .int 0, .null, .null, .null]))], (w_X5 a9 0 cs zz5), (w_X5 a20 0 cs zz5), (w_X5 a31 0 cs zz5), [(q38, .inr (2, [.int 0, .null, .int 0]))]]) H38 := hP'
  replace hD : va_D A (fl [[(h0, .inr (8, [.ref (a9 0), .ref (a20 0), .ref (a31 0), .int 0, .null, .null, .null]))], (w_X5 a9 0 cs zz5), (w_X5 a20 0 cs zz5), (w_X5 a31 0 cs zz5), [(q38, .inr (2, [.int 0, .null, .int 0]))]]) := hD'
  replace hS := hS'
  clear hP' hD' hS'
  refine lv_dup hx hb dX10_init_41 rfl ?_
  refine cl_new (ci := 2) (fs := [.int 0, .null, .int 0]) (L := [[(h0, .inr (8, [.ref (a9 0), .ref (a20 0), .ref (a31 0), .int 0, .null, .null, .null]))], (w_X5 a9 0 cs zz5), (w_X5 a20 0 cs zz5), (w_X5 a31 0 cs zz5)]) (Wf := fun ad => (w_X3 ad 0 cs zz3)) ⟨hx, hb, hml, hown, hts⟩ (k_X3_init l dC dI cs en q38 H38.size) (va_cnB 0 hts gX10_init_X3_init_n24 rfl rfl rfl hN.1.2.1 (hts (.initialized RX3) (List.mem_of_getElem? (i := 12) rfl)) (by decide +kernel) ⟨(Nat.le_of_ble_eq_true rfl), (Nat.le_of_ble_eq_true rfl)⟩) rfl (hts (.instanceMethod yX3_init) (List.mem_of_getElem? (i := 77) rfl)) hK hP hD hS hA hN hV rfl hl.1 (Nat.le_of_ble_eq_true rfl) dX10_init_42 ⟨(Nat.le_of_ble_eq_true rfl), (Nat.le_of_ble_eq_true rfl)⟩ (fun a42 H42 locs42 e42 hP' hD' hS' => ?_)
  replace hP : va_P (dC, dI) vwCl (fl [[(h0, .inr (8, [.ref (a9 0), .ref (a20 0), .ref (a31 0), .int 0, .null, .null, .null]))], (w_X5 a9 0 cs zz5), (w_X5 a20 0 cs zz5), (w_X5 a31 0 cs zz5), (w_X3 a42 0 cs zz3)]) H42 := hP'
  replace hD : va_D A (fl [[(h0, .inr (8, [.ref (a9 0), .ref (a20 0), .ref (a31 0), .int 0, .null, .null, .null]))], (w_X5 a9 0 cs zz5), (w_X5 a20 0 cs zz5), (w_X5 a31 0 cs zz5), (w_X3 a42 0 cs zz3)]) := hD'
  replace hS := hS'
  clear hP' hD' hS'
  subst e42
  refine va_putF (D := (dC, dI)) (ci := 8) (v := .ref (a42 0)) (ty := .object "DockedBikes$History") (C := RX10) (T := TX10) (N := 7) hx hb hts hinX10 tyX10 tyX10_ok nmX10 hown hK hP hD hS 0 rfl rfl 4 (by decide) (hts (.fieldLink RX10 25 "DockedBikes" "history" "LDockedBikes$History;") (List.mem_of_getElem? (i := 13) rfl)) (fun _ h9 => h9) rfl hin rfl (by decide +kernel) rfl rfl (Nat.le_of_ble_eq_true rfl) dX10_init_45 (fun H45 locs45 hP' hD' hS' => ?_)
  replace hP : va_P (dC, dI) vwCl (fl [[(h0, .inr (8, [.ref (a9 0), .ref (a20 0), .ref (a31 0), .int 0, .ref (a42 0), .null, .null]))], (w_X5 a9 0 cs zz5), (w_X5 a20 0 cs zz5), (w_X5 a31 0 cs zz5), (w_X3 a42 0 cs zz3)]) H45 := hP'
  replace hD : va_D A (fl [[(h0, .inr (8, [.ref (a9 0), .ref (a20 0), .ref (a31 0), .int 0, .ref (a42 0), .null, .null]))], (w_X5 a9 0 cs zz5), (w_X5 a20 0 cs zz5), (w_X5 a31 0 cs zz5), (w_X3 a42 0 cs zz3)]) := hD'
  replace hS := hS'
  clear hP' hD' hS'
  refine lv_aload_n hx hb dX10_init_48 rfl (lv_at hl 0 rfl) ?_
  refine va_new (ci := 1) (fs := [.int 0, .int 0, .int 0, .int 0, .null, .null]) (C := RX2) (T := TX2) (N := 6) hx hb hts hinX2 tyX2 tyX2_ok hown (hts (.classLink RX10 29 RX2) (List.mem_of_getElem? (i := 14) rfl)) (hts (.instantiable RX2 6) (List.mem_of_getElem? (i := 15) rfl)) (hts (.initialized RX2) (List.mem_of_getElem? (i := 16) rfl)) hK hP hD hS hA rfl (fun j hj => by rcases (show j = 0 ∨ j = 1 ∨ j = 2 ∨ j = 3 ∨ j = 4 ∨ j = 5 by omega) with rfl | rfl | rfl | rfl | rfl | rfl <;> rfl) (Nat.le_of_ble_eq_true rfl) (Nat.le_of_ble_eq_true rfl) dX10_init_49 (fun q49 H49 hP' hD' hS' => ?_)
  rw [fl_push] at hP' hD'
  replace hP : va_P (dC, dI) vwCl (fl [[(h0, .inr (8, [.ref (a9 0), .ref (a20 0), .ref (a31 0), .int 0, .ref (a42 0), .null, .null]))], (w_X5 a9 0 cs zz5), (w_X5 a20 0 cs zz5), (w_X5 a31 0 cs zz5), (w_X3 a42 0 cs zz3), [(q49, .inr (1, [.int 0, .int 0, .int 0, .int 0, .null, .null]))]]) H49 := hP'
  replace hD : va_D A (fl [[(h0, .inr (8, [.ref (a9 0), .ref (a20 0), .ref (a31 0), .int 0, .ref (a42 0), .null, .null]))], (w_X5 a9 0 cs zz5), (w_X5 a20 0 cs zz5), (w_X5 a31 0 cs zz5), (w_X3 a42 0 cs zz3), [(q49, .inr (1, [.int 0, .int 0, .int 0, .int 0, .null, .null]))]]) := hD'
  replace hS := hS'
  clear hP' hD' hS'
  refine lv_dup hx hb dX10_init_52 rfl ?_
  refine cl_new (ci := 1) (fs := [.int 0, .int 0, .int 0, .int 0, .null, .null]) (L := [[(h0, .inr (8, [.ref (a9 0), .ref (a20 0), .ref (a31 0), .int 0, .ref (a42 0), .null, .null]))], (w_X5 a9 0 cs zz5), (w_X5 a20 0 cs zz5), (w_X5 a31 0 cs zz5), (w_X3 a42 0 cs zz3)]) (Wf := fun ad => (w_X2 ad 0 cs zz2)) ⟨hx, hb, hml, hown, hts⟩ (k_X2_init l dC dI cs en q49 H49.size) (va_cnB 0 hts gX10_init_X2_init_n31 rfl rfl rfl hN.1.2.2.1 (hts (.initialized RX2) (List.mem_of_getElem? (i := 16) rfl)) (by decide +kernel) ⟨(Nat.le_of_ble_eq_true rfl), (Nat.le_of_ble_eq_true rfl)⟩) rfl (hts (.instanceMethod yX2_init) (List.mem_of_getElem? (i := 82) rfl)) hK hP hD hS hA hN hV rfl hl.1 (Nat.le_of_ble_eq_true rfl) dX10_init_53 ⟨(Nat.le_of_ble_eq_true rfl), (Nat.le_of_ble_eq_true rfl)⟩ (fun a53 H53 locs53 e53 hP' hD' hS' => ?_)
  replace hP : va_P (dC, dI) vwCl (fl [[(h0, .inr (8, [.ref (a9 0), .ref (a20 0), .ref (a31 0), .int 0, .ref (a42 0), .null, .null]))], (w_X5 a9 0 cs zz5), (w_X5 a20 0 cs zz5), (w_X5 a31 0 cs zz5), (w_X3 a42 0 cs zz3), (w_X2 a53 0 cs zz2)]) H53 := hP'
  replace hD : va_D A (fl [[(h0, .inr (8, [.ref (a9 0), .ref (a20 0), .ref (a31 0), .int 0, .ref (a42 0), .null, .null]))], (w_X5 a9 0 cs zz5), (w_X5 a20 0 cs zz5), (w_X5 a31 0 cs zz5), (w_X3 a42 0 cs zz3), (w_X2 a53 0 cs zz2)]) := hD'
  replace hS := hS'
  clear hP' hD' hS'
  subst e53
  refine va_putF (D := (dC, dI)) (ci := 8) (v := .ref (a53 0)) (ty := .object "DockedBikes$Filling") (C := RX10) (T := TX10) (N := 7) hx hb hts hinX10 tyX10 tyX10_ok nmX10 hown hK hP hD hS 0 rfl rfl 5 (by decide) (hts (.fieldLink RX10 32 "DockedBikes" "filling" "LDockedBikes$Filling;") (List.mem_of_getElem? (i := 17) rfl)) (fun _ h9 => h9) rfl hin rfl (by decide +kernel) rfl rfl (Nat.le_of_ble_eq_true rfl) dX10_init_56 (fun H56 locs56 hP' hD' hS' => ?_)
  replace hP : va_P (dC, dI) vwCl (fl [[(h0, .inr (8, [.ref (a9 0), .ref (a20 0), .ref (a31 0), .int 0, .ref (a42 0), .ref (a53 0), .null]))], (w_X5 a9 0 cs zz5), (w_X5 a20 0 cs zz5), (w_X5 a31 0 cs zz5), (w_X3 a42 0 cs zz3), (w_X2 a53 0 cs zz2)]) H56 := hP'
  replace hD : va_D A (fl [[(h0, .inr (8, [.ref (a9 0), .ref (a20 0), .ref (a31 0), .int 0, .ref (a42 0), .ref (a53 0), .null]))], (w_X5 a9 0 cs zz5), (w_X5 a20 0 cs zz5), (w_X5 a31 0 cs zz5), (w_X3 a42 0 cs zz3), (w_X2 a53 0 cs zz2)]) := hD'
  replace hS := hS'
  clear hP' hD' hS'
  refine lv_aload_n hx hb dX10_init_59 rfl (lv_at hl 0 rfl) ?_
  refine va_new (ci := 6) (fs := [.int 0, .int 0, .int 0, .int 0, .int 0, .null, .null, .null, .int 0]) (C := RX7) (T := TX7) (N := 9) hx hb hts hinX7 tyX7 tyX7_ok hown (hts (.classLink RX10 36 RX7) (List.mem_of_getElem? (i := 18) rfl)) (hts (.instantiable RX7 9) (List.mem_of_getElem? (i := 19) rfl)) (hts (.initialized RX7) (List.mem_of_getElem? (i := 20) rfl)) hK hP hD hS hA rfl (fun j hj => by rcases (show j = 0 ∨ j = 1 ∨ j = 2 ∨ j = 3 ∨ j = 4 ∨ j = 5 ∨ j = 6 ∨ j = 7 ∨ j = 8 by omega) with rfl | rfl | rfl | rfl | rfl | rfl | rfl | rfl | rfl <;> rfl) (Nat.le_of_ble_eq_true rfl) (Nat.le_of_ble_eq_true rfl) dX10_init_60 (fun q60 H60 hP' hD' hS' => ?_)
  rw [fl_push] at hP' hD'
  replace hP : va_P (dC, dI) vwCl (fl [[(h0, .inr (8, [.ref (a9 0), .ref (a20 0), .ref (a31 0), .int 0, .ref (a42 0), .ref (a53 0), .null]))], (w_X5 a9 0 cs zz5), (w_X5 a20 0 cs zz5), (w_X5 a31 0 cs zz5), (w_X3 a42 0 cs zz3), (w_X2 a53 0 cs zz2), [(q60, .inr (6, [.int 0, .int 0, .int 0, .int 0, .int 0, .null, .null, .null, .int 0]))]]) H60 := hP'
  replace hD : va_D A (fl [[(h0, .inr (8, [.ref (a9 0), .ref (a20 0), .ref (a31 0), .int 0, .ref (a42 0), .ref (a53 0), .null]))], (w_X5 a9 0 cs zz5), (w_X5 a20 0 cs zz5), (w_X5 a31 0 cs zz5), (w_X3 a42 0 cs zz3), (w_X2 a53 0 cs zz2), [(q60, .inr (6, [.int 0, .int 0, .int 0, .int 0, .int 0, .null, .null, .null, .int 0]))]]) := hD'
  replace hS := hS'
  clear hP' hD' hS'
  refine lv_dup hx hb dX10_init_63 rfl ?_
  refine cl_new (ci := 6) (fs := [.int 0, .int 0, .int 0, .int 0, .int 0, .null, .null, .null, .int 0]) (L := [[(h0, .inr (8, [.ref (a9 0), .ref (a20 0), .ref (a31 0), .int 0, .ref (a42 0), .ref (a53 0), .null]))], (w_X5 a9 0 cs zz5), (w_X5 a20 0 cs zz5), (w_X5 a31 0 cs zz5), (w_X3 a42 0 cs zz3), (w_X2 a53 0 cs zz2)]) (Wf := fun ad => (w_X7 ad 0 cs en zz7)) ⟨hx, hb, hml, hown, hts⟩ (k_X7_init l dC dI cs en q60 H60.size) (va_cnB 0 hts gX10_init_X7_init_n38 rfl rfl rfl hN.1.2.2.2 (hts (.initialized RX7) (List.mem_of_getElem? (i := 20) rfl)) (by decide +kernel) ⟨(Nat.le_of_ble_eq_true rfl), (Nat.le_of_ble_eq_true rfl)⟩) rfl (hts (.instanceMethod yX7_init) (List.mem_of_getElem? (i := 87) rfl)) hK hP hD hS hA hN hV rfl hl.1 (Nat.le_of_ble_eq_true rfl) dX10_init_64 ⟨(Nat.le_of_ble_eq_true rfl), (Nat.le_of_ble_eq_true rfl)⟩ (fun a64 H64 locs64 e64 hP' hD' hS' => ?_)
  replace hP : va_P (dC, dI) vwCl (fl [[(h0, .inr (8, [.ref (a9 0), .ref (a20 0), .ref (a31 0), .int 0, .ref (a42 0), .ref (a53 0), .null]))], (w_X5 a9 0 cs zz5), (w_X5 a20 0 cs zz5), (w_X5 a31 0 cs zz5), (w_X3 a42 0 cs zz3), (w_X2 a53 0 cs zz2), (w_X7 a64 0 cs en zz7)]) H64 := hP'
  replace hD : va_D A (fl [[(h0, .inr (8, [.ref (a9 0), .ref (a20 0), .ref (a31 0), .int 0, .ref (a42 0), .ref (a53 0), .null]))], (w_X5 a9 0 cs zz5), (w_X5 a20 0 cs zz5), (w_X5 a31 0 cs zz5), (w_X3 a42 0 cs zz3), (w_X2 a53 0 cs zz2), (w_X7 a64 0 cs en zz7)]) := hD'
  replace hS := hS'
  clear hP' hD' hS'
  subst e64
  refine va_putF (D := (dC, dI)) (ci := 8) (v := .ref (a64 0)) (ty := .object "DockedBikes$Text") (C := RX10) (T := TX10) (N := 7) hx hb hts hinX10 tyX10 tyX10_ok nmX10 hown hK hP hD hS 0 rfl rfl 6 (by decide) (hts (.fieldLink RX10 39 "DockedBikes" "text" "LDockedBikes$Text;") (List.mem_of_getElem? (i := 21) rfl)) (fun _ h9 => h9) rfl hin rfl (by decide +kernel) rfl rfl (Nat.le_of_ble_eq_true rfl) dX10_init_67 (fun H67 locs67 hP' hD' hS' => ?_)
  replace hP : va_P (dC, dI) vwCl (fl [[(h0, .inr (8, [.ref (a9 0), .ref (a20 0), .ref (a31 0), .int 0, .ref (a42 0), .ref (a53 0), .ref (a64 0)]))], (w_X5 a9 0 cs zz5), (w_X5 a20 0 cs zz5), (w_X5 a31 0 cs zz5), (w_X3 a42 0 cs zz3), (w_X2 a53 0 cs zz2), (w_X7 a64 0 cs en zz7)]) H67 := hP'
  replace hD : va_D A (fl [[(h0, .inr (8, [.ref (a9 0), .ref (a20 0), .ref (a31 0), .int 0, .ref (a42 0), .ref (a53 0), .ref (a64 0)]))], (w_X5 a9 0 cs zz5), (w_X5 a20 0 cs zz5), (w_X5 a31 0 cs zz5), (w_X3 a42 0 cs zz3), (w_X2 a53 0 cs zz2), (w_X7 a64 0 cs en zz7)]) := hD'
  replace hS := hS'
  clear hP' hD' hS'
  obtain ⟨ad, had⟩ : ∃ ad : Nat → Nat, ad = fun k => if k < 1 then h0 else if k < 29 then a9 (k - 1) else if k < 57 then a20 (k - 29) else if k < 85 then a31 (k - 57) else if k < 199 then a42 (k - 85) else if k < 202 then a53 (k - 199) else a64 (k - 202) := ⟨_, rfl⟩
  have w1 : (w_X5 a9 0 cs zz5) = (w_X5 ad 1 cs zz5) := sh_X5 (fun k hk => by rw [had]; show a9 (0 + k) = if (1 + k) < 1 then h0 else if (1 + k) < 29 then a9 ((1 + k) - 1) else if (1 + k) < 57 then a20 ((1 + k) - 29) else if (1 + k) < 85 then a31 ((1 + k) - 57) else if (1 + k) < 199 then a42 ((1 + k) - 85) else if (1 + k) < 202 then a53 ((1 + k) - 199) else a64 ((1 + k) - 202); rw [if_neg (by omega), if_pos (by omega)]; exact congrArg a9 (by omega))
  have w29 : (w_X5 a20 0 cs zz5) = (w_X5 ad 29 cs zz5) := sh_X5 (fun k hk => by rw [had]; show a20 (0 + k) = if (29 + k) < 1 then h0 else if (29 + k) < 29 then a9 ((29 + k) - 1) else if (29 + k) < 57 then a20 ((29 + k) - 29) else if (29 + k) < 85 then a31 ((29 + k) - 57) else if (29 + k) < 199 then a42 ((29 + k) - 85) else if (29 + k) < 202 then a53 ((29 + k) - 199) else a64 ((29 + k) - 202); rw [if_neg (by omega), if_neg (by omega), if_pos (by omega)]; exact congrArg a20 (by omega))
  have w57 : (w_X5 a31 0 cs zz5) = (w_X5 ad 57 cs zz5) := sh_X5 (fun k hk => by rw [had]; show a31 (0 + k) = if (57 + k) < 1 then h0 else if (57 + k) < 29 then a9 ((57 + k) - 1) else if (57 + k) < 57 then a20 ((57 + k) - 29) else if (57 + k) < 85 then a31 ((57 + k) - 57) else if (57 + k) < 199 then a42 ((57 + k) - 85) else if (57 + k) < 202 then a53 ((57 + k) - 199) else a64 ((57 + k) - 202); rw [if_neg (by omega), if_neg (by omega), if_neg (by omega), if_pos (by omega)]; exact congrArg a31 (by omega))
  have w85 : (w_X3f a42 0 cs zz3 (fun k => some (a42 (0 + 2 + 28 * k)))) = (w_X3f ad 85 cs zz3 (fun k => some (a42 (0 + 2 + 28 * k)))) := sh_X3f (fun k hk => by rw [had]; show a42 (0 + k) = if (85 + k) < 1 then h0 else if (85 + k) < 29 then a9 ((85 + k) - 1) else if (85 + k) < 57 then a20 ((85 + k) - 29) else if (85 + k) < 85 then a31 ((85 + k) - 57) else if (85 + k) < 199 then a42 ((85 + k) - 85) else if (85 + k) < 202 then a53 ((85 + k) - 199) else a64 ((85 + k) - 202); rw [if_neg (by omega), if_neg (by omega), if_neg (by omega), if_neg (by omega), if_pos (by omega)]; exact congrArg a42 (by omega))
  have w199 : (w_X2 a53 0 cs zz2) = (w_X2 ad 199 cs zz2) := sh_X2 (fun k hk => by rw [had]; show a53 (0 + k) = if (199 + k) < 1 then h0 else if (199 + k) < 29 then a9 ((199 + k) - 1) else if (199 + k) < 57 then a20 ((199 + k) - 29) else if (199 + k) < 85 then a31 ((199 + k) - 57) else if (199 + k) < 199 then a42 ((199 + k) - 85) else if (199 + k) < 202 then a53 ((199 + k) - 199) else a64 ((199 + k) - 202); rw [if_neg (by omega), if_neg (by omega), if_neg (by omega), if_neg (by omega), if_neg (by omega), if_pos (by omega)]; exact congrArg a53 (by omega))
  have w202 : (w_X7 a64 0 cs en zz7) = (w_X7 ad 202 cs en zz7) := sh_X7 (fun k hk => by rw [had]; show a64 (0 + k) = if (202 + k) < 1 then h0 else if (202 + k) < 29 then a9 ((202 + k) - 1) else if (202 + k) < 57 then a20 ((202 + k) - 29) else if (202 + k) < 85 then a31 ((202 + k) - 57) else if (202 + k) < 199 then a42 ((202 + k) - 85) else if (202 + k) < 202 then a53 ((202 + k) - 199) else a64 ((202 + k) - 202); rw [if_neg (by omega), if_neg (by omega), if_neg (by omega), if_neg (by omega), if_neg (by omega), if_neg (by omega)]; exact congrArg a64 (by omega))
  have hP1 : va_P (dC, dI) vwCl (List.flatten [[(h0, .inr (8, [.ref (a9 0), .ref (a20 0), .ref (a31 0), .int 0, .ref (a42 0), .ref (a53 0), .ref (a64 0)]))], (w_X5 a9 0 cs zz5), (w_X5 a20 0 cs zz5), (w_X5 a31 0 cs zz5), (w_X3f a42 0 cs zz3 (fun k => some (a42 (0 + 2 + 28 * k)))), (w_X2 a53 0 cs zz2), (w_X7 a64 0 cs en zz7)]) H67 := hP
  have hD1 : va_D A (List.flatten [[(h0, .inr (8, [.ref (a9 0), .ref (a20 0), .ref (a31 0), .int 0, .ref (a42 0), .ref (a53 0), .ref (a64 0)]))], (w_X5 a9 0 cs zz5), (w_X5 a20 0 cs zz5), (w_X5 a31 0 cs zz5), (w_X3f a42 0 cs zz3 (fun k => some (a42 (0 + 2 + 28 * k)))), (w_X2 a53 0 cs zz2), (w_X7 a64 0 cs en zz7)]) := hD
  rw [w1, w29, w57, w85, w199, w202] at hP1 hD1
  have hfg : ∀ k, k < 4 → (fun k => some (a42 (0 + 2 + 28 * k))) k = (fun k => some (ad (85 + 2 + 28 * k))) k := fun k hk => by show some (a42 (0 + 2 + 28 * k)) = some (ad (85 + 2 + 28 * k)); rw [had]; refine congrArg some ?_; show a42 (0 + 2 + 28 * k) = if (85 + 2 + 28 * k) < 1 then h0 else if (85 + 2 + 28 * k) < 29 then a9 ((85 + 2 + 28 * k) - 1) else if (85 + 2 + 28 * k) < 57 then a20 ((85 + 2 + 28 * k) - 29) else if (85 + 2 + 28 * k) < 85 then a31 ((85 + 2 + 28 * k) - 57) else if (85 + 2 + 28 * k) < 199 then a42 ((85 + 2 + 28 * k) - 85) else if (85 + 2 + 28 * k) < 202 then a53 ((85 + 2 + 28 * k) - 199) else a64 ((85 + 2 + 28 * k) - 202); rw [if_neg (by omega), if_neg (by omega), if_neg (by omega), if_neg (by omega), if_pos (by omega)]; exact congrArg a42 (by omega)
  have hP2 : va_P (dC, dI) vwCl (List.flatten [[(h0, .inr (8, [.ref (a9 0), .ref (a20 0), .ref (a31 0), .int 0, .ref (a42 0), .ref (a53 0), .ref (a64 0)]))], (w_X5 ad 1 cs zz5), (w_X5 ad 29 cs zz5), (w_X5 ad 57 cs zz5), (w_X3f ad 85 cs zz3 (fun k => some (ad (85 + 2 + 28 * k)))), (w_X2 ad 199 cs zz2), (w_X7 ad 202 cs en zz7)]) H67 := by
    rw [va_P_fl] at hP1 ⊢
    simp only [List.forall_mem_cons] at hP1 ⊢
    obtain ⟨g0, g1, g2, g3, g4, g5, g6, g7⟩ := hP1
    exact ⟨g0, g1, g2, g3, w_X3_q hfg g4, g5, g6, g7⟩
  have hm : List.map Prod.fst (w_X3f ad 85 cs zz3 (fun k => some (ad (85 + 2 + 28 * k)))) = List.map Prod.fst (w_X3f ad 85 cs zz3 (fun k => some (a42 (0 + 2 + 28 * k)))) := rfl
  have hD2 : va_D A (List.flatten [[(h0, .inr (8, [.ref (a9 0), .ref (a20 0), .ref (a31 0), .int 0, .ref (a42 0), .ref (a53 0), .ref (a64 0)]))], (w_X5 ad 1 cs zz5), (w_X5 ad 29 cs zz5), (w_X5 ad 57 cs zz5), (w_X3f ad 85 cs zz3 (fun k => some (ad (85 + 2 + 28 * k)))), (w_X2 ad 199 cs zz2), (w_X7 ad 202 cs en zz7)]) := hD1.fst (by simp only [List.map_flatten, List.map_cons, List.map_nil, hm])
  have hPf : va_P (dC, dI) vwCl (w_X10 ad 0 cs en zz10) H67 := by rw [had] at hP2 ⊢; exact hP2
  have hDf : va_D A (w_X10 ad 0 cs en zz10) := by rw [had] at hD2 ⊢; exact hD2
  refine W.widen (k := 205) (n := 1737) (Nat.le_of_ble_eq_true rfl) (Nat.le_of_ble_eq_true rfl) ?_
  exact W.vret hx hb hr (fun t ht hW => ⟨⟨ad, rfl, by rw [had]; rfl, by rw [ht]; exact hPf, va_K.moved hW.alike hK, hDf⟩, hS.F ht⟩) hS.2.2 dX10_init_70
