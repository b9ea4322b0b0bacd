/-! LAW: its loop -/
set_option maxHeartbeats 4000000 in
set_option maxRecDepth 100000 in
theorem law_loop {p : Program} {l : Launch} {e : Env} {s : State} {m : MethodId} {below : List Frame} {meth : Method} {c : Code} {b L : Nat} {xs : Nat → Int32} {dC : Nat → ClassId} {dI : Nat → Nat → Nat} {cs : Nat → ClassId} {aX aM aK aV en : Nat → Nat} {tF tS : Nat} (hL : L ≤ 1536) (C0 : lw_At p s m meth c b L xs) (hK : va_K (dC, dI) vwCl (tyL cs) s) (hE : EX aK aV en tF tS (fun q : Nat => s.heap.size ≤ q) s s.heap) : ∀ (n i : Nat) (X : T5) (σ : T2) (H : Heap) (locs : List Loc) (ls : Array Slot), i ≤ L → L < i + n → Rel X σ → va_P (dC, dI) vwCl (fl [(w_X10 aX (0) cs en X), (w_X11 aM (0) cs σ)]) H → va_D (fun q : Nat => s.heap.size ≤ q) (fl [(w_X10 aX (0) cs en X), (w_X11 aM (0) cs σ)]) → va_S (fun q : Nat => s.heap.size ≤ q) s.heap H locs → lv_has ls 4 [(0, .ref b), (1, .ref (aX 0)), (2, .ref (aM 0)), (3, .int (nI i))] → W p l e room_1 s m #[Value.ref b] below meth c H locs 213 3262 (lw_Z below #[Value.ref b] s) (F0 m 18 ls []) := by
  intro n
  induction n with
  | zero => intro i X σ H locs ls h1 h2; exact absurd h2 (by omega)
  | succ n ih =>
    intro i X σ H locs ls hi hin hRel hP hD hS hl
    obtain ⟨hx, hb, hr, hml, hown, hts0, hX, hbl, hlocks, hgv⟩ := id C0
    have hbA : ¬ (fun q : Nat => s.heap.size ≤ q) b := Nat.not_le.mpr hbl
    refine lv_iload_n hx hb dL_law_18 rfl (lv_at hl 3 rfl) ?_
    refine lv_aload_n hx hb dL_law_19 rfl (lv_at hl 0 rfl) ?_
    refine va_slen hx hb hX hbl hbA hS dL_law_20 ?_
    refine lv_iconst (v := 3) hx hb dL_law_21 ic_3 ?_
    refine lv_isub hx hb dL_law_22 ?_
    refine lv_icmp_gt (tgt := 907) hx hb dL_law_23 (by decide) (fun c23 => ?_) (fun c23 => ?_)
    · refine lv_iconst (v := 1) hx hb dL_law_907 ic_1 ?_
      refine va_forget (fun q hq => hS.2.2 q hq) ?_
      refine W.widen (k := 600000) (n := 7302250) (Nat.le_of_ble_eq_true rfl) (Nat.le_of_ble_eq_true rfl) ?_
      exact lw_ret hx hb hr hlocks dL_law_908
    have hi3 : i + 3 ≤ L := law_far hL hi c23
    have kk : ∀ (X' : T5) (σ' : T2) (H1 : Heap) (locs1 : List Loc), Rel X' σ' → va_P (dC, dI) vwCl (fl [(w_X10 aX (0) cs en X'), (w_X11 aM (0) cs σ')]) H1 → va_D (fun q : Nat => s.heap.size ≤ q) (fl [(w_X10 aX (0) cs en X'), (w_X11 aM (0) cs σ')]) → va_S (fun q : Nat => s.heap.size ≤ q) s.heap H1 locs1 → W p l e room_1 s m #[Value.ref b] below meth c H1 locs1 213 3262 (lw_Z below #[Value.ref b] s) (F0 m 901 ls []) := by
      intro X' σ' H1 locs1 hRel' hP' hD' hS'
      refine lv_iinc (v := nI (i + 3)) (lv' := [(3, .int (nI (i + 3))), (0, .ref b), (1, .ref (aX 0)), (2, .ref (aM 0))]) hx hb dL_law_901 hl (k := 3) rfl (nI_add i 3) (Nat.le_of_ble_eq_true rfl) rfl (fun ls hl => ?_)
      refine lv_goto (tgt := 18) hx hb dL_law_904 (by decide) ?_
      exact ih (i + 3) X' σ' H1 _ ls hi3 (by omega) hRel' hP' hD' hS' (lv_sub hl [1, 2, 3, 0] rfl)
    refine lv_aload_n hx hb dL_law_26 rfl (lv_at hl 0 rfl) ?_
    refine lv_iload_n hx hb dL_law_27 rfl (lv_at hl 3 rfl) ?_
    refine va_sld hx hb hX hbl hbA hS (vp_in_nI (by omega) (by omega)) dL_law_28 ?_
    refine lv_bipush (v := 31) hx hb dL_law_29 bp_31 ?_
    refine lv_iand hx hb dL_law_31 ?_
    obtain ⟨v, hv⟩ : ∃ v : Int32, v = xs (nI i).toNatClampNeg &&& 31 := ⟨_, rfl⟩
    rw [← hv]
    by_cases c_0 : v = 0
    · refine lv_tableIn (off := 132) (tgt := 164) hx hb dL_law_32 (by rw [c_0]; decide) (by rw [c_0]; decide) (by rw [c_0]; rfl) (by decide) ?_
      exact law_station C0 hL hK hi3 hRel hP hD hS hl kk
    by_cases c_1 : v = 1
    · refine lv_tableIn (off := 165) (tgt := 197) hx hb dL_law_32 (by rw [c_1]; decide) (by rw [c_1]; decide) (by rw [c_1]; rfl) (by decide) ?_
      exact law_bicycle C0 hL hK hi3 hRel hP hD hS hl kk
    by_cases c_2 : v = 2
    · refine lv_tableIn (off := 188) (tgt := 220) hx hb dL_law_32 (by rw [c_2]; decide) (by rw [c_2]; decide) (by rw [c_2]; rfl) (by decide) ?_
      exact law_rider C0 hL hK hi3 hRel hP hD hS hl kk
    by_cases c_3 : v = 3
    · refine lv_tableIn (off := 201) (tgt := 233) hx hb dL_law_32 (by rw [c_3]; decide) (by rw [c_3]; decide) (by rw [c_3]; rfl) (by decide) ?_
      exact law_van C0 hL hK hi3 hRel hP hD hS hl kk
    by_cases c_4 : v = 4
    · refine lv_tableIn (off := 234) (tgt := 266) hx hb dL_law_32 (by rw [c_4]; decide) (by rw [c_4]; decide) (by rw [c_4]; rfl) (by decide) ?_
      exact law_pass C0 hL hK hi3 hRel hP hD hS hl kk
    by_cases c_5 : v = 5
    · refine lv_tableIn (off := 257) (tgt := 289) hx hb dL_law_32 (by rw [c_5]; decide) (by rw [c_5]; decide) (by rw [c_5]; rfl) (by decide) ?_
      exact law_rent C0 hL hK hi3 hRel hP hD hS hl kk
    by_cases c_6 : v = 6
    · refine lv_tableIn (off := 290) (tgt := 322) hx hb dL_law_32 (by rw [c_6]; decide) (by rw [c_6]; decide) (by rw [c_6]; rfl) (by decide) ?_
      exact law_back C0 hL hK hi3 hRel hP hD hS hl kk
    by_cases c_7 : v = 7
    · refine lv_tableIn (off := 323) (tgt := 355) hx hb dL_law_32 (by rw [c_7]; decide) (by rw [c_7]; decide) (by rw [c_7]; rfl) (by decide) ?_
      exact law_full C0 hL hK hi3 hRel hP hD hS hl kk
    by_cases c_8 : v = 8
    · refine lv_tableIn (off := 356) (tgt := 388) hx hb dL_law_32 (by rw [c_8]; decide) (by rw [c_8]; decide) (by rw [c_8]; rfl) (by decide) ?_
      exact law_report C0 hL hK hi3 hRel hP hD hS hl kk
    by_cases c_9 : v = 9
    · refine lv_tableIn (off := 379) (tgt := 411) hx hb dL_law_32 (by rw [c_9]; decide) (by rw [c_9]; decide) (by rw [c_9]; rfl) (by decide) ?_
      exact law_take C0 hL hK hi3 hRel hP hD hS hl kk
    by_cases c_10 : v = 10
    · refine lv_tableIn (off := 412) (tgt := 444) hx hb dL_law_32 (by rw [c_10]; decide) (by rw [c_10]; decide) (by rw [c_10]; rfl) (by decide) ?_
      exact law_put C0 hL hK hi3 hRel hP hD hS hl kk
    by_cases c_11 : v = 11
    · refine lv_tableIn (off := 445) (tgt := 477) hx hb dL_law_32 (by rw [c_11]; decide) (by rw [c_11]; decide) (by rw [c_11]; rfl) (by decide) ?_
      exact law_go C0 hL hK hi3 hRel hP hD hS hl kk
    by_cases c_12 : v = 12
    · refine lv_tableIn (off := 478) (tgt := 510) hx hb dL_law_32 (by rw [c_12]; decide) (by rw [c_12]; decide) (by rw [c_12]; rfl) (by decide) ?_
      exact law_mend C0 hL hK hi3 hRel hP hD hS hl kk
    by_cases c_13 : v = 13
    · refine lv_tableIn (off := 511) (tgt := 543) hx hb dL_law_32 (by rw [c_13]; decide) (by rw [c_13]; decide) (by rw [c_13]; rfl) (by decide) ?_
      exact law_pause C0 hL hK hi3 hRel hP hD hS hl kk
    by_cases c_14 : v = 14
    · refine lv_tableIn (off := 534) (tgt := 566) hx hb dL_law_32 (by rw [c_14]; decide) (by rw [c_14]; decide) (by rw [c_14]; rfl) (by decide) ?_
      exact law_set C0 hL hK hi3 hRel hP hD hS hl kk
    by_cases c_15 : v = 15
    · refine lv_tableIn (off := 567) (tgt := 599) hx hb dL_law_32 (by rw [c_15]; decide) (by rw [c_15]; decide) (by rw [c_15]; rfl) (by decide) ?_
      exact law_stationOf C0 hL hK hi3 hRel hP hD hS hl kk
    by_cases c_16 : v = 16
    · refine lv_tableIn (off := 600) (tgt := 632) hx hb dL_law_32 (by rw [c_16]; decide) (by rw [c_16]; decide) (by rw [c_16]; rfl) (by decide) ?_
      exact law_bicycleOf C0 hL hK hi3 hRel hP hD hS hl kk
    by_cases c_17 : v = 17
    · refine lv_tableIn (off := 633) (tgt := 665) hx hb dL_law_32 (by rw [c_17]; decide) (by rw [c_17]; decide) (by rw [c_17]; rfl) (by decide) ?_
      exact law_riderOf C0 hL hK hi3 hRel hP hD hS hl kk
    by_cases c_18 : v = 18
    · refine lv_tableIn (off := 666) (tgt := 698) hx hb dL_law_32 (by rw [c_18]; decide) (by rw [c_18]; decide) (by rw [c_18]; rfl) (by decide) ?_
      exact law_vanOf C0 hL hK hi3 hRel hP hD hS hl kk
    by_cases c_19 : v = 19
    · refine lv_tableIn (off := 699) (tgt := 731) hx hb dL_law_32 (by rw [c_19]; decide) (by rw [c_19]; decide) (by rw [c_19]; rfl) (by decide) ?_
      exact law_count C0 hL hK hi3 hRel hP hD hS hl kk
    by_cases c_20 : v = 20
    · refine lv_tableIn (off := 722) (tgt := 754) hx hb dL_law_32 (by rw [c_20]; decide) (by rw [c_20]; decide) (by rw [c_20]; rfl) (by decide) ?_
      exact law_move C0 hL hK hi3 hRel hP hD hS hl kk
    by_cases c_21 : v = 21
    · refine lv_tableIn (off := 745) (tgt := 777) hx hb dL_law_32 (by rw [c_21]; decide) (by rw [c_21]; decide) (by rw [c_21]; rfl) (by decide) ?_
      exact law_evening C0 hL hK hi3 hRel hP hD hS hl kk
    by_cases c_22 : v = 22
    · refine lv_tableIn (off := 758) (tgt := 790) hx hb dL_law_32 (by rw [c_22]; decide) (by rw [c_22]; decide) (by rw [c_22]; rfl) (by decide) ?_
      exact law_keep C0 hL hK hi3 hRel hP hD hS hl kk
    by_cases c_23 : v = 23
    · refine lv_tableIn (off := 771) (tgt := 803) hx hb dL_law_32 (by rw [c_23]; decide) (by rw [c_23]; decide) (by rw [c_23]; rfl) (by decide) ?_
      exact law_restore C0 hL hK hi3 hRel hP hD hS hl kk
    by_cases c_24 : v = 24
    · refine lv_tableIn (off := 784) (tgt := 816) hx hb dL_law_32 (by rw [c_24]; decide) (by rw [c_24]; decide) (by rw [c_24]; rfl) (by decide) ?_
      exact law_undo C0 hL hK hi3 hRel hP hD hS hl kk
    by_cases c_25 : v = 25
    · refine lv_tableIn (off := 797) (tgt := 829) hx hb dL_law_32 (by rw [c_25]; decide) (by rw [c_25]; decide) (by rw [c_25]; rfl) (by decide) ?_
      exact law_type C0 hL hK hi3 hRel hP hD hS hl kk
    by_cases c_26 : v = 26
    · refine lv_tableIn (off := 820) (tgt := 852) hx hb dL_law_32 (by rw [c_26]; decide) (by rw [c_26]; decide) (by rw [c_26]; rfl) (by decide) ?_
      exact law_clearText C0 hL hK hi3 hRel hP hD hS hl kk
    by_cases c_27 : v = 27
    · refine lv_tableIn (off := 833) (tgt := 865) hx hb dL_law_32 (by rw [c_27]; decide) (by rw [c_27]; decide) (by rw [c_27]; rfl) (by decide) ?_
      exact law_fault C0 hL hK hE hi3 hRel hP hD hS hl kk
    by_cases c_28 : v = 28
    · refine lv_tableIn (off := 856) (tgt := 888) hx hb dL_law_32 (by rw [c_28]; decide) (by rw [c_28]; decide) (by rw [c_28]; rfl) (by decide) ?_
      exact law_play C0 hL hK hE hi3 hRel hP hD hS hl kk
    refine lv_tableOut (tgt := 901) hx hb dL_law_32 (by have n0 := lv_neT (a := 0) c_0 rfl; have n1 := lv_neT (a := 1) c_1 rfl; have n2 := lv_neT (a := 2) c_2 rfl; have n3 := lv_neT (a := 3) c_3 rfl; have n4 := lv_neT (a := 4) c_4 rfl; have n5 := lv_neT (a := 5) c_5 rfl; have n6 := lv_neT (a := 6) c_6 rfl; have n7 := lv_neT (a := 7) c_7 rfl; have n8 := lv_neT (a := 8) c_8 rfl; have n9 := lv_neT (a := 9) c_9 rfl; have n10 := lv_neT (a := 10) c_10 rfl; have n11 := lv_neT (a := 11) c_11 rfl; have n12 := lv_neT (a := 12) c_12 rfl; have n13 := lv_neT (a := 13) c_13 rfl; have n14 := lv_neT (a := 14) c_14 rfl; have n15 := lv_neT (a := 15) c_15 rfl; have n16 := lv_neT (a := 16) c_16 rfl; have n17 := lv_neT (a := 17) c_17 rfl; have n18 := lv_neT (a := 18) c_18 rfl; have n19 := lv_neT (a := 19) c_19 rfl; have n20 := lv_neT (a := 20) c_20 rfl; have n21 := lv_neT (a := 21) c_21 rfl; have n22 := lv_neT (a := 22) c_22 rfl; have n23 := lv_neT (a := 23) c_23 rfl; have n24 := lv_neT (a := 24) c_24 rfl; have n25 := lv_neT (a := 25) c_25 rfl; have n26 := lv_neT (a := 26) c_26 rfl; have n27 := lv_neT (a := 27) c_27 rfl; have n28 := lv_neT (a := 28) c_28 rfl; omega) (by decide) ?_
    exact kk X σ H locs hRel hP hD hS
