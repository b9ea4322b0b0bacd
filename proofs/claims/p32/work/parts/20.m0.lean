/-! MATH 0: numbers, indices, bits, counts; the reference's small functions -/
def bt (x : Int32) (i : Nat) : Bool := x.toBitVec.getLsbD i
theorem b_ext {x y : Int32} (h : ∀ i, i < 32 → bt x i = bt y i) : x = y := Int32.toBitVec_inj.mp (BitVec.eq_of_getLsbD_eq (fun i hi => h i hi))
theorem b_or (x y : Int32) (i : Nat) : bt (x ||| y) i = (bt x i || bt y i) := by unfold bt; rw [Int32.toBitVec_or, BitVec.getLsbD_or]
theorem b_and (x y : Int32) (i : Nat) : bt (x &&& y) i = (bt x i && bt y i) := by unfold bt; rw [Int32.toBitVec_and, BitVec.getLsbD_and]
theorem b_xor (x y : Int32) (i : Nat) : bt (x ^^^ y) i = (bt x i ^^ bt y i) := by unfold bt; rw [Int32.toBitVec_xor, BitVec.getLsbD_xor]
theorem b_big {x : Int32} {i : Nat} (h : 32 ≤ i) : bt x i = false := BitVec.getLsbD_of_ge _ _ h
theorem b_0 (i : Nat) : bt 0 i = false := BitVec.getLsbD_zero
theorem s_l : ∀ n, n < 32 → ((nI n &&& 31).toBitVec.smod 32).toNat = n := by decide +kernel
theorem s_u : ∀ n, n < 32 → (((nI n).toUInt32 &&& Int32.toUInt32 31).toBitVec % 32).toNat = n := by decide +kernel
theorem b_shl (n : Nat) (hn : n < 32) (x : Int32) {i : Nat} (hi : i < 32) : bt (x <<< (nI n &&& 31)) i = (decide (n ≤ i) && bt x (i - n)) := by
  unfold bt
  rw [Int32.toBitVec_shiftLeft]
  show (x.toBitVec <<< ((nI n &&& 31).toBitVec.smod 32).toNat).getLsbD i = _
  rw [s_l n hn, BitVec.getLsbD_shiftLeft]
  rcases Nat.lt_or_ge i n with h | h
  · simp [h, Nat.not_le.mpr h]
  · simp [hi, h, Nat.not_lt.mpr h]
theorem b_ushr (n : Nat) (hn : n < 32) (x : Int32) (i : Nat) : bt ((x.toUInt32 >>> ((nI n).toUInt32 &&& Int32.toUInt32 31)).toInt32) i = bt x (n + i) := by
  show (x.toUInt32 >>> ((nI n).toUInt32 &&& Int32.toUInt32 31)).toBitVec.getLsbD i = x.toUInt32.toBitVec.getLsbD (n + i)
  rw [UInt32.toBitVec_shiftRight]
  show (x.toUInt32.toBitVec >>> (((nI n).toUInt32 &&& Int32.toUInt32 31).toBitVec % 32).toNat).getLsbD i = _
  rw [s_u n hn, BitVec.getLsbD_ushiftRight]
theorem b_sshr (n : Nat) (hn : n < 32) (x : Int32) {i : Nat} (hi : i < 32) : bt (x >>> (nI n &&& 31)) i = if n + i < 32 then bt x (n + i) else bt x 31 := by
  unfold bt
  rw [Int32.toBitVec_shiftRight]
  show (x.toBitVec.sshiftRight ((nI n &&& 31).toBitVec.smod 32).toNat).getLsbD i = _
  rw [s_l n hn, BitVec.getLsbD_sshiftRight, BitVec.msb_eq_getLsbD_last]
  simp [hi]
theorem cl_nI {n : Nat} (h : n < 2 ^ 31) : (nI n).toNatClampNeg = n := nI_clamp h
theorem gi_nI {β : Type} {i n : Nat} {x : Option β} (h : i < n) (hn : n < 2 ^ 31) : gi (nI i) n x = x := gi_s (vp_in_nI h hn)
theorem ixs (a b k w : Nat) : nI a + nI b * nI k + nI w = nI (a + b * k + w) := by rw [pk_mul, nI_add, nI_add]
theorem leN {a b : Nat} (ha : a < 2 ^ 31) (hb : b < 2 ^ 31) : (nI a ≤ nI b) = (a ≤ b) := propext (nI_leI ha hb)
theorem ltN {a b : Nat} (ha : a < 2 ^ 31) (hb : b < 2 ^ 31) : (nI a < nI b) = (a < b) := propext (nI_ltI ha hb)
theorem eqN {a b : Nat} (ha : a < 2 ^ 31) (hb : b < 2 ^ 31) : (nI a = nI b) = (a = b) := propext (nI_eq ha hb)
theorem ngN {a : Nat} (ha : a < 2 ^ 31) : (nI a < 0) = False := eq_false (nI_pos ha)
theorem bn_s {α β : Type} {x : α} {k : α → Option β} : bn x k = k x := rfl
theorem ne10 : ¬ (1 : Int32) = 0 := by decide
theorem i10 : ((1 : Int32) = 0) = False := eq_false (by decide)
theorem i00 : ((0 : Int32) = 0) = True := eq_true rfl
theorem i01 : ((0 : Int32) = 1) = False := eq_false (by decide)
theorem i11 : ((1 : Int32) = 1) = True := eq_true rfl
theorem sU_sU {α : Type} {f : Nat → α} {i : Nat} {a b : α} : sU (sU f i a) i b = sU f i b := by
  funext j
  by_cases h : j = i <;> simp [sU, h]
theorem sU_id {α : Type} {f : Nat → α} {i : Nat} : sU f i (f i) = f := by
  funext j
  by_cases h : j = i
  · rw [h, sU_s]
  · rw [sU_n h]
theorem ixS0 (k : Nat) : ((8 : Int32) + ((4 : Int32) * nI k)) + 0 = nI (8 + 4 * k) := ixs 8 4 k 0
theorem ixS1 (k : Nat) : ((8 : Int32) + ((4 : Int32) * nI k)) + 1 = nI (8 + 4 * k + 1) := ixs 8 4 k 1
theorem ixS2 (k : Nat) : ((8 : Int32) + ((4 : Int32) * nI k)) + 2 = nI (8 + 4 * k + 2) := ixs 8 4 k 2
theorem ixS3 (k : Nat) : ((8 : Int32) + ((4 : Int32) * nI k)) + 3 = nI (8 + 4 * k + 3) := ixs 8 4 k 3
theorem ixB0 (k : Nat) : ((32 : Int32) + ((6 : Int32) * nI k)) + 0 = nI (32 + 6 * k) := ixs 32 6 k 0
theorem ixB1 (k : Nat) : ((32 : Int32) + ((6 : Int32) * nI k)) + 1 = nI (32 + 6 * k + 1) := ixs 32 6 k 1
theorem ixB2 (k : Nat) : ((32 : Int32) + ((6 : Int32) * nI k)) + 2 = nI (32 + 6 * k + 2) := ixs 32 6 k 2
theorem ixB3 (k : Nat) : ((32 : Int32) + ((6 : Int32) * nI k)) + 3 = nI (32 + 6 * k + 3) := ixs 32 6 k 3
theorem ixB4 (k : Nat) : ((32 : Int32) + ((6 : Int32) * nI k)) + 4 = nI (32 + 6 * k + 4) := ixs 32 6 k 4
theorem ixB5 (k : Nat) : ((32 : Int32) + ((6 : Int32) * nI k)) + 5 = nI (32 + 6 * k + 5) := ixs 32 6 k 5
theorem ixR0 (k : Nat) : ((128 : Int32) + ((9 : Int32) * nI k)) + 0 = nI (128 + 9 * k) := ixs 128 9 k 0
theorem ixR1 (k : Nat) : ((128 : Int32) + ((9 : Int32) * nI k)) + 1 = nI (128 + 9 * k + 1) := ixs 128 9 k 1
theorem ixR2 (k : Nat) : ((128 : Int32) + ((9 : Int32) * nI k)) + 2 = nI (128 + 9 * k + 2) := ixs 128 9 k 2
theorem ixR3 (k : Nat) : ((128 : Int32) + ((9 : Int32) * nI k)) + 3 = nI (128 + 9 * k + 3) := ixs 128 9 k 3
theorem ixR4 (k : Nat) : ((128 : Int32) + ((9 : Int32) * nI k)) + 4 = nI (128 + 9 * k + 4) := ixs 128 9 k 4
theorem ixR5 (k : Nat) : ((128 : Int32) + ((9 : Int32) * nI k)) + 5 = nI (128 + 9 * k + 5) := ixs 128 9 k 5
theorem ixR6 (k : Nat) : ((128 : Int32) + ((9 : Int32) * nI k)) + 6 = nI (128 + 9 * k + 6) := ixs 128 9 k 6
theorem ixR7 (k : Nat) : ((128 : Int32) + ((9 : Int32) * nI k)) + 7 = nI (128 + 9 * k + 7) := ixs 128 9 k 7
theorem ixR8 (k : Nat) : ((128 : Int32) + ((9 : Int32) * nI k)) + 8 = nI (128 + 9 * k + 8) := ixs 128 9 k 8
theorem ixV0 (k : Nat) : ((200 : Int32) + ((3 : Int32) * nI k)) + 0 = nI (200 + 3 * k) := ixs 200 3 k 0
theorem ixV1 (k : Nat) : ((200 : Int32) + ((3 : Int32) * nI k)) + 1 = nI (200 + 3 * k + 1) := ixs 200 3 k 1
theorem ixV2 (k : Nat) : ((200 : Int32) + ((3 : Int32) * nI k)) + 2 = nI (200 + 3 * k + 2) := ixs 200 3 k 2
theorem ct0 : (0 : Int32).toNatClampNeg = 0 := by decide
theorem ct1 : (1 : Int32).toNatClampNeg = 1 := by decide
theorem ct2 : (2 : Int32).toNatClampNeg = 2 := by decide
theorem ct3 : (3 : Int32).toNatClampNeg = 3 := by decide
theorem ct4 : (4 : Int32).toNatClampNeg = 4 := by decide
theorem ct5 : (5 : Int32).toNatClampNeg = 5 := by decide
theorem ct6 : (6 : Int32).toNatClampNeg = 6 := by decide
theorem ct7 : (7 : Int32).toNatClampNeg = 7 := by decide
theorem zl0 : (0 : Int32) = nI 0 := rfl
theorem zl1 : (1 : Int32) = nI 1 := rfl
theorem zl4 : (4 : Int32) = nI 4 := rfl
theorem zl16 : (16 : Int32) = nI 16 := rfl
theorem zl206 : (206 : Int32) = nI 206 := rfl
theorem zl618 : (618 : Int32) = nI 618 := rfl
theorem zl6 : (6 : Int32) = nI 6 := rfl
theorem zl8 : (8 : Int32) = nI 8 := rfl
theorem zl2 : (2 : Int32) = nI 2 := rfl
theorem zl3 : (3 : Int32) = nI 3 := rfl
theorem zl99 : (99 : Int32) = nI 99 := rfl
theorem zl60 : (60 : Int32) = nI 60 := rfl
theorem zl5 : (5 : Int32) = nI 5 := rfl
theorem zl7 : (7 : Int32) = nI 7 := rfl
theorem zl9 : (9 : Int32) = nI 9 := rfl
theorem zl10 : (10 : Int32) = nI 10 := rfl
theorem M_ofS0 {σ : T2} {k : Nat} (hk : k < 6) : fX11_ofStation σ (nI k) (0 : Int32) = some (σ 0 (8 + 4 * k)) := by
  unfold fX11_ofStation
  rw [ixS0, gi_nI (by omega) (by decide), cl_nI (by omega)]
theorem M_ofS1 {σ : T2} {k : Nat} (hk : k < 6) : fX11_ofStation σ (nI k) (1 : Int32) = some (σ 0 (8 + 4 * k + 1)) := by
  unfold fX11_ofStation
  rw [ixS1, gi_nI (by omega) (by decide), cl_nI (by omega)]
theorem M_ofS2 {σ : T2} {k : Nat} (hk : k < 6) : fX11_ofStation σ (nI k) (2 : Int32) = some (σ 0 (8 + 4 * k + 2)) := by
  unfold fX11_ofStation
  rw [ixS2, gi_nI (by omega) (by decide), cl_nI (by omega)]
theorem M_ofS3 {σ : T2} {k : Nat} (hk : k < 6) : fX11_ofStation σ (nI k) (3 : Int32) = some (σ 0 (8 + 4 * k + 3)) := by
  unfold fX11_ofStation
  rw [ixS3, gi_nI (by omega) (by decide), cl_nI (by omega)]
theorem M_ofB0 {σ : T2} {k : Nat} (hk : k < 16) : fX11_ofBicycle σ (nI k) (0 : Int32) = some (σ 0 (32 + 6 * k)) := by
  unfold fX11_ofBicycle
  rw [ixB0, gi_nI (by omega) (by decide), cl_nI (by omega)]
theorem M_ofB1 {σ : T2} {k : Nat} (hk : k < 16) : fX11_ofBicycle σ (nI k) (1 : Int32) = some (σ 0 (32 + 6 * k + 1)) := by
  unfold fX11_ofBicycle
  rw [ixB1, gi_nI (by omega) (by decide), cl_nI (by omega)]
theorem M_ofB2 {σ : T2} {k : Nat} (hk : k < 16) : fX11_ofBicycle σ (nI k) (2 : Int32) = some (σ 0 (32 + 6 * k + 2)) := by
  unfold fX11_ofBicycle
  rw [ixB2, gi_nI (by omega) (by decide), cl_nI (by omega)]
theorem M_ofB3 {σ : T2} {k : Nat} (hk : k < 16) : fX11_ofBicycle σ (nI k) (3 : Int32) = some (σ 0 (32 + 6 * k + 3)) := by
  unfold fX11_ofBicycle
  rw [ixB3, gi_nI (by omega) (by decide), cl_nI (by omega)]
theorem M_ofB4 {σ : T2} {k : Nat} (hk : k < 16) : fX11_ofBicycle σ (nI k) (4 : Int32) = some (σ 0 (32 + 6 * k + 4)) := by
  unfold fX11_ofBicycle
  rw [ixB4, gi_nI (by omega) (by decide), cl_nI (by omega)]
theorem M_ofB5 {σ : T2} {k : Nat} (hk : k < 16) : fX11_ofBicycle σ (nI k) (5 : Int32) = some (σ 0 (32 + 6 * k + 5)) := by
  unfold fX11_ofBicycle
  rw [ixB5, gi_nI (by omega) (by decide), cl_nI (by omega)]
theorem M_ofR0 {σ : T2} {k : Nat} (hk : k < 8) : fX11_ofRider σ (nI k) (0 : Int32) = some (σ 0 (128 + 9 * k)) := by
  unfold fX11_ofRider
  rw [ixR0, gi_nI (by omega) (by decide), cl_nI (by omega)]
theorem M_ofR1 {σ : T2} {k : Nat} (hk : k < 8) : fX11_ofRider σ (nI k) (1 : Int32) = some (σ 0 (128 + 9 * k + 1)) := by
  unfold fX11_ofRider
  rw [ixR1, gi_nI (by omega) (by decide), cl_nI (by omega)]
theorem M_ofR2 {σ : T2} {k : Nat} (hk : k < 8) : fX11_ofRider σ (nI k) (2 : Int32) = some (σ 0 (128 + 9 * k + 2)) := by
  unfold fX11_ofRider
  rw [ixR2, gi_nI (by omega) (by decide), cl_nI (by omega)]
theorem M_ofR3 {σ : T2} {k : Nat} (hk : k < 8) : fX11_ofRider σ (nI k) (3 : Int32) = some (σ 0 (128 + 9 * k + 3)) := by
  unfold fX11_ofRider
  rw [ixR3, gi_nI (by omega) (by decide), cl_nI (by omega)]
theorem M_ofR4 {σ : T2} {k : Nat} (hk : k < 8) : fX11_ofRider σ (nI k) (4 : Int32) = some (σ 0 (128 + 9 * k + 4)) := by
  unfold fX11_ofRider
  rw [ixR4, gi_nI (by omega) (by decide), cl_nI (by omega)]
theorem M_ofR5 {σ : T2} {k : Nat} (hk : k < 8) : fX11_ofRider σ (nI k) (5 : Int32) = some (σ 0 (128 + 9 * k + 5)) := by
  unfold fX11_ofRider
  rw [ixR5, gi_nI (by omega) (by decide), cl_nI (by omega)]
theorem M_ofR6 {σ : T2} {k : Nat} (hk : k < 8) : fX11_ofRider σ (nI k) (6 : Int32) = some (σ 0 (128 + 9 * k + 6)) := by
  unfold fX11_ofRider
  rw [ixR6, gi_nI (by omega) (by decide), cl_nI (by omega)]
theorem M_ofR7 {σ : T2} {k : Nat} (hk : k < 8) : fX11_ofRider σ (nI k) (7 : Int32) = some (σ 0 (128 + 9 * k + 7)) := by
  unfold fX11_ofRider
  rw [ixR7, gi_nI (by omega) (by decide), cl_nI (by omega)]
theorem M_ofR8 {σ : T2} {k : Nat} (hk : k < 8) : fX11_ofRider σ (nI k) (8 : Int32) = some (σ 0 (128 + 9 * k + 8)) := by
  unfold fX11_ofRider
  rw [ixR8, gi_nI (by omega) (by decide), cl_nI (by omega)]
theorem M_ofV0 {σ : T2} {k : Nat} (hk : k < 2) : fX11_ofVan σ (nI k) (0 : Int32) = some (σ 0 (200 + 3 * k)) := by
  unfold fX11_ofVan
  rw [ixV0, gi_nI (by omega) (by decide), cl_nI (by omega)]
theorem M_ofV1 {σ : T2} {k : Nat} (hk : k < 2) : fX11_ofVan σ (nI k) (1 : Int32) = some (σ 0 (200 + 3 * k + 1)) := by
  unfold fX11_ofVan
  rw [ixV1, gi_nI (by omega) (by decide), cl_nI (by omega)]
theorem M_ofV2 {σ : T2} {k : Nat} (hk : k < 2) : fX11_ofVan σ (nI k) (2 : Int32) = some (σ 0 (200 + 3 * k + 2)) := by
  unfold fX11_ofVan
  rw [ixV2, gi_nI (by omega) (by decide), cl_nI (by omega)]
/-- p is one of the numbers below n -/
def hs (p : Int32) (n : Nat) : Option Int32 := if p < 0 then some 0 else if nI n ≤ p then some 0 else some 1
def inN (p : Int32) (n : Nat) : Prop := ∃ k, k < n ∧ p = nI k
theorem hs_t {k n : Nat} (h : k < n) (hn : n < 2 ^ 31) : hs (nI k) n = some 1 := by
  unfold hs
  rw [if_neg (nI_pos (by omega)), if_neg (nI_ge h hn)]
theorem hs_f {p : Int32} {n : Nat} (h : ¬ inN p n) (hn : n < 2 ^ 31) : hs p n = some 0 := by
  unfold hs
  by_cases h0 : p < 0
  · rw [if_pos h0]
  · rw [if_neg h0]
    by_cases h1 : nI n ≤ p
    · rw [if_pos h1]
    · rcases pk_ix p hn with q | q | ⟨j, q1, q2⟩
      · exact absurd q h0
      · exact absurd q h1
      · exact absurd ⟨j, q1, q2⟩ h
theorem M_isStation {σ : T2} {n : Nat} (h : σ 0 0 = nI n) (p : Int32) : fX11_isStation σ p = hs p n := by
  unfold fX11_isStation hs
  rw [ct0, h]
theorem M_isBicycle {σ : T2} {n : Nat} (h : σ 0 1 = nI n) (p : Int32) : fX11_isBicycle σ p = hs p n := by
  unfold fX11_isBicycle hs
  rw [ct1, h]
theorem M_isRider {σ : T2} {n : Nat} (h : σ 0 2 = nI n) (p : Int32) : fX11_isRider σ p = hs p n := by
  unfold fX11_isRider hs
  rw [ct2, h]
theorem M_isVan {σ : T2} {n : Nat} (h : σ 0 3 = nI n) (p : Int32) : fX11_isVan σ p = hs p n := by
  unfold fX11_isVan hs
  rw [ct3, h]
/-- counts and sets of bicycles -/
def cw (g : T1) (st wh : Int32) : Nat → Nat
  | 0 => 0
  | n + 1 => cw g st wh n + if g (32 + 6 * n) = st ∧ g (32 + 6 * n + 1) = wh then 1 else 0
def ts (g : T1) (st wh : Int32) : Nat → Int32
  | 0 => 0
  | n + 1 => ts g st wh n ||| if g (32 + 6 * n) = st ∧ g (32 + 6 * n + 1) = wh then (1 : Int32) <<< (nI n &&& 31) else 0
theorem cw_le (g : T1) (st wh : Int32) : ∀ n, cw g st wh n ≤ n
  | 0 => Nat.le_refl _
  | n + 1 => by
    have := cw_le g st wh n
    unfold cw
    split <;> omega
theorem M_those_lp {σ : T2} {st wh : Int32} {nb : Nat} (hb : σ 0 1 = nI nb) (h16 : nb ≤ 16) : ∀ (n j : Nat) (acc : Int32), j ≤ nb → nb - j < n → acc = ts (σ 0) st wh j → fX11_those_5 σ st wh n acc (nI j) = some (ts (σ 0) st wh nb) := by
  intro n
  induction n with
  | zero => intro j acc h1 h2; omega
  | succ n ih =>
    intro j acc h1 h2 h3
    rw [fX11_those_5, ct1, hb]
    by_cases hj : j = nb
    · subst hj
      rw [if_pos (nI_le (Nat.le_refl _) (by omega)), h3]
    · rw [if_neg (nI_ge (by omega) (by omega)), M_ofB0 (by omega), bd_s]
      have step : ∀ x : Int32, x = (if (σ 0) (32 + 6 * j) = st ∧ (σ 0) (32 + 6 * j + 1) = wh then (1 : Int32) <<< (nI j &&& 31) else 0) → fX11_those_47 (fX11_those_5 σ st wh n) σ st wh (nI j) acc x = some (ts (σ 0) st wh nb) := by
        intro x hx
        unfold fX11_those_47
        rw [nI_1]
        refine ih (j + 1) _ (by omega) (by omega) ?_
        rw [h3, hx, ts]
      by_cases c1 : σ 0 (32 + 6 * j) = st
      · rw [if_pos c1, M_ofB1 (by omega), bd_s]
        by_cases c2 : σ 0 (32 + 6 * j + 1) = wh
        · rw [if_pos c2]
          exact step _ (by rw [if_pos ⟨c1, c2⟩])
        · rw [if_neg c2]
          exact step _ (by rw [if_neg (fun h => c2 h.2)])
      · rw [if_neg c1]
        exact step _ (by rw [if_neg (fun h => c1 h.1)])
theorem M_those {σ : T2} {st wh : Int32} {nb : Nat} (hb : σ 0 1 = nI nb) (h16 : nb ≤ 16) : fX11_those σ st wh = some (ts (σ 0) st wh nb) := by
  unfold fX11_those
  rw [zl0]
  exact M_those_lp hb h16 fuel 0 _ (by omega) (by unfold fuel; omega) rfl
theorem bt_ts {g : T1} {st wh : Int32} : ∀ (n : Nat), n ≤ 16 → ∀ k, k < 16 → bt (ts g st wh n) k = decide (k < n ∧ g (32 + 6 * k) = st ∧ g (32 + 6 * k + 1) = wh)
  | 0, _, k, _ => by
    rw [ts, b_0]
    simp
  | n + 1, h, k, hk => by
    rw [ts, b_or, bt_ts n (by omega) k hk]
    have one : ∀ i, bt 1 i = decide (i = 0) := by
      intro i
      unfold bt
      simp
    by_cases c : g (32 + 6 * n) = st ∧ g (32 + 6 * n + 1) = wh
    · rw [if_pos c, b_shl n (by omega) 1 (by omega), one]
      by_cases e : k = n
      · subst e
        simp [c]
      · have e2 : (decide (n ≤ k) && decide (k - n = 0)) = false := by
          simp
          omega
        rw [e2, Bool.or_false]
        exact decide_eq_decide.mpr ⟨fun q => ⟨by have := q.1; omega, q.2⟩, fun q => ⟨by have := q.1; omega, q.2⟩⟩
    · rw [if_neg c, b_0, Bool.or_false]
      by_cases e : k = n
      · subst e
        simp [c]
      · exact decide_eq_decide.mpr ⟨fun q => ⟨by have := q.1; omega, q.2⟩, fun q => ⟨by have := q.1; omega, q.2⟩⟩
theorem bit_of {x : Int32} {k : Nat} (hk : k < 16) : (x >>> (nI k &&& 31)) &&& 1 = if bt x k = true then 1 else 0 := by
  have one : ∀ i, bt 1 i = decide (i = 0) := by
    intro i
    unfold bt
    simp
  refine b_ext (fun i hi => ?_)
  rw [b_and, b_sshr k (by omega) x hi, one]
  by_cases e : i = 0
  · subst e
    rw [if_pos (by omega)]
    by_cases c : bt x (k + 0) = true
    · rw [Nat.add_zero] at c ⊢
      rw [if_pos c, c, one]
      rfl
    · rw [Nat.add_zero] at c ⊢
      rw [if_neg c, b_0]
      simp at c
      rw [c]
      rfl
  · rw [decide_eq_false e, Bool.and_false]
    split
    · rw [one, decide_eq_false e]
    · rw [b_0]
theorem M_ones_lp {x : Int32} {f : Nat → Nat} (hf : ∀ k, k < 16 → f (k + 1) = f k + if bt x k = true then 1 else 0) (hf0 : ∀ k, k ≤ 16 → f k ≤ 16) : ∀ (n j : Nat), j ≤ 16 → 16 - j < n → fX11_ones_4 x n (nI (f j)) (nI j) = some (nI (f 16)) := by
  intro n
  induction n with
  | zero => intro j h1 h2; omega
  | succ n ih =>
    intro j h1 h2
    rw [fX11_ones_4, zl16]
    by_cases hj : j = 16
    · subst hj
      rw [if_pos (nI_le (Nat.le_refl _) (by omega))]
    · rw [if_neg (nI_ge (by omega) (by omega)), bit_of (by omega), nI_1]
      have e : nI (f j) + (if bt x j = true then 1 else 0) = nI (f (j + 1)) := by
        rw [hf j (by omega)]
        split
        · exact nI_1 _
        · rw [zl0, nI_add]
      rw [e]
      exact ih (j + 1) (by omega) (by omega)
theorem M_ones {g : T1} {st wh : Int32} {nb : Nat} (h16 : nb ≤ 16) : fX11_ones (ts g st wh nb) = some (nI (cw g st wh nb)) := by
  have key : ∀ m, m ≤ 16 → ∀ k, k < 16 → cw g st wh (min (k + 1) nb) = cw g st wh (min k nb) + if bt (ts g st wh nb) k = true then 1 else 0 := by
    intro m hm k hk
    rw [bt_ts nb h16 k hk]
    by_cases h : k < nb
    · rw [Nat.min_eq_left (by omega), Nat.min_eq_left (by omega), cw]
      congr 1
      by_cases c : g (32 + 6 * k) = st ∧ g (32 + 6 * k + 1) = wh
      · rw [if_pos c, if_pos (decide_eq_true ⟨h, c⟩)]
      · rw [if_neg c, if_neg (by simp; intro _ a b; exact c ⟨a, b⟩)]
    · rw [Nat.min_eq_right (by omega), Nat.min_eq_right (by omega), if_neg (by simp; intro a; omega), Nat.add_zero]
  have := M_ones_lp (x := ts g st wh nb) (f := fun k => cw g st wh (min k nb)) (fun k hk => key k (by omega) k hk) (fun k hk => Nat.le_trans (cw_le g st wh _) (by omega)) fuel 0 (by omega) (by unfold fuel; omega)
  unfold fX11_ones
  rw [zl0]
  have e0 : nI 0 = nI (cw g st wh (min 0 nb)) := by rw [Nat.zero_min]; rfl
  have e1 : cw g st wh nb = cw g st wh (min 16 nb) := by rw [Nat.min_eq_right h16]
  rw [e1]
  exact (congrArg (fun z => fX11_ones_4 (ts g st wh nb) fuel z (nI 0)) e0).trans this
theorem M_docked {σ : T2} {nb : Nat} (hb : σ 0 1 = nI nb) (h16 : nb ≤ 16) (p : Int32) : fX11_docked σ p = some (nI (cw (σ 0) 0 p nb)) := by
  unfold fX11_docked
  rw [M_those hb h16, bd_s, M_ones h16, bd_s]
theorem M_carried {σ : T2} {nb : Nat} (hb : σ 0 1 = nI nb) (h16 : nb ≤ 16) (p : Int32) : fX11_carried σ p = some (nI (cw (σ 0) 2 p nb)) := by
  unfold fX11_carried
  rw [M_those hb h16, bd_s, M_ones h16, bd_s]
theorem M_isFree {σ : T2} {nb k : Nat} (hb : σ 0 1 = nI nb) (h16 : nb ≤ 16) (hk : k < 6) : fX11_isFree σ (nI k) = if σ 0 (8 + 4 * k + 1) ≤ nI (cw (σ 0) 0 (nI k) nb) then some 0 else some 1 := by
  unfold fX11_isFree
  rw [M_docked hb h16, bd_s, M_ofS1 hk, bd_s]
