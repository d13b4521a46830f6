def cb (l : Int32) : Nat → Nat
  | 0 => 0
  | i + 1 => cb l i + (bt l i).toNat
def cbN (k : Nat) : Nat → Nat
  | 0 => 0
  | i + 1 => cbN k i + k / 2^i % 2
set_option maxHeartbeats 1000000 in
theorem cb_N {k : Nat} (hk : k < 65536) (i : Nat) : cb (nI k) i = cbN k i := by
  induction i with
  | zero => rfl
  | succ i ih =>
    show cb (nI k) i + (bt (nI k) i).toNat = cbN k i + k / 2^i % 2
    rw [ih]
    have e : bt (nI k) i = k.testBit i := by
      unfold bt
      rw [nI_bv, BitVec.getLsbD_ofNat]
      by_cases h : i < 32
      · simp [h]
      · rw [decide_eq_false h, Bool.false_and]
        exact (Nat.testBit_lt_two_pow (Nat.lt_of_lt_of_le hk (Nat.pow_le_pow_right (by omega : 2 > 0) (by omega : 16 ≤ i)))).symm
    rw [e, Nat.testBit_eq_decide_div_mod_eq]
    rcases Nat.mod_two_eq_zero_or_one (k / 2^i) with h | h <;> rw [h] <;> rfl
set_option maxHeartbeats 1000000 in
theorem cb_le (l : Int32) (i : Nat) : cb l i ≤ i := by
  induction i with
  | zero => exact Nat.le_refl 0
  | succ i ih =>
    show cb l i + (bt l i).toNat ≤ i + 1
    have : (bt l i).toNat ≤ 1 := by cases bt l i <;> decide
    omega
set_option maxHeartbeats 1000000 in
theorem cb_mono (l : Int32) {i j : Nat} (h : i ≤ j) : cb l i ≤ cb l j := by
  induction h with
  | refl => exact Nat.le_refl _
  | step _ ih => exact Nat.le_trans ih (Nat.le_add_right _ _)
set_option maxHeartbeats 1000000 in
theorem nI_addP (a b : Nat) : nI a + nI b = nI (a + b) := by
  show Int32.ofNat a + Int32.ofNat b = Int32.ofNat (a + b)
  rw [Int32.ofNat_add]
set_option maxHeartbeats 1000000 in
theorem count_cb (l : Int32) : y_Model_countOf l = nI (cb l 16) := by
  have main : ∀ (n j : Nat), j + n = 16 → y_Model_countOf_4 l (n + 1) (nI (cb l j)) (nI j) = nI (cb l 16) := by
    intro n
    induction n with
    | zero =>
      intro j h
      have : j = 16 := by omega
      subst this
      show (if (16 : Int32) ≤ nI 16 then _ else _) = _
      rw [if_pos (by decide)]
    | succ n ih =>
      intro j h
      show (if (16 : Int32) ≤ nI j then _ else y_Model_countOf_4 l (n + 1) (nI (cb l j) + ((l >>> (nI j &&& 31)) &&& 1)) (nI j + 1)) = _
      rw [if_neg ((by decide : ∀ j, j < 16 → ¬ (16 : Int32) ≤ nI j) j (by omega)), fld1, (by decide : ∀ j, j < 16 → sh (nI j) = j) j (by omega)]
      have e : nI (cb l j) + b01 (bt l j) = nI (cb l (j + 1)) := by
        show _ = nI (cb l j + (bt l j).toNat)
        rw [← nI_addP]
        cases bt l j <;> rfl
      rw [e, show nI j + 1 = nI (j + 1) from nI_addP j 1]
      exact ih (j + 1) (by omega)
  exact main 16 0 (by omega)
def b1 (k : Nat) : Nat := k - (k / 2 &&& 1431655765)
def b2 (y : Nat) : Nat := (y &&& 858993459) + (y / 4 &&& 858993459)
def b3 (z : Nat) : Nat := (z + z / 16) &&& 252645135
def b4 (q : Nat) : Nat := q + q / 256
def b5 (r : Nat) : Nat := (r + r / 65536) &&& 63
def un (x : Int32) : Nat := x.toBitVec.toNat
set_option maxHeartbeats 1000000 in
theorem un_and (x y : Int32) : un (x &&& y) = un x &&& un y := by unfold un; rw [Int32.toBitVec_and, BitVec.toNat_and]
set_option maxHeartbeats 1000000 in
theorem un_iu (x y : Int32) : un (iu x y) = un x / 2 ^ sh y := by unfold un; rw [iu_bv, BitVec.toNat_ushiftRight, Nat.shiftRight_eq_div_pow]
set_option maxHeartbeats 1000000 in
theorem un_add {x y : Int32} (h : un x + un y < 4294967296) : un (x + y) = un x + un y := by
  unfold un at *; rw [Int32.toBitVec_add, BitVec.toNat_add]; omega
set_option maxHeartbeats 1000000 in
theorem un_sub {x y : Int32} (h : un y ≤ un x) : un (x - y) = un x - un y := by
  have hx := x.toBitVec.isLt
  unfold un at *; rw [Int32.toBitVec_sub, BitVec.toNat_sub]; omega
set_option maxHeartbeats 1000000 in
theorem bits_b (v : Int32) : un (x_Integer_bitCount v) = b5 (b4 (b3 (b2 (b1 (un v))))) := by
  unfold x_Integer_bitCount
  have h0 : un (v - ((iu v 1) &&& 1431655765)) = b1 (un v) := by
    have e : un ((iu v 1) &&& 1431655765) = un v / 2 &&& 1431655765 := by rw [un_and, un_iu]; rfl
    have hle : un v / 2 &&& 1431655765 ≤ un v := Nat.le_trans Nat.and_le_left (Nat.div_le_self _ _)
    rw [un_sub (by rw [e]; exact hle), e]; rfl
  generalize v - ((iu v 1) &&& 1431655765) = y at *
  rw [← h0]
  have h1 : un ((y &&& 858993459) + ((iu y 2) &&& 858993459)) = b2 (un y) := by
    have e1 : un (y &&& 858993459) = un y &&& 858993459 := un_and _ _
    have e2 : un ((iu y 2) &&& 858993459) = un y / 4 &&& 858993459 := by rw [un_and, un_iu]; rfl
    have l1 : un y &&& 858993459 ≤ 858993459 := Nat.and_le_right
    have l2 : un y / 4 &&& 858993459 ≤ 858993459 := Nat.and_le_right
    rw [un_add (by rw [e1, e2]; omega), e1, e2]; rfl
  have hz : un ((y &&& 858993459) + ((iu y 2) &&& 858993459)) ≤ 1717986918 := by
    rw [h1]
    have l1 : un y &&& 858993459 ≤ 858993459 := Nat.and_le_right
    have l2 : un y / 4 &&& 858993459 ≤ 858993459 := Nat.and_le_right
    unfold b2; omega
  generalize (y &&& 858993459) + ((iu y 2) &&& 858993459) = z at *
  rw [← h1]
  have h2 : un ((z + (iu z 4)) &&& 252645135) = b3 (un z) := by
    have e : un (iu z 4) = un z / 16 := un_iu _ _
    rw [un_and, un_add (by rw [e]; omega), e]; rfl
  have hq : un ((z + (iu z 4)) &&& 252645135) ≤ 252645135 := by rw [un_and]; exact Nat.and_le_right
  generalize (z + (iu z 4)) &&& 252645135 = q at *
  rw [← h2]
  have h3 : un (q + (iu q 8)) = b4 (un q) := by
    have e : un (iu q 8) = un q / 256 := un_iu _ _
    rw [un_add (by rw [e]; omega), e]; rfl
  have hr : un (q + (iu q 8)) ≤ 505290270 := by
    rw [h3]; unfold b4; omega
  generalize q + (iu q 8) = r at *
  rw [← h3]
  have e : un (iu r 16) = un r / 65536 := un_iu _ _
  rw [un_and, un_add (by rw [e]; omega), e]; rfl
set_option maxHeartbeats 1000000 in
theorem cbN_lo (k : Nat) : cbN k 8 = cbN (k % 256) 8 := by
  simp only [cbN, Nat.reducePow]
  omega
set_option maxHeartbeats 1000000 in
theorem cbN_hi (k : Nat) : cbN k 16 = cbN k 8 + cbN (k / 256) 8 := by
  simp only [cbN, Nat.reducePow, Nat.div_div_eq_div_mul, Nat.reduceMul]
  omega
set_option maxHeartbeats 1000000 in
theorem bc_all : ∀ a, a < 256 → ∀ b, b < 256 → Nat.beq (b5 (b4 (b3 (b2 (b1 (256 * a + b)))))) (cbN b 8 + cbN a 8) = true := by
  decide +kernel
set_option maxHeartbeats 1000000 in
theorem bc_E (w : Int32) : x_Integer_bitCount (w &&& 65535) = nI (cb (w &&& 65535) 16) := by
  obtain ⟨k, hk, e⟩ := andN w 65535
  have hk : k < 65536 := Nat.lt_succ_of_le hk
  rw [e, cb_N hk]
  apply ext_nat
  show un _ = _
  rw [bits_b, nI_bvn (by have := cb_le (nI k) 16; rw [cb_N hk] at this; omega)]
  show b5 (b4 (b3 (b2 (b1 ((nI k).toBitVec.toNat))))) = _
  rw [nI_bvn (by omega)]
  have := Nat.eq_of_beq_eq_true (bc_all (k / 256) (by omega) (k % 256) (by omega))
  rw [show 256 * (k / 256) + k % 256 = k by omega] at this
  rw [cbN_hi, cbN_lo k]
  exact this
set_option maxHeartbeats 1000000 in
theorem cb_0 (l : Int32) (hl : ∃ k, k < 65536 ∧ l = nI k) : cb l 16 = 0 ↔ l = 0 := by
  constructor
  · intro h
    obtain ⟨k, hk, rfl⟩ := hl
    apply ext32; intro i hi
    rw [bt_zero]
    by_cases h16 : i < 16
    · have h1 : cb (nI k) (i + 1) ≤ cb (nI k) 16 := cb_mono _ (by omega)
      have h2 : cb (nI k) (i + 1) = cb (nI k) i + (bt (nI k) i).toNat := rfl
      cases hb : bt (nI k) i
      · rfl
      · rw [hb] at h2; simp at h2; omega
    · unfold bt
      rw [nI_bv, BitVec.getLsbD_ofNat, Nat.testBit_lt_two_pow (Nat.lt_of_lt_of_le hk (Nat.pow_le_pow_right (by omega : 2 > 0) (by omega : 16 ≤ i))), Bool.and_false]
  · rintro rfl
    have : ∀ i, cb 0 i = 0 := by
      intro i
      induction i with
      | zero => rfl
      | succ i ih => show cb 0 i + (bt 0 i).toNat = 0; rw [ih, bt_zero]; rfl
    exact this 16
