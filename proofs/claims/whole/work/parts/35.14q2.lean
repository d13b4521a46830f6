set_option maxHeartbeats 1000000 in
theorem m4_nat (x : Int32) : (x &&& (-4)).toBitVec.toNat = x.toBitVec.toNat / 4 * 4 := by
  have e : (x &&& (-4)).toBitVec = (x.toBitVec >>> 2) <<< 2 := by
    rw [Int32.toBitVec_and]
    apply BitVec.eq_of_getLsbD_eq
    intro i hi
    rw [BitVec.getLsbD_and, BitVec.getLsbD_shiftLeft, BitVec.getLsbD_ushiftRight]
    by_cases h : i < 2
    · rw [(by decide : ∀ i, i < 2 → (Int32.toBitVec (-4)).getLsbD i = false) i h]; simp [h]
    · rw [(by decide : ∀ i, i < 32 → ¬ i < 2 → (Int32.toBitVec (-4)).getLsbD i = true) i hi h, show 2 + (i - 2) = i by omega]; simp [hi, h]
  rw [e, BitVec.toNat_shiftLeft, BitVec.toNat_ushiftRight, Nat.shiftLeft_eq, Nat.shiftRight_eq_div_pow]
  have := x.toBitVec.isLt
  omega
set_option maxHeartbeats 1000000 in
theorem there_iff (x : Int32) : y_Model_isThere x = decide (x.toBitVec.toNat < 262144) := by
  have hx : x.toInt = if 2147483648 ≤ x.toBitVec.toNat then (x.toBitVec.toNat : Int) - 4294967296 else x.toBitVec.toNat := by
    show x.toBitVec.toInt = _
    rw [BitVec.toInt_eq_toNat_cond]
    split <;> split <;> omega
  have := x.toBitVec.isLt
  unfold y_Model_isThere y_Model_within
  by_cases h1 : x < 0
  · rw [if_pos h1]
    have h1' : x.toInt < 0 := Int32.lt_iff_toInt_lt.mp h1
    symm; apply decide_eq_false
    split at hx <;> omega
  · rw [if_neg h1]
    have h1' : ¬ x.toInt < 0 := fun e => h1 (Int32.lt_iff_toInt_lt.mpr e)
    by_cases h2 : 262143 < x
    · rw [if_pos h2]
      have h2' : (262143 : Int) < x.toInt := Int32.lt_iff_toInt_lt.mp h2
      symm; apply decide_eq_false
      split at hx <;> omega
    · rw [if_neg h2]
      have h2' : ¬ (262143 : Int) < x.toInt := fun e => h2 (Int32.lt_iff_toInt_lt.mpr e)
      symm; apply decide_eq_true
      split at hx <;> omega
set_option maxHeartbeats 1000000 in
theorem m4_add (L : Int32) {c : Nat} (hc : c ≤ 16) : (L &&& (-4)) + nI (4 * c) = (L + nI (4 * c)) &&& (-4) := by
  apply ext_nat
  have := L.toBitVec.isLt
  rw [m4_nat, Int32.toBitVec_add, BitVec.toNat_add, m4_nat, Int32.toBitVec_add, BitVec.toNat_add, nI_bvn (by omega)]
  omega
set_option maxHeartbeats 1000000 in
theorem there_m4 (x : Int32) : y_Model_isThere (x &&& (-4)) = y_Model_isThere x := by
  rw [there_iff, there_iff, m4_nat]
  rw [decide_eq_decide]
  omega
set_option maxHeartbeats 1000000 in
theorem ix_m4 {x : Int32} (h : y_Model_isThere x = true) : ((x &&& (-4)) / 4).toNatClampNeg = (x / 4).toNatClampNeg := by
  obtain ⟨n, hn, rfl⟩ := there_nat h
  have e : nI n &&& (-4) = nI (n / 4 * 4) := by
    apply ext_nat
    rw [m4_nat, nI_bvn (by omega), nI_bvn (by omega)]
  rw [e, ix_m (by omega), ix_m hn]
  omega
section R
variable {σ : CS} {τ : MS}
set_option maxHeartbeats 1000000 in
theorem ad_there (L : Int32) {c : Nat} (hc : c ≤ 16) (σ : CS) : x_Memory_holds σ (L + nI (4 * c)) = y_Model_isThere ((L &&& (-4)) + nI (4 * c)) := by
  rw [m4_add L hc, there_m4, holds_E]
set_option maxHeartbeats 1000000 in
theorem ad_word (h : R0 σ τ) (L : Int32) {c : Nat} (hc : c ≤ 16) (ht : x_Memory_holds σ (L + nI (4 * c)) = true) : m_memory τ (((L &&& (-4)) + nI (4 * c)) / 4).toNatClampNeg = x_Memory_word σ (L + nI (4 * c)) := by
  rw [holds_E] at ht
  rw [m4_add L hc, ix_m4 ht, word_E h ht]
set_option maxHeartbeats 1000000 in
theorem ad_put (h : R1 σ τ) (L : Int32) {c : Nat} (hc : c ≤ 16) (ht : x_Memory_holds σ (L + nI (4 * c)) = true) (v : Int32) : R1 (x_Memory_putWord σ (L + nI (4 * c)) v) (t_memory τ (upd (m_memory τ) (((L &&& (-4)) + nI (4 * c)) / 4).toNatClampNeg v)) := by
  rw [holds_E] at ht
  rw [m4_add L hc, ix_m4 ht]
  exact put_R1 h ht v
end R
set_option maxHeartbeats 1000000 in
theorem all_there (L : Int32) {n : Nat} (hn : n ≤ 16) (h0 : y_Model_isThere L = true) (h1 : y_Model_isThere (L + nI (4 * (n - 1))) = true) {c : Nat} (hc : c < n) : y_Model_isThere (L + nI (4 * c)) = true := by
  have hL := L.toBitVec.isLt
  rw [there_iff, decide_eq_true_iff] at *
  rw [Int32.toBitVec_add, BitVec.toNat_add, nI_bvn (by omega)] at *
  omega
