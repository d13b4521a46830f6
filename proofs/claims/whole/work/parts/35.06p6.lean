set_option maxHeartbeats 1000000 in
theorem holds_E (σ : CS) (a : Int32) : x_Memory_holds σ a = y_Model_isThere a := by
  unfold x_Memory_holds y_Model_isThere y_Model_within
  by_cases h : a < 0
  · rw [if_pos h, if_pos h]
  · rw [if_neg h, if_neg h]
    have : 262144 ≤ a ↔ 262143 < a := by
      rw [Int32.le_iff_toInt_le, Int32.lt_iff_toInt_lt]
      show (262144 : Int) ≤ a.toInt ↔ (262143 : Int) < a.toInt
      omega
    by_cases h2 : 262143 < a
    · rw [if_pos (this.mpr h2), if_pos h2]
    · rw [if_neg (fun e => h2 (this.mp e)), if_neg h2]
set_option maxHeartbeats 1000000 in
theorem there_nat {a : Int32} (h : y_Model_isThere a = true) : ∃ n, n < 262144 ∧ a = nI n := by
  unfold y_Model_isThere y_Model_within at h
  split at h
  · exact absurd h (by decide)
  · split at h
    · exact absurd h (by decide)
    · rename_i h1 h2
      have h1' : ¬ a.toInt < 0 := fun e => h1 (Int32.lt_iff_toInt_lt.mpr e)
      have h2' : ¬ (262143 : Int) < a.toInt := fun e => h2 (Int32.lt_iff_toInt_lt.mpr e)
      refine ⟨a.toInt.toNat, by omega, ?_⟩
      apply Int32.toInt_inj.mp
      show _ = (Int32.ofNat _).toInt
      rw [Int32.toInt_ofNat_of_lt (by omega)]
      omega
set_option maxHeartbeats 1000000 in
theorem nI_bv (n : Nat) : (nI n).toBitVec = BitVec.ofNat 32 n := Int32.toBitVec_ofNat'
set_option maxHeartbeats 1000000 in
theorem nI_toNat {n : Nat} (h : n < 2147483648) : (nI n).toNatClampNeg = n := by
  show (Int32.ofNat n).toNatClampNeg = n
  rw [Int32.toNatClampNeg_ofNat_of_lt h]
set_option maxHeartbeats 1000000 in
theorem nI_int {n : Nat} (h : n < 2147483648) : (nI n).toInt = n := Int32.toInt_ofNat_of_lt h
set_option maxHeartbeats 1000000 in
theorem nI_bvn {n : Nat} (h : n < 2147483648) : (nI n).toBitVec.toNat = n := by
  rw [nI_bv, BitVec.toNat_ofNat]; omega
set_option maxHeartbeats 1000000 in
theorem ext_nat {x y : Int32} (h : x.toBitVec.toNat = y.toBitVec.toNat) : x = y := Int32.toBitVec_inj.mp (BitVec.eq_of_toNat_eq h)
set_option maxHeartbeats 1000000 in
theorem ix_c {n : Nat} (h : n < 262144) : (iu (nI n &&& 262143) 2).toNatClampNeg = n / 4 := by
  have : iu (nI n &&& 262143) 2 = nI (n / 4) := by
    apply ext_nat
    rw [iu_bv, show sh 2 = 2 from rfl, BitVec.toNat_ushiftRight, Int32.toBitVec_and, BitVec.toNat_and, nI_bvn (by omega), nI_bvn (by omega)]
    show (n &&& 262143) >>> 2 = n / 4
    rw [show (262143 : Nat) = 2^18 - 1 from rfl, Nat.and_two_pow_sub_one_eq_mod, Nat.shiftRight_eq_div_pow]
    omega
  rw [this, nI_toNat (by omega)]
set_option maxHeartbeats 1000000 in
theorem div4 {n : Nat} (h : n < 262144) : nI n / 4 = nI (n / 4) := by
  apply Int32.toInt_inj.mp
  rw [Int32.toInt_div_of_ne_right _ _ (by decide), nI_int (by omega), nI_int (by omega)]
  show ((n : Int).tdiv 4) = _
  rw [Int.tdiv_eq_ediv_of_nonneg (by omega)]
  omega
set_option maxHeartbeats 1000000 in
theorem ix_m {n : Nat} (h : n < 262144) : (nI n / 4).toNatClampNeg = n / 4 := by rw [div4 h, nI_toNat (by omega)]
set_option maxHeartbeats 1000000 in
theorem mod4 {n : Nat} (h : n < 262144) : nI n - nI n / 4 * 4 = nI n &&& 3 := by
  rw [div4 h]
  apply ext_nat
  rw [Int32.toBitVec_sub, Int32.toBitVec_mul, BitVec.toNat_sub, BitVec.toNat_mul, Int32.toBitVec_and, BitVec.toNat_and, nI_bvn (by omega), nI_bvn (by omega)]
  show (2^32 - (n / 4 * 4) % 2^32 + n) % 2^32 = n &&& 3
  rw [show (3 : Nat) = 2^2 - 1 from rfl, Nat.and_two_pow_sub_one_eq_mod]
  omega
section R
variable {σ : CS} {τ : MS}
set_option maxHeartbeats 1000000 in
theorem word_E (h : R0 σ τ) {a : Int32} (ha : y_Model_isThere a = true) : m_memory τ (a / 4).toNatClampNeg = x_Memory_word σ a := by
  obtain ⟨n, hn, rfl⟩ := there_nat ha
  unfold x_Memory_word
  rw [ix_c hn, ix_m hn, h.1.1]
set_option maxHeartbeats 1000000 in
theorem mod_E {a : Int32} (ha : y_Model_isThere a = true) : a - a / 4 * 4 = a &&& 3 := by
  obtain ⟨n, hn, rfl⟩ := there_nat ha
  exact mod4 hn
set_option maxHeartbeats 1000000 in
theorem and3_cases (a : Int32) : a &&& 3 = 0 ∨ a &&& 3 = 1 ∨ a &&& 3 = 2 ∨ a &&& 3 = 3 := by
  obtain ⟨k, hk, e⟩ := andN a 3
  have hk : k ≤ 3 := hk
  rw [e]
  exact (by decide : ∀ k, k ≤ 3 → nI k = 0 ∨ nI k = 1 ∨ nI k = 2 ∨ nI k = 3) k hk
set_option maxHeartbeats 1000000 in
theorem and2_cases (a : Int32) : a &&& 2 = 0 ∨ a &&& 2 = 2 := by
  rcases and3_cases a with h | h | h | h <;> (have e : a &&& 2 = (a &&& 3) &&& 2 := by rw [and_and32]; rfl) <;> rw [e, h] <;> decide
set_option maxHeartbeats 1000000 in
theorem half_E (h : R0 σ τ) {a : Int32} (ha : y_Model_isThere a = true) : y_Model_halfAt τ a = (iu (x_Memory_word σ a) (8 * (a &&& 2))) &&& 65535 := by
  unfold y_Model_halfAt
  rw [word_E h ha]
  rcases and2_cases a with e | e <;> rw [e]
  · exact fld _ (8 * 0) _ (by decide)
  · exact fld _ (8 * 2) _ (by decide)
set_option maxHeartbeats 1000000 in
theorem byte_E (h : R0 σ τ) {a : Int32} (ha : y_Model_isThere a = true) : y_Model_byteAt τ a = (iu (x_Memory_word σ a) (8 * (a &&& 3))) &&& 255 := by
  unfold y_Model_byteAt
  rw [word_E h ha, mod_E ha]
  rcases and3_cases a with e | e | e | e <;> rw [e]
  · exact fld _ (8 * 0) _ (by decide)
  · exact fld _ (8 * 1) _ (by decide)
  · exact fld _ (8 * 2) _ (by decide)
  · exact fld _ (8 * 3) _ (by decide)
set_option maxHeartbeats 1000000 in
theorem wordAt_E (h : R0 σ τ) {a : Int32} (ha : y_Model_isThere a = true) : y_Model_wordAt τ a = x_Shifter_turnRight (x_Memory_word σ a) (8 * (a &&& 3)) := by
  unfold y_Model_wordAt x_Shifter_turnRight
  rw [word_E h ha, mod_E ha]
  generalize x_Memory_word σ a = w
  rcases and3_cases a with e | e | e | e <;> rw [e]
  · rw [if_pos (by decide)]
    apply ext32; intro i hi
    rw [show ((-(8 * 0 : Int32)) &&& 31) = 0 by decide, show ((8 * 0 : Int32) &&& 31) = 0 by decide, iu0, bt_or, bt_sl _ _ hi, show sh 0 = 0 from rfl, if_neg (by omega), Nat.sub_zero]
    cases bt w i <;> rfl
  · rfl
  · rfl
  · rfl
set_option maxHeartbeats 1000000 in
theorem sx8 (w : Int32) : ((w &&& 255) <<< ((24 : Int32) &&& 31)) >>> ((24 : Int32) &&& 31) = w.toInt8.toInt32 := by
  apply ext32; intro i hi
  have e : bt (w.toInt8.toInt32) i = if i < 8 then bt w i else bt w 7 := by
    unfold bt
    rw [Int8.toBitVec_toInt32, Int32.toBitVec_toInt8, BitVec.getLsbD_signExtend, BitVec.msb_eq_getLsbD_last, BitVec.signExtend_eq_setWidth_of_le _ (by decide : 8 ≤ 32), BitVec.getLsbD_setWidth, BitVec.getLsbD_setWidth]
    by_cases h : i < 8 <;> simp [h, hi]
  rw [e, bt_sr _ _ hi, show sh 24 = 24 from rfl]
  by_cases h : i < 8
  · rw [if_pos (by omega), if_pos h, bt_sl _ _ (by omega), show sh 24 = 24 from rfl, if_neg (by omega), bt_and, show 24 + i - 24 = i by omega, show bt 255 i = true from (by decide : ∀ i, i < 8 → bt 255 i = true) i h, Bool.and_true]
  · rw [if_neg (by omega), if_neg h, bt_sl _ _ (by omega), show sh 24 = 24 from rfl, if_neg (by omega), bt_and, show bt 255 (31 - 24) = true by decide, Bool.and_true]
set_option maxHeartbeats 1000000 in
theorem sx16 (w : Int32) : ((w &&& 65535) <<< ((16 : Int32) &&& 31)) >>> ((16 : Int32) &&& 31) = w.toInt16.toInt32 := by
  apply ext32; intro i hi
  have e : bt (w.toInt16.toInt32) i = if i < 16 then bt w i else bt w 15 := by
    unfold bt
    rw [Int16.toBitVec_toInt32, Int32.toBitVec_toInt16, BitVec.getLsbD_signExtend, BitVec.msb_eq_getLsbD_last, BitVec.signExtend_eq_setWidth_of_le _ (by decide : 16 ≤ 32), BitVec.getLsbD_setWidth, BitVec.getLsbD_setWidth]
    by_cases h : i < 16 <;> simp [h, hi]
  rw [e, bt_sr _ _ hi, show sh 16 = 16 from rfl]
  by_cases h : i < 16
  · rw [if_pos (by omega), if_pos h, bt_sl _ _ (by omega), show sh 16 = 16 from rfl, if_neg (by omega), bt_and, show 16 + i - 16 = i by omega, show bt 65535 i = true from (by decide : ∀ i, i < 16 → bt 65535 i = true) i h, Bool.and_true]
  · rw [if_neg (by omega), if_neg h, bt_sl _ _ (by omega), show sh 16 = 16 from rfl, if_neg (by omega), bt_and, show bt 65535 (31 - 16) = true by decide, Bool.and_true]
def kd (k : Int32) : Int32 := if k = 0 then 4 else if k = 1 then 1 else if k = 2 then 2 else if k = 3 then -1 else -2
set_option maxHeartbeats 1000000 in
theorem load_E (h : R0 σ τ) {a : Int32} (ha : y_Model_isThere a = true) {k : Int32} (hk : k = 0 ∨ k = 1 ∨ k = 2 ∨ k = 3 ∨ k = 4) : y_Model_loaded τ a (kd k) = x_Memory_load σ k a := by
  unfold y_Model_loaded y_Model_loaded_21 y_Model_loaded_34 x_Memory_load
  rw [wordAt_E h ha, byte_E h ha, half_E h ha]
  rcases hk with rfl | rfl | rfl | rfl | rfl
  · rfl
  · rfl
  · rfl
  · exact sx8 _
  · exact sx16 _
set_option maxHeartbeats 1000000 in
theorem put_E (h : R0 σ τ) {a : Int32} (ha : y_Model_isThere a = true) (v : Int32) : R0 (x_Memory_putWord σ a v) (t_memory τ (upd (m_memory τ) (a / 4).toNatClampNeg v)) := by
  obtain ⟨n, hn, rfl⟩ := there_nat ha
  refine ⟨⟨?_, h.1.2⟩, h.2⟩
  show upd (c_words σ) _ v = upd (m_memory τ) _ v
  rw [ix_c hn, ix_m hn, h.1.1]
set_option maxHeartbeats 1000000 in
theorem put_R1 (h : R1 σ τ) {a : Int32} (ha : y_Model_isThere a = true) (v : Int32) : R1 (x_Memory_putWord σ a v) (t_memory τ (upd (m_memory τ) (a / 4).toNatClampNeg v)) := ⟨put_E h.1 ha v, h.2⟩
set_option maxHeartbeats 1000000 in
theorem st_bits (w v mask : Int32) (s : Int32) : ((w &&& ((mask <<< (s &&& 31)) ^^^ (-1))) ||| ((v <<< (s &&& 31)) &&& (mask <<< (s &&& 31)))) = ((w &&& ((mask <<< (s &&& 31)) ^^^ (-1))) ||| ((v &&& mask) <<< (s &&& 31))) := by
  apply ext32; intro i hi
  rw [bt_or, bt_or, bt_and (v <<< _), bt_sl v _ hi, bt_sl mask _ hi, bt_sl (v &&& mask) _ hi, bt_and v mask]
  by_cases h : i < sh s
  · simp only [if_pos h]; simp
  · simp only [if_neg h]
set_option maxHeartbeats 1000000 in
theorem store_R1 (h : R1 σ τ) {a : Int32} (ha : y_Model_isThere a = true) {k : Int32} (hk : k = 0 ∨ k = 1 ∨ k = 2) (v : Int32) : R1 (x_Memory_store σ k a v) (y_Model_storeAt τ a (kd k) v) := by
  rcases hk with rfl | rfl | rfl
  · have e : y_Model_storeAt τ a (kd 0) v = t_memory τ (upd (m_memory τ) (a / 4).toNatClampNeg v) := by
      show t_memory τ (upd (m_memory τ) (a / 4).toNatClampNeg (((m_memory τ (a / 4).toNatClampNeg) &&& ((-1) ^^^ (-1))) ||| ((v <<< ((0 : Int32) &&& 31)) &&& (-1)))) = _
      congr 2
      apply ext32; intro i hi
      rw [bt_or, bt_and, bt_and, bt_neg1 hi, bt_sl _ _ hi, show sh 0 = 0 from rfl, if_neg (by omega), bt_xor, bt_neg1 hi]
      simp
    rw [e]; exact put_R1 h ha v
  · have e : y_Model_storeAt τ a (kd 1) v = t_memory τ (upd (m_memory τ) (a / 4).toNatClampNeg (((x_Memory_word σ a) &&& (((255 : Int32) <<< ((8 * (a &&& 3)) &&& 31)) ^^^ (-1))) ||| ((v &&& 255) <<< ((8 * (a &&& 3)) &&& 31)))) := by
      show t_memory τ (upd (m_memory τ) (a / 4).toNatClampNeg (((m_memory τ (a / 4).toNatClampNeg) &&& (((255 : Int32) <<< ((8 * (a - a / 4 * 4)) &&& 31)) ^^^ (-1))) ||| ((v <<< ((8 * (a - a / 4 * 4)) &&& 31)) &&& ((255 : Int32) <<< ((8 * (a - a / 4 * 4)) &&& 31))))) = _
      rw [mod_E ha, st_bits, word_E h.1 ha]
    rw [e]
    exact put_R1 h ha _
  · have e : y_Model_storeAt τ a (kd 2) v = t_memory τ (upd (m_memory τ) (a / 4).toNatClampNeg (((x_Memory_word σ a) &&& (((65535 : Int32) <<< ((8 * (a &&& 2)) &&& 31)) ^^^ (-1))) ||| ((v &&& 65535) <<< ((8 * (a &&& 2)) &&& 31)))) := by
      show t_memory τ (upd (m_memory τ) (a / 4).toNatClampNeg (((m_memory τ (a / 4).toNatClampNeg) &&& (((65535 : Int32) <<< ((8 * (a &&& 2)) &&& 31)) ^^^ (-1))) ||| ((v <<< ((8 * (a &&& 2)) &&& 31)) &&& ((65535 : Int32) <<< ((8 * (a &&& 2)) &&& 31))))) = _
      rw [st_bits, word_E h.1 ha]
    rw [e]
    exact put_R1 h ha _
end R
