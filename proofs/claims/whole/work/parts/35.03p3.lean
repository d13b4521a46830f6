set_option maxHeartbeats 1000000 in
theorem one_bit (x : Int32) : x &&& 1 = b01 (bt x 0) := by
  apply ext32; intro i hi
  rw [bt_and]
  by_cases h : i = 0
  · subst h; cases bt x 0 <;> rfl
  · rw [show bt 1 i = false by revert i; decide]
    cases bt x 0
    · simp [b01, bt_zero]
    · simp; revert i; decide
set_option maxHeartbeats 1000000 in
theorem b01_1 (b : Bool) : b01 b = 1 ↔ b = true := by cases b <;> decide
set_option maxHeartbeats 1000000 in
theorem b01_0 (b : Bool) : b01 b = 0 ↔ b = false := by cases b <;> decide
set_option maxHeartbeats 1000000 in
theorem on_bt (v k : Int32) : x_Bits_on v k = bt v (sh k) := by
  unfold x_Bits_on
  rw [one_bit, bt_iu]
  show (if b01 (bt v (sh k + 0)) = 0 then false else true) = bt v (sh k)
  rw [Nat.add_zero]
  cases bt v (sh k) <;> rfl
set_option maxHeartbeats 1000000 in
theorem fld1 (v k : Int32) : (v >>> (k &&& 31)) &&& 1 = b01 (bt v (sh k)) := by
  rw [one_bit, bt_sr _ _ (by decide), Nat.add_zero, if_pos (sh_lt k)]
set_option maxHeartbeats 1000000 in
theorem fld1_1 (v k : Int32) : ((v >>> (k &&& 31)) &&& 1 = 1) = (bt v (sh k) = true) := by
  rw [fld1]; exact propext (b01_1 _)
set_option maxHeartbeats 1000000 in
theorem and1_1 (v : Int32) : (v &&& 1 = 1) = (bt v 0 = true) := by
  rw [one_bit]; exact propext (b01_1 _)
set_option maxHeartbeats 1000000 in
theorem and1_0 (v : Int32) : (v &&& 1 = 0) = (bt v 0 = false) := by
  rw [one_bit]; exact propext (b01_0 _)
set_option maxHeartbeats 1000000 in
theorem neg_bt (v : Int32) : (¬ 0 ≤ v) = (bt v 31 = true) := by
  apply propext
  unfold bt
  rw [← show v.toBitVec.msb = v.toBitVec.getLsbD 31 from BitVec.msb_eq_getLsbD_last _, BitVec.msb_eq_toInt, decide_eq_true_iff]
  rw [Int32.le_iff_toInt_le]
  show ¬ (0:Int) ≤ v.toBitVec.toInt ↔ _
  omega
set_option maxHeartbeats 1000000 in
theorem nn_bt (v : Int32) : (0 ≤ v) = (bt v 31 = false) := by
  have := neg_bt v
  apply propext
  constructor
  · intro h
    cases hb : bt v 31
    · rfl
    · rw [hb] at this; exact absurd h (this.mpr rfl)
  · intro h
    rw [h] at this
    exact Classical.not_not.mp (fun hc => absurd (this.mp hc) (by decide))
set_option maxHeartbeats 1000000 in
theorem dec_of {p : Prop} [Decidable p] {b : Bool} (h : p = (b = true)) : decide p = b := by
  cases b
  · exact decide_eq_false (fun hp => absurd (h.mp hp) (by decide))
  · exact decide_eq_true (h.mpr rfl)
set_option maxHeartbeats 1000000 in
theorem dec_neg (z : Int32) : decide (¬ 0 ≤ z) = bt z 31 := dec_of (neg_bt z)
set_option maxHeartbeats 1000000 in
theorem dec_1 (z : Int32) : decide (z &&& 1 = 1) = bt z 0 := dec_of (and1_1 z)
set_option maxHeartbeats 1000000 in
theorem dec_f (z k : Int32) : decide ((z >>> (k &&& 31)) &&& 1 = 1) = bt z (sh k) := dec_of (fld1_1 z k)
section R
variable {σ : CS} {τ : MS}
set_option maxHeartbeats 1000000 in
theorem R0.is (h : R0 σ τ) (k : Int32) : y_Model_is τ k = bt (c_cpsr σ) (sh k) := by
  unfold y_Model_is; rw [h.cpsr]; simp only [fld1_1]; cases bt (c_cpsr σ) (sh k) <;> rfl
set_option maxHeartbeats 1000000 in
theorem carry_bt (σ : CS) : x_Registers_carry σ = b01 (bt (c_cpsr σ) 29) := by
  unfold x_Registers_carry; rw [one_bit, bt_iu]; rfl
set_option maxHeartbeats 1000000 in
theorem over_bt (σ : CS) : x_Registers_overflow σ = b01 (bt (c_cpsr σ) 28) := by
  unfold x_Registers_overflow; rw [one_bit, bt_iu]; rfl
set_option maxHeartbeats 1000000 in
theorem R1.cp (h : R1 σ τ) {c' : Int32} (h1 : c' &&& 63 = c_cpsr σ &&& 63) (h2 : c' &&& (-268435201) = c') : R1 (s_cpsr σ c') (t_cpsr τ c') := by
  have e31 : c' &&& 31 = c_cpsr σ &&& 31 := by
    have := congrArg (fun z => z &&& 31) h1
    simp only [and_and32] at this
    exact this
  have e32 : c' &&& 32 = c_cpsr σ &&& 32 := by
    have := congrArg (fun z => z &&& 32) h1
    simp only [and_and32] at this
    exact this
  obtain ⟨⟨hA, hB, hC, ⟨hD1, hD2, hD3, hD4⟩, hE⟩, hal⟩ := h
  refine ⟨⟨hA, hB, hC, ⟨rfl, ?_, h2, ?_⟩, hE⟩, hal.of e32 rfl⟩
  · show okM c'
    unfold okM; rw [e31]; exact hD2
  · show c_bank σ = x_Registers_bankOf (c' &&& 31)
    rw [e31]; exact hD4
set_option maxHeartbeats 1000000 in
theorem R1.setM (h : R1 σ τ) : m_cpsr τ = c_cpsr σ := h.1.cpsr
end R
def nzE (c r : Int32) : Int32 := ((c &&& 1073741823) ||| (if 0 ≤ r then 0 else (-2147483648))) ||| (if r = 0 then 1073741824 else 0)
def cyE (c : Int32) (b : Bool) : Int32 := (c &&& (-536870913)) ||| (if b = true then 536870912 else 0)
def ovE (c : Int32) (b : Bool) : Int32 := (c &&& (-268435457)) ||| (if b = true then 268435456 else 0)
set_option maxHeartbeats 1000000 in
theorem setFlags_E (τ : MS) (r : Int32) : y_Model_setFlags τ r = t_cpsr τ (nzE (m_cpsr τ) r) := by
  unfold y_Model_setFlags y_Model_setFlags_18 nzE
  split <;> split <;> rfl
set_option maxHeartbeats 1000000 in
theorem setCarry_E (τ : MS) (b : Bool) : y_Model_setCarry τ b = t_cpsr τ (cyE (m_cpsr τ) b) := by
  unfold y_Model_setCarry cyE
  split <;> rfl
set_option maxHeartbeats 1000000 in
theorem setOver_E (τ : MS) (b : Bool) : y_Model_setOver τ b = t_cpsr τ (ovE (m_cpsr τ) b) := by
  unfold y_Model_setOver ovE
  split <;> rfl
set_option maxHeartbeats 1000000 in
theorem nzE63 (c r : Int32) : nzE c r &&& 63 = c &&& 63 := by
  unfold nzE
  split <;> split <;> (apply ext32; intro i hi; simp only [bt_and, bt_or]; generalize bt c i = b; revert b i; decide)
set_option maxHeartbeats 1000000 in
theorem cyE63 (c : Int32) (x : Bool) : cyE c x &&& 63 = c &&& 63 := by
  unfold cyE
  split <;> (apply ext32; intro i hi; simp only [bt_and, bt_or]; generalize bt c i = b; revert b i; decide)
set_option maxHeartbeats 1000000 in
theorem ovE63 (c : Int32) (x : Bool) : ovE c x &&& 63 = c &&& 63 := by
  unfold ovE
  split <;> (apply ext32; intro i hi; simp only [bt_and, bt_or]; generalize bt c i = b; revert b i; decide)
set_option maxHeartbeats 1000000 in
theorem and_or32 (a b m : Int32) : (a ||| b) &&& m = (a &&& m) ||| (b &&& m) := by
  apply ext32; intro i _; simp only [bt_and, bt_or]; cases bt a i <;> cases bt b i <;> cases bt m i <;> rfl
set_option maxHeartbeats 1000000 in
theorem and_comm3 (a m n : Int32) : (a &&& m) &&& n = (a &&& n) &&& m := by
  apply ext32; intro i _; simp only [bt_and]; cases bt a i <;> cases bt m i <;> cases bt n i <;> rfl
set_option maxHeartbeats 1000000 in
theorem nzEP {c : Int32} (h : c &&& (-268435201) = c) (r : Int32) : nzE c r &&& (-268435201) = nzE c r := by
  unfold nzE
  rw [and_or32, and_or32, and_comm3, h]
  split <;> split <;> rfl
set_option maxHeartbeats 1000000 in
theorem cyEP {c : Int32} (h : c &&& (-268435201) = c) (x : Bool) : cyE c x &&& (-268435201) = cyE c x := by
  unfold cyE
  rw [and_or32, and_comm3, h]
  split <;> rfl
set_option maxHeartbeats 1000000 in
theorem ovEP {c : Int32} (h : c &&& (-268435201) = c) (x : Bool) : ovE c x &&& (-268435201) = ovE c x := by
  unfold ovE
  rw [and_or32, and_comm3, h]
  split <;> rfl
def flE (n z : Bool) (c v : Int32) : Int32 := ((((if n = true then (-2147483648) else 0) ||| (if z = true then 1073741824 else 0)) ||| (c <<< ((29 : Int32) &&& 31))) ||| (v <<< ((28 : Int32) &&& 31)))
set_option maxHeartbeats 1000000 in
theorem keep_E (σ : CS) (n z : Bool) (c v : Int32) : x_Alu_keep σ n z c v = s_flags σ (flE n z c v) := by
  unfold x_Alu_keep x_Alu_keep_11 x_Alu_keep_21 flE
  cases n <;> cases z <;> rfl
set_option maxHeartbeats 1000000 in
theorem fl_sum (cp r : Int32) (c v : Bool) : (flE (decide (¬ 0 ≤ r)) (decide (r = 0)) (b01 c) (b01 v) &&& (-268435456)) ||| (cp &&& 268435455) = ovE (cyE (nzE cp r) c) v := by
  unfold flE ovE cyE nzE
  by_cases h1 : 0 ≤ r <;> by_cases h2 : r = 0 <;> simp only [h1, h2, decide_true, decide_false, not_true_eq_false, not_false_eq_true, if_true, if_false] <;>
  cases c <;> cases v <;>
  (apply ext32; intro i hi; simp only [bt_and, bt_or]; generalize bt cp i = b; revert b i; decide)
