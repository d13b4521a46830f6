set_option maxHeartbeats 1000000 in
theorem two_bits (x : Int32) : x &&& 3 = (if bt x 1 = true then (if bt x 0 = true then 3 else 2) else (if bt x 0 = true then 1 else 0)) := by
  apply ext32; intro i hi
  rw [bt_and]
  by_cases h1 : i = 0
  · subst h1; cases bt x 0 <;> cases bt x 1 <;> decide
  by_cases h2 : i = 1
  · subst h2; cases bt x 0 <;> cases bt x 1 <;> decide
  rw [(by decide : ∀ i, i < 32 → ¬ i = 0 → ¬ i = 1 → bt 3 i = false) i hi h1 h2, Bool.and_false]
  cases bt x 0 <;> cases bt x 1
  · exact (bt_zero i).symm
  · exact ((by decide : ∀ i, i < 32 → ¬ i = 0 → ¬ i = 1 → bt 2 i = false) i hi h1 h2).symm
  · exact ((by decide : ∀ i, i < 32 → ¬ i = 0 → ¬ i = 1 → bt 1 i = false) i hi h1 h2).symm
  · exact ((by decide : ∀ i, i < 32 → ¬ i = 0 → ¬ i = 1 → bt 3 i = false) i hi h1 h2).symm
set_option maxHeartbeats 1000000 in
theorem lg_i (x : Int32) : (0 ≤ lg_cmp x.toInt64 0 ↔ 0 ≤ x) ∧ (lg_cmp x.toInt64 0 = 0 ↔ x = 0) := by
  constructor
  · unfold lg_cmp
    have hx : x.toInt64.toInt = x.toInt := Int32.toInt_toInt64 x
    have h0 : (0 : Int64).toInt = 0 := rfl
    rw [Int32.le_iff_toInt_le (x := 0) (y := x)]
    show _ ↔ (0 : Int) ≤ x.toInt
    by_cases h1 : x.toInt64 > 0
    · rw [if_pos h1]
      have : (0 : Int) < x.toInt := by have := Int64.lt_iff_toInt_lt.mp h1; rw [hx, h0] at this; exact this
      exact ⟨fun _ => by omega, fun _ => by decide⟩
    · rw [if_neg h1]
      by_cases h2 : x.toInt64 = 0
      · rw [if_pos h2]
        have : x.toInt = 0 := by rw [← hx, h2]; rfl
        exact ⟨fun _ => by omega, fun _ => by decide⟩
      · rw [if_neg h2]
        have h3 : ¬ (0 : Int) < x.toInt := fun e => h1 (Int64.lt_iff_toInt_lt.mpr (by rw [hx, h0]; exact e))
        have h4 : ¬ x.toInt = 0 := fun e => h2 (Int64.toInt_inj.mp (by rw [hx, h0]; exact e))
        exact ⟨fun e => absurd e (by decide), fun e => by omega⟩
  · rw [lg_eq]
    constructor
    · intro h
      apply Int32.toInt_inj.mp
      rw [← Int32.toInt_toInt64 x, h]; rfl
    · intro h; subst h; rfl
set_option maxHeartbeats 1000000 in
theorem hi_eq (v : Int64) : (lu v 32).toInt32 = (lsr v 32).toInt32 := by
  apply Int32.toBitVec_inj.mp
  have e1 : (lu v 32).toBitVec = v.toBitVec >>> 32 := by
    unfold lu
    rw [UInt64.toBitVec_toInt64, UInt64.toBitVec_shiftRight]
    rfl
  have e2 : (lsr v 32).toBitVec = v.toBitVec.sshiftRight 32 := by
    unfold lsr
    rw [Int64.toBitVec_shiftRight]
    rfl
  rw [Int64.toBitVec_toInt32, Int64.toBitVec_toInt32, BitVec.signExtend_eq_setWidth_of_le _ (by decide : 32 ≤ 64), BitVec.signExtend_eq_setWidth_of_le _ (by decide : 32 ≤ 64), e1, e2]
  apply BitVec.eq_of_getLsbD_eq
  intro i hi
  rw [BitVec.getLsbD_setWidth, BitVec.getLsbD_setWidth, BitVec.getLsbD_ushiftRight, BitVec.getLsbD_sshiftRight]
  have : ¬ 64 ≤ i := by omega
  simp [hi, this]
  intro h; omega
set_option maxHeartbeats 1000000 in
theorem f2_22 (v : Int32) : (v >>> ((22 : Int32) &&& 31)) &&& 3 = if bt v (sh 23) = true then (if bt v (sh 22) = true then 3 else 2) else (if bt v (sh 22) = true then 1 else 0) := by
  rw [f2 v 22 (by decide), two_bits, bt_iu, bt_iu]; rfl
set_option maxHeartbeats 1000000 in
theorem f2_5 (v : Int32) : (v >>> ((5 : Int32) &&& 31)) &&& 3 = (iu v 5) &&& 3 := f2 v 5 (by decide)
section R
variable {σ : CS} {τ : MS}
set_option maxHeartbeats 1000000 in
theorem mul_P (h : Go σ τ) (i : Int32) : Pst (x_ArmSet_multiply σ i) (y_Model_multiply τ i) := by
  unfold x_ArmSet_multiply x_ArmSet_multiply_93 x_ArmSet_multiply_161 x_ArmSet_multiply_228 x_ArmSet_multiply_246 y_Model_multiply y_Model_multiply_87 y_Model_multiply_153 y_Model_multiply_202 y_Model_multiply_231 y_Model_multiply_267 y_Model_undefined
  simp only [f2_22, f4_16, f4_12, f4_8, f4_0 i, fld1_1, on_bt, Bool.decide_eq_true]
  have hn := rg4 i 16
  have hd := rg4 i 12
  have hs := rg4 i 8
  have hm := rg4 i 0
  generalize x_Bits_four i 16 = n at *
  generalize x_Bits_four i 12 = d at *
  generalize x_Bits_four i 8 = s at *
  generalize x_Bits_four i 0 = m at *
  by_cases n15 : n = 15
  · rw [if_pos n15, if_pos n15]; exact Pst.und h
  rw [if_neg n15, if_neg n15]
  by_cases d15 : d = 15
  · rw [if_pos d15, if_pos d15]; exact Pst.und h
  rw [if_neg d15, if_neg d15]
  by_cases s15 : s = 15
  · rw [if_pos s15, if_pos s15]; exact Pst.und h
  rw [if_neg s15, if_neg s15]
  by_cases m15 : m = 15
  · rw [if_pos m15, if_pos m15]; exact Pst.und h
  rw [if_neg m15, if_neg m15]
  simp only [h.1.1.at' hn n15, h.1.1.at' hd d15, h.1.1.at' hs s15, h.1.1.at' hm m15]
  generalize x_Registers_read σ n = N
  generalize x_Registers_read σ d = D
  generalize x_Registers_read σ s = S
  generalize x_Registers_read σ m = M
  have short : ∀ (x : Int32), Pst (if bt i (sh 20) = true then (-1, x_Alu_flagsOfProduct (x_Registers_write σ n x) x.toInt64) else (-1, x_Registers_write σ n x)) (if bt i (sh 20) = true then y_Model_setFlags (y_Model_put τ n x) x else y_Model_put τ n x) := by
    intro x
    have hw := h.1.write hn x
    cases bt i (sh 20)
    · exact Pst.ok hw
    · exact Pst.ok (prod_R1 hw _ (lg_i x).1 (lg_i x).2)
  have long : ∀ (v : Int64), Pst (if bt i (sh 20) = true then (-1, x_Alu_flagsOfProduct (x_Registers_write (x_Registers_write σ d v.toInt32) n ((lu v 32).toInt32)) v) else (-1, x_Registers_write (x_Registers_write σ d v.toInt32) n ((lu v 32).toInt32))) (if bt i (sh 20) = true then (if 0 ≤ (lg_cmp v 0) then (if (lg_cmp v 0) = 0 then y_Model_setFlags (y_Model_put (y_Model_put τ d (v.toInt32)) n ((lsr v 32).toInt32)) 0 else y_Model_setFlags (y_Model_put (y_Model_put τ d (v.toInt32)) n ((lsr v 32).toInt32)) 1) else y_Model_setFlags (y_Model_put (y_Model_put τ d (v.toInt32)) n ((lsr v 32).toInt32)) (-1)) else y_Model_put (y_Model_put τ d (v.toInt32)) n ((lsr v 32).toInt32)) := by
    intro v
    rw [← hi_eq]
    have hw := (h.1.write hd v.toInt32).write hn ((lu v 32).toInt32)
    cases bt i (sh 20)
    · exact Pst.ok hw
    · simp only [if_true]
      refine Pst.ok ?_
      by_cases h1 : 0 ≤ lg_cmp v 0
      · rw [if_pos h1]
        by_cases h2 : lg_cmp v 0 = 0
        · rw [if_pos h2]; exact prod_R1 hw _ ⟨fun _ => by decide, fun _ => h1⟩ ⟨fun _ => rfl, fun _ => h2⟩
        · rw [if_neg h2]; exact prod_R1 hw _ ⟨fun _ => by decide, fun _ => h1⟩ ⟨fun e => absurd e h2, fun e => absurd e (by decide)⟩
      · rw [if_neg h1]; exact prod_R1 hw _ ⟨fun e => absurd e h1, fun e => absurd e (by decide)⟩ ⟨fun e => absurd (by rw [e]; decide) h1, fun e => absurd e (by decide)⟩
  unfold x_ArmSet_longProduct x_ArmSet_pair
  have hlm := long
  cases bt i (sh 23)
  · cases bt i (sh 22)
    · cases bt i (sh 21)
      · exact short _
      · exact short _
    · exact Pst.und h
  · by_cases hdn : d = n
    · simp only [if_true, if_pos hdn]
      cases bt i (sh 22) <;> exact Pst.und h
    · simp only [if_true, if_neg hdn]
      cases bt i (sh 22) <;> cases bt i (sh 21)
      · exact long _
      · exact long _
      · exact long _
      · exact long _
end R
