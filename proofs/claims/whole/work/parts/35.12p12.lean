section R
variable {σ : CS} {τ : MS}
set_option maxHeartbeats 1000000 in
theorem cmp_E (h : R0 σ τ) {op : Int32} (ho : rg op) (a b : Int32) (c : Bool) : (x_Alu_compute σ op a b (b01 c)).1 = (y_Model_operate τ op a b).1 ∧ (∀ z, R0 z τ → R0 z (y_Model_operate τ op a b).2) ∧ (∃ f, (x_Alu_compute σ op a b (b01 c)).2 = s_flags σ f) := by
  rcases op_E h ho a b c with ⟨hs, r, cy, ov, hp, hq⟩ | ⟨hs, r, hp, hq⟩
  · rw [hp, hq]; exact ⟨rfl, fun z hz => hz, _, rfl⟩
  · rw [hp, hq]; exact ⟨rfl, fun z hz => hz, _, rfl⟩
set_option maxHeartbeats 1000000 in
theorem dat_P (h : Go σ τ) (i o a : Int32) {c : Bool} (hc : m_carry τ = c) (hcσ : c_carry σ = b01 c) {ahead : Int32} (hw : y_Model_operand τ (x_Bits_four i 16) ahead = a) (σ0 : CS) (τ0 : MS) : Pst (x_ArmSet_data_144 σ0 i o σ a) (y_Model_data_203 τ0 i ahead o τ) := by
  unfold x_ArmSet_data_144 x_ArmSet_data_191 x_ArmSet_data_222 y_Model_data_203 y_Model_data_279 x_Shifter_carry x_Alu_flags
  rw [hcσ]
  have f21 : (i >>> ((21 : Int32) &&& 31)) &&& 15 = x_Bits_four i 21 := f4 i 21 (by decide)
  simp only [f21, f4_16, f4_12, fld1_1, on_bt, Bool.decide_eq_true, hw]
  have ho := rg4 i 21
  have hd := rg4 i 12
  generalize x_Bits_four i 21 = op at *
  generalize x_Bits_four i 12 = d at *
  rw [within_T ho]
  cases bt i (sh 20)
  · have := fin0_R1 h.1 ho hd a o c
    simp only [Bool.false_eq_true, if_false]
    revert this
    cases x_Alu_isTest op
    · exact fun h => Pst.ok h
    · exact fun h => Pst.ok h
  · simp only [if_true]
    have key := fin_R1 h.1 ho hd a o hc _ rfl
    by_cases d15 : d = 15
    · rw [if_pos d15, if_pos d15]
      cases ht : x_Alu_isTest op
      · simp only [Bool.false_eq_true, if_false]
        refine Pst.ok ?_
        obtain ⟨e1, e2, f, e3⟩ := cmp_E h.1.1 ho a o c
        have hR : R0 (s_flags σ f) (y_Model_operate τ op a o).2 := e2 _ h.1.1
        have hr := restore_R0 hR
        rw [e1, e3, d15]
        have hj := jump_R1 hr (y_Model_operate τ op a o).1
        have ew : ∀ (z : CS) (x : Int32), x_Registers_write z 15 x = x_Registers_jump z x := fun z x => rfl
        rw [ew]
        revert hj
        split
        · exact id
        · exact id
      · rw [ht] at key
        simp only [if_true] at key ⊢
        exact Pst.ok key
    · rw [if_neg d15, if_neg d15]
      revert key
      cases x_Alu_isTest op
      · exact fun h => Pst.ok h
      · exact fun h => Pst.ok h
set_option maxHeartbeats 1000000 in
theorem mask25 (i : Int32) : decide ((i &&& 33554448) = 16) = (!bt i (sh 25) && bt i (sh 4)) := by
  refine dec_of (propext ?_)
  have e1 : ∀ (x : Int32), (x &&& 33554432 = 0 ↔ bt x 25 = false) := by
    intro x
    constructor
    · intro h
      have := congrArg (fun z => bt z 25) h
      simp only [bt_and, bt_zero] at this
      rw [show bt 33554432 25 = true by decide, Bool.and_true] at this
      exact this
    · intro h
      apply ext32; intro j hj
      rw [bt_and, bt_zero]
      by_cases hj2 : j = 25
      · subst hj2; rw [h]; rfl
      · rw [(by decide : ∀ j, j < 32 → ¬ j = 25 → bt 33554432 j = false) j hj hj2, Bool.and_false]
  have e2 : ∀ (x : Int32), (x &&& 16 = 16 ↔ bt x 4 = true) := by
    intro x
    constructor
    · intro h
      have := congrArg (fun z => bt z 4) h
      simp only [bt_and] at this
      rw [show bt 16 4 = true by decide, Bool.and_true] at this
      exact this
    · intro h
      apply ext32; intro j hj
      rw [bt_and]
      by_cases hj2 : j = 4
      · subst hj2; rw [h]; rfl
      · rw [(by decide : ∀ j, j < 32 → ¬ j = 4 → bt 16 j = false) j hj hj2, Bool.and_false]
  have := mask2 i 33554432 16 0 16 (by decide) (by decide) (by decide) (by decide)
  rw [show (33554432 : Int32) ||| 16 = 33554448 by decide, show (0 : Int32) ||| 16 = 16 by decide] at this
  rw [this, e1, e2]
  show (bt i 25 = false ∧ bt i 4 = true) ↔ ((!bt i 25 && bt i 4) = true)
  cases bt i 25 <;> cases bt i 4 <;> simp
set_option maxHeartbeats 1000000 in
theorem turned_E (h : R0 σ τ) (i : Int32) : ∃ (r : Int32) (c : Bool), x_Shifter_turnedNumber σ i (x_Registers_carry σ) = (r, s_carry σ (b01 c)) ∧ y_Model_turnedNumber τ i = (r, t_carry τ c) := by
  unfold x_Shifter_turnedNumber y_Model_turnedNumber
  rw [f4_8]
  refine shift_E h ⟨3, by decide, rfl⟩ ?_ _
  obtain ⟨k, hk, e⟩ := rg4 i 8
  refine ⟨2 * k, by omega, ?_⟩
  rw [e]
  exact (by decide : ∀ k, k < 16 → 2 * nI k = nI (2 * k)) k hk
set_option maxHeartbeats 1000000 in
theorem data_P (h : Go σ τ) (ht : x_Registers_thumb σ = false) (i : Int32) : Pst (x_ArmSet_data σ i) (y_Model_data τ i) := by
  unfold x_ArmSet_data x_ArmSet_data_45 x_ArmSet_data_61 x_ArmSet_data_116 x_ArmSet_data_118 x_ArmSet_shiftedByRegister x_ArmSet_shiftedByNumber y_Model_data y_Model_data_59 y_Model_data_60 y_Model_data_77 y_Model_data_97 y_Model_data_109 y_Model_undefined
  have f21 : (i >>> ((21 : Int32) &&& 31)) &&& 15 = x_Bits_four i 21 := f4 i 21 (by decide)
  have ho := rg4 i 21
  simp only [f21, f2_5', f5_7, f4_8, f4_0 i, fld1_1, on_bt, Bool.decide_eq_true, mask25]
  rw [within_T ho]
  obtain ⟨r1, c1, a1, b1⟩ := turned_E h.1.1 i
  obtain ⟨r2, c2, a2, b2⟩ := shift_E h.1.1 (k4 (iu i 5)) (k256 (x_Registers_readLate σ (x_Bits_four i 8))) (x_Registers_readLate σ (x_Bits_four i 0))
  obtain ⟨r3, c3, a3, b3⟩ := shiftBy_E h.1.1 (k4 (iu i 5)) (k32 i 7) (x_Registers_read σ (x_Bits_four i 0))
  rw [h.1.1.late (rg4 i 0), h.1.1.late (rg4 i 8), h.1.1.op8 ht (rg4 i 0), a1, a2, a3, b1, b2, b3]
  have d1 : Pst (x_ArmSet_data_144 σ i r1 (s_carry σ (b01 c1)) (x_Registers_read (s_carry σ (b01 c1)) (x_Bits_four i 16))) (y_Model_data_203 τ i 8 r1 (t_carry τ c1)) :=
    dat_P (σ := s_carry σ (b01 c1)) (τ := t_carry τ c1) h i r1 _ rfl rfl (R0.op8 (σ := s_carry σ (b01 c1)) (τ := t_carry τ c1) h.1.1 ht (rg4 i 16)) σ τ
  have d2 : Pst (x_ArmSet_data_144 σ i r2 (s_carry σ (b01 c2)) (x_Registers_readLate (s_carry σ (b01 c2)) (x_Bits_four i 16))) (y_Model_data_203 τ i 12 r2 (t_carry τ c2)) :=
    dat_P (σ := s_carry σ (b01 c2)) (τ := t_carry τ c2) h i r2 _ rfl rfl (R0.late (σ := s_carry σ (b01 c2)) (τ := t_carry τ c2) h.1.1 (rg4 i 16)) σ τ
  have d3 : Pst (x_ArmSet_data_144 σ i r3 (s_carry σ (b01 c3)) (x_Registers_read (s_carry σ (b01 c3)) (x_Bits_four i 16))) (y_Model_data_203 τ i 8 r3 (t_carry τ c3)) :=
    dat_P (σ := s_carry σ (b01 c3)) (τ := t_carry τ c3) h i r3 _ rfl rfl (R0.op8 (σ := s_carry σ (b01 c3)) (τ := t_carry τ c3) h.1.1 ht (rg4 i 16)) σ τ
  cases x_Alu_isTest (x_Bits_four i 21) <;> cases bt i (sh 20) <;> cases bt i (sh 25) <;> cases bt i (sh 4) <;> cases bt i (sh 7) <;>
    simp only [Bool.false_eq_true, if_false, if_true, Bool.not_true, Bool.not_false, Bool.true_and, Bool.false_and, Bool.and_true, Bool.and_false, Bool.and_self] <;>
    first
    | with_reducible exact d1
    | with_reducible exact d2
    | with_reducible exact d3
    | with_reducible exact Pst.und h
end R
