section R
variable {σ : CS} {τ : MS}
set_option maxHeartbeats 1000000 in
theorem sr_nn {i : Int32} (h : bt i 31 = false) (y : Int32) : i >>> (y &&& 31) = iu i y := by
  apply ext32; intro j hj
  rw [bt_sr _ _ hj, bt_iu]
  by_cases hs : sh y + j < 32
  · rw [if_pos hs]
  · rw [if_neg hs, h, bt_ge i (by omega)]
set_option maxHeartbeats 1000000 in
theorem iu_nI {k : Nat} (hk : k < 65536) (y : Int32) : iu (nI k) y = nI (k / 2 ^ sh y) := by
  apply ext_nat
  have hd : k / 2 ^ sh y ≤ k := Nat.div_le_self _ _
  show un (iu (nI k) y) = _
  rw [un_iu, nI_bvn (by omega)]
  show (nI k).toBitVec.toNat / _ = _
  rw [nI_bvn (by omega)]
set_option maxHeartbeats 1000000 in
theorem bt_nI {k : Nat} (hk : k < 65536) {j : Nat} (hj : j < 32) : bt (nI k) j = decide (k / 2 ^ j % 2 = 1) := by
  unfold bt
  rw [nI_bv, BitVec.getLsbD_ofNat, decide_eq_true hj, Bool.true_and, Nat.testBit_eq_decide_div_mod_eq]
set_option maxHeartbeats 1000000 in
theorem nI_inj {a b : Nat} (ha : a < 65536) (hb : b < 65536) : nI a = nI b ↔ a = b := by
  constructor
  · intro h
    have := congrArg (fun z : Int32 => z.toBitVec.toNat) h
    simp only [nI_bvn (show a < 2147483648 by omega), nI_bvn (show b < 2147483648 by omega)] at this
    exact this
  · intro h; rw [h]
set_option maxHeartbeats 1000000 in
theorem nI_leP {a b : Nat} (ha : a < 65536) (hb : b < 65536) : nI a ≤ nI b ↔ a ≤ b := by
  rw [Int32.le_iff_toInt_le, nI_int (by omega), nI_int (by omega)]; omega
set_option maxHeartbeats 1000000 in
theorem keep_P {σ1 : CS} {τ1 : MS} (h : R1 σ1 τ1) {d : Int32} (hd : rg d) (r : Int32) {c : Bool} (hc : m_carry τ1 = c) (hcσ : c_carry σ1 = b01 c) : Pst (x_ThumbSet_keepShifted σ1 d r) (y_Model_finish τ1 13 d 0 r true) := by
  have := fin_R1 h (op := 13) ⟨13, by decide, rfl⟩ hd 0 r hc _ rfl
  unfold x_ThumbSet_keepShifted x_Shifter_carry
  rw [hcσ]
  exact Pst.ok this
set_option maxHeartbeats 1000000 in
theorem apply_R1 (h : R1 σ τ) {op d : Int32} (ho : rg op) (hd : rg d) (a b : Int32) (hc : m_carry τ = bt (c_cpsr σ) 29) : R1 (x_Alu_apply σ op d a b) (y_Model_finish τ op d a b true) := by
  have := fin_R1 h ho hd a b hc _ rfl
  unfold x_Alu_apply
  rw [carry_bt]
  exact this
set_option maxHeartbeats 1000000 in
theorem apply_R1' (h : R1 σ τ) {op d : Int32} (ho : op = 2 ∨ op = 4 ∨ op = 10) (hd : rg d) (a b : Int32) : R1 (x_Alu_apply σ op d a b) (y_Model_finish τ op d a b true) := by
  have hr : rg op := by
    rcases ho with rfl | rfl | rfl
    · exact ⟨2, by decide, rfl⟩
    · exact ⟨4, by decide, rfl⟩
    · exact ⟨10, by decide, rfl⟩
  have := fin_R1 h hr hd a b (c := m_carry τ) rfl _ rfl
  have e : ∀ c c', x_Alu_compute σ op a b c = x_Alu_compute σ op a b c' := by
    intro c c'
    unfold x_Alu_compute x_Alu_compute_96 x_Alu_compute_116
    rcases ho with rfl | rfl | rfl <;> simp (decide := true) only [if_true, if_false]
  unfold x_Alu_apply
  rw [e (x_Registers_carry σ) (b01 (m_carry τ))]
  exact this
set_option maxHeartbeats 1000000 in
theorem early_P (h : Go σ τ) (i : Int32) (h31 : bt i 31 = false) (htop : (iu i 11) &&& 15 = (iu i 11) &&& 3) : Pst (x_ThumbSet_perform_76 σ i) (y_Model_early τ i (i &&& 7) ((i >>> ((3 : Int32) &&& 31)) &&& 7) ((i >>> ((6 : Int32) &&& 31)) &&& 7) ((i >>> ((6 : Int32) &&& 31)) &&& 31)) := by
  unfold x_ThumbSet_perform_76 y_Model_early y_Model_early_58 y_Model_early_76
  simp only [f3 i 3 (by decide), f3 i 6 (by decide), f5 i 6 (by decide), f3_0 i, fld1_1, f2 i 11 (by decide), h.1.1.at' (rg3 i 3) (ne3 i 3), h.1.1.at' (rg3 i 6) (ne3 i 6)]
  have e4 : x_Bits_four i 11 = (iu i 11) &&& 3 := htop
  rw [e4]
  obtain ⟨r, c, a1, a2⟩ := shiftBy_E h.1.1 (k4 (iu i 11)) (k32 i 6) (x_Registers_read σ (x_Bits_three i 3))
  rw [a2]
  have sh' : Pst (x_ThumbSet_shiftByNumber σ i) (y_Model_finish (t_carry τ c) 13 (x_Bits_three i 0) 0 r true) := by
    unfold x_ThumbSet_shiftByNumber
    rw [a1]
    exact keep_P (σ1 := s_carry σ (b01 c)) (τ1 := t_carry τ c) h.1 (rg3 i 0) r rfl rfl
  have ad : Pst (x_ThumbSet_addOrSubtract σ i) (if bt i (sh 10) = true then (if bt i (sh 9) = true then y_Model_finish τ 2 (x_Bits_three i 0) (x_Registers_read σ (x_Bits_three i 3)) (x_Bits_three i 6) true else y_Model_finish τ 4 (x_Bits_three i 0) (x_Registers_read σ (x_Bits_three i 3)) (x_Bits_three i 6) true) else (if bt i (sh 9) = true then y_Model_finish τ 2 (x_Bits_three i 0) (x_Registers_read σ (x_Bits_three i 3)) (x_Registers_read σ (x_Bits_three i 6)) true else y_Model_finish τ 4 (x_Bits_three i 0) (x_Registers_read σ (x_Bits_three i 3)) (x_Registers_read σ (x_Bits_three i 6)) true)) := by
    unfold x_ThumbSet_addOrSubtract x_ThumbSet_addOrSubtract_28 x_ThumbSet_addOrSubtract_43
    simp only [on_bt]
    cases bt i (sh 10) <;> cases bt i (sh 9) <;> simp only [Bool.false_eq_true, if_false, if_true]
    · exact Pst.ok (apply_R1' h.1 (Or.inr (Or.inl rfl)) (rg3 i 0) _ _)
    · exact Pst.ok (apply_R1' h.1 (Or.inl rfl) (rg3 i 0) _ _)
    · exact Pst.ok (apply_R1' h.1 (Or.inr (Or.inl rfl)) (rg3 i 0) _ _)
    · exact Pst.ok (apply_R1' h.1 (Or.inl rfl) (rg3 i 0) _ _)
  rcases and3_cases (iu i 11) with e | e | e | e <;> rw [e]
  · rw [if_neg (by decide), if_neg (by decide)]; exact sh'
  · rw [if_neg (by decide), if_neg (by decide)]; exact sh'
  · rw [if_neg (by decide), if_neg (by decide)]; exact sh'
  · rw [if_pos (by decide), if_pos (by decide)]; exact ad
set_option maxHeartbeats 1000000 in
theorem num_P (h : Go σ τ) (i : Int32) : Pst (x_ThumbSet_withNumber σ i) (y_Model_numbers τ ((iu i 11) &&& 3) (x_Bits_three i 8) (i &&& 255)) := by
  unfold x_ThumbSet_withNumber x_ThumbSet_withNumber_24 x_ThumbSet_withNumber_37 x_ThumbSet_withNumber_55 y_Model_numbers y_Model_numbers_40
  have ha : y_Model_at (t_carry τ (y_Model_is τ 29)) (x_Bits_three i 8) = x_Registers_read σ (x_Bits_three i 8) := h.1.1.at' (rg3 i 8) (ne3 i 8)
  have hc : m_carry (t_carry τ (y_Model_is τ 29)) = bt (c_cpsr σ) 29 := h.1.1.is 29
  have hR : R1 σ (t_carry τ (y_Model_is τ 29)) := h.1
  rw [ha]
  rcases and3_cases (iu i 11) with e | e | e | e <;> rw [e]
  · simp (decide := true) only [if_true, if_false]
    exact Pst.ok (apply_R1 hR (op := 13) ⟨13, by decide, rfl⟩ (rg3 i 8) _ _ hc)
  · simp (decide := true) only [if_true, if_false]
    exact Pst.ok (apply_R1 hR (op := 10) ⟨10, by decide, rfl⟩ (rg3 i 8) _ _ hc)
  · simp (decide := true) only [if_true, if_false]
    exact Pst.ok (apply_R1 hR (op := 4) ⟨4, by decide, rfl⟩ (rg3 i 8) _ _ hc)
  · simp (decide := true) only [if_true, if_false]
    exact Pst.ok (apply_R1 hR (op := 2) ⟨2, by decide, rfl⟩ (rg3 i 8) _ _ hc)
set_option maxHeartbeats 1000000 in
theorem two_P (h : Go σ τ) (i : Int32) : Pst (x_ThumbSet_ofTwoRegisters σ i) (y_Model_operations τ (x_Bits_four i 6) (x_Bits_three i 0) (x_Bits_three i 3)) := by
  unfold x_ThumbSet_ofTwoRegisters x_ThumbSet_ofTwoRegisters_100 x_ThumbSet_ofTwoRegisters_202 y_Model_operations y_Model_operations_67 y_Model_operations_86
  rw [h.1.1.at' (rg3 i 0) (ne3 i 0), h.1.1.at' (rg3 i 3) (ne3 i 3)]
  have hc : m_carry (t_carry τ (y_Model_is τ 29)) = bt (c_cpsr σ) 29 := h.1.1.is 29
  have hR : R1 σ (t_carry τ (y_Model_is τ 29)) := h.1
  have hd := rg3 i 0
  obtain ⟨k, hk, ek⟩ := rg4 i 6
  rw [ek]
  generalize x_Registers_read σ (x_Bits_three i 0) = A
  generalize x_Registers_read σ (x_Bits_three i 3) = B
  generalize x_Bits_three i 0 = d at *
  have sf : ∀ kind : Int32, (∃ k, k < 4 ∧ kind = nI k) → Pst (x_ThumbSet_keepShifted ((x_Shifter_shift σ kind A (B &&& 255) (x_Registers_carry σ)).2) d ((x_Shifter_shift σ kind A (B &&& 255) (x_Registers_carry σ)).1)) (y_Model_finish ((y_Model_shift (t_carry τ (y_Model_is τ 29)) kind A (B &&& 255)).2) 13 d 0 ((y_Model_shift (t_carry τ (y_Model_is τ 29)) kind A (B &&& 255)).1) true) := by
    intro kind hkd
    obtain ⟨r, c, a1, a2⟩ := shift_E hR.1 hkd (k256 B) A
    rw [a1, a2]
    exact keep_P (σ1 := s_carry σ (b01 c)) (τ1 := t_carry (t_carry τ (y_Model_is τ 29)) c) h.1 hd r rfl rfl
  have ap : ∀ op : Int32, rg op → Pst (-1, x_Alu_apply σ op d A B) (y_Model_finish (t_carry τ (y_Model_is τ 29)) op d A B true) := fun op ho => Pst.ok (apply_R1 hR ho hd _ _ hc)
  have w0 : y_Model_within (nI 0) 2 4 = false := by decide
  have w1 : y_Model_within (nI 1) 2 4 = false := by decide
  have w2 : y_Model_within (nI 2) 2 4 = true := by decide
  have w3 : y_Model_within (nI 3) 2 4 = true := by decide
  have w4 : y_Model_within (nI 4) 2 4 = true := by decide
  have w5 : y_Model_within (nI 5) 2 4 = false := by decide
  have w6 : y_Model_within (nI 6) 2 4 = false := by decide
  have w7 : y_Model_within (nI 7) 2 4 = false := by decide
  have w8 : y_Model_within (nI 8) 2 4 = false := by decide
  have w9 : y_Model_within (nI 9) 2 4 = false := by decide
  have w10 : y_Model_within (nI 10) 2 4 = false := by decide
  have w11 : y_Model_within (nI 11) 2 4 = false := by decide
  have w12 : y_Model_within (nI 12) 2 4 = false := by decide
  have w13 : y_Model_within (nI 13) 2 4 = false := by decide
  have w14 : y_Model_within (nI 14) 2 4 = false := by decide
  have w15 : y_Model_within (nI 15) 2 4 = false := by decide
  rcases (show k = 0 ∨ k = 1 ∨ k = 2 ∨ k = 3 ∨ k = 4 ∨ k = 5 ∨ k = 6 ∨ k = 7 ∨ k = 8 ∨ k = 9 ∨ k = 10 ∨ k = 11 ∨ k = 12 ∨ k = 13 ∨ k = 14 ∨ k = 15 by omega) with rfl | rfl | rfl | rfl | rfl | rfl | rfl | rfl | rfl | rfl | rfl | rfl | rfl | rfl | rfl | rfl
  · simp (decide := true) only [if_true, if_false, w0, w1, w2, w3, w4, w5, w6, w7, w8, w9, w10, w11, w12, w13, w14, w15]
    exact ap _ ⟨0, by decide, rfl⟩
  · simp (decide := true) only [if_true, if_false, w0, w1, w2, w3, w4, w5, w6, w7, w8, w9, w10, w11, w12, w13, w14, w15]
    exact ap _ ⟨1, by decide, rfl⟩
  · simp (decide := true) only [if_true, if_false, w0, w1, w2, w3, w4, w5, w6, w7, w8, w9, w10, w11, w12, w13, w14, w15]
    exact sf (nI 2 - 2) ⟨0, by decide, by decide⟩
  · simp (decide := true) only [if_true, if_false, w0, w1, w2, w3, w4, w5, w6, w7, w8, w9, w10, w11, w12, w13, w14, w15]
    exact sf (nI 3 - 2) ⟨1, by decide, by decide⟩
  · simp (decide := true) only [if_true, if_false, w0, w1, w2, w3, w4, w5, w6, w7, w8, w9, w10, w11, w12, w13, w14, w15]
    exact sf (nI 4 - 2) ⟨2, by decide, by decide⟩
  · simp (decide := true) only [if_true, if_false, w0, w1, w2, w3, w4, w5, w6, w7, w8, w9, w10, w11, w12, w13, w14, w15]
    exact ap _ ⟨5, by decide, rfl⟩
  · simp (decide := true) only [if_true, if_false, w0, w1, w2, w3, w4, w5, w6, w7, w8, w9, w10, w11, w12, w13, w14, w15]
    exact ap _ ⟨6, by decide, rfl⟩
  · simp (decide := true) only [if_true, if_false, w0, w1, w2, w3, w4, w5, w6, w7, w8, w9, w10, w11, w12, w13, w14, w15]
    exact sf 3 ⟨3, by decide, by decide⟩
  · simp (decide := true) only [if_true, if_false, w0, w1, w2, w3, w4, w5, w6, w7, w8, w9, w10, w11, w12, w13, w14, w15]
    exact ap _ ⟨8, by decide, rfl⟩
  · simp (decide := true) only [if_true, if_false, w0, w1, w2, w3, w4, w5, w6, w7, w8, w9, w10, w11, w12, w13, w14, w15]
    exact Pst.ok (apply_R1 hR (op := 3) ⟨3, by decide, rfl⟩ hd _ _ hc)
  · simp (decide := true) only [if_true, if_false, w0, w1, w2, w3, w4, w5, w6, w7, w8, w9, w10, w11, w12, w13, w14, w15]
    exact ap _ ⟨10, by decide, rfl⟩
  · simp (decide := true) only [if_true, if_false, w0, w1, w2, w3, w4, w5, w6, w7, w8, w9, w10, w11, w12, w13, w14, w15]
    exact ap _ ⟨11, by decide, rfl⟩
  · simp (decide := true) only [if_true, if_false, w0, w1, w2, w3, w4, w5, w6, w7, w8, w9, w10, w11, w12, w13, w14, w15]
    exact ap _ ⟨12, by decide, rfl⟩
  · simp (decide := true) only [if_true, if_false, w0, w1, w2, w3, w4, w5, w6, w7, w8, w9, w10, w11, w12, w13, w14, w15]
    exact Pst.ok (prod_R1 (hR.write hd (A * B)) _ (lg_i (A * B)).1 (lg_i (A * B)).2)
  · simp (decide := true) only [if_true, if_false, w0, w1, w2, w3, w4, w5, w6, w7, w8, w9, w10, w11, w12, w13, w14, w15]
    exact ap _ ⟨14, by decide, rfl⟩
  · simp (decide := true) only [if_true, if_false, w0, w1, w2, w3, w4, w5, w6, w7, w8, w9, w10, w11, w12, w13, w14, w15]
    exact ap _ ⟨15, by decide, rfl⟩
end R
