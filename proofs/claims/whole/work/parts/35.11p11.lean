set_option maxHeartbeats 1000000 in
theorem bt4_0 (x : Int32) : x &&& 3 = 0 ∨ x &&& 3 = 1 ∨ x &&& 3 = 2 ∨ x &&& 3 = 3 := and3_cases x
set_option maxHeartbeats 1000000 in
theorem k4 (x : Int32) : ∃ k, k < 4 ∧ x &&& 3 = nI k := by
  obtain ⟨k, hk, e⟩ := andN x 3
  exact ⟨k, Nat.lt_succ_of_le hk, e⟩
set_option maxHeartbeats 1000000 in
theorem k256 (x : Int32) : ∃ k, k < 256 ∧ x &&& 255 = nI k := by
  obtain ⟨k, hk, e⟩ := andN x 255
  exact ⟨k, Nat.lt_succ_of_le hk, e⟩
set_option maxHeartbeats 1000000 in
theorem k32 (v y : Int32) : ∃ k, k < 32 ∧ x_Bits_five v y = nI k := by
  obtain ⟨k, hk, e⟩ := andN (iu v y) 31
  exact ⟨k, Nat.lt_succ_of_le hk, e⟩
set_option maxHeartbeats 1000000 in
theorem f2_5' (v : Int32) : (v >>> ((5 : Int32) &&& 31)) &&& 3 = (iu v 5) &&& 3 := f2 v 5 (by decide)
set_option maxHeartbeats 1000000 in
theorem f5_7 (v : Int32) : (v >>> ((7 : Int32) &&& 31)) &&& 31 = x_Bits_five v 7 := f5 v 7 (by decide)
set_option maxHeartbeats 1000000 in
theorem off_eq (i : Int32) : ((i >>> ((4 : Int32) &&& 31)) &&& 240) ||| (x_Bits_four i 0) = (16 * (x_Bits_four i 8)) + (x_Bits_four i 0) := by
  have e : (i >>> ((4 : Int32) &&& 31)) &&& 240 = (x_Bits_four i 8) <<< ((4 : Int32) &&& 31) := by
    rw [fld i 4 240 (by decide)]
    unfold x_Bits_four
    apply ext32; intro j hj
    rw [bt_and, bt_iu, bt_sl _ _ hj, bt_and, bt_iu, show sh 4 = 4 from rfl, show sh 8 = 8 from rfl]
    by_cases h : j < 4
    · rw [if_pos h, (by decide : ∀ j, j < 4 → bt 240 j = false) j h, Bool.and_false]
    · rw [if_neg h, show 8 + (j - 4) = 4 + j by omega, (by decide : ∀ j, j < 32 → ¬ j < 4 → bt 240 j = bt 15 (j - 4)) j hj h]
  rw [e]
  obtain ⟨a, ha, ea⟩ := rg4 i 8
  obtain ⟨b, hb, eb⟩ := rg4 i 0
  rw [ea, eb]
  exact (by decide +kernel : ∀ a, a < 16 → ∀ b, b < 16 → ((nI a) <<< ((4 : Int32) &&& 31)) ||| nI b = (16 * nI a) + nI b) a ha b hb
section R
variable {σ : CS} {τ : MS}
set_option maxHeartbeats 1000000 in
theorem halves_P (h : Go σ τ) (ht : x_Registers_thumb σ = false) (i : Int32) (h0 : ¬ (iu i 5) &&& 3 = 0) : Pst (x_ArmSet_halves σ i) (y_Model_halves τ i) := by
  have hv := h.1.1.value (rg4 i 0)
  unfold x_ArmSet_halves x_ArmSet_halves_22 x_ArmSet_halves_41 x_ArmSet_halves_86 y_Model_halves y_Model_halves_36 y_Model_halves_69 y_Model_undefined
  simp only [f2_5', f4_0 i, fld1_1, on_bt, Bool.decide_eq_true, off_eq, hv]
  have key : ∀ off k, (k = 2 ∨ (bt i (sh 20) = true ∧ (k = 3 ∨ k = 4))) → Pst (x_Transfers_indexed σ i k off) (y_Model_indexed τ i (kd k) off) := by
    intro off k hk
    refine idx_P h ht i ?_ ?_ off
    · rcases hk with rfl | ⟨-, rfl | rfl⟩
      · exact Or.inr (Or.inr (Or.inl rfl))
      · exact Or.inr (Or.inr (Or.inr (Or.inl rfl)))
      · exact Or.inr (Or.inr (Or.inr (Or.inr rfl)))
    · intro hb
      rcases hk with rfl | ⟨h1, -⟩
      · exact Or.inr (Or.inr rfl)
      · rw [h1] at hb; exact absurd hb (by decide)
  rcases and3_cases (iu i 5) with e | e | e | e
  · exact absurd e h0
  · rw [e]
    cases h20 : bt i (sh 20) <;> cases bt i (sh 22) <;> exact key _ 2 (Or.inl rfl)
  · rw [e]
    cases h20 : bt i (sh 20)
    · exact Pst.und h
    · cases bt i (sh 22) <;> exact key _ 3 (Or.inr ⟨h20, Or.inl rfl⟩)
  · rw [e]
    cases h20 : bt i (sh 20)
    · exact Pst.und h
    · cases bt i (sh 22) <;> exact key _ 4 (Or.inr ⟨h20, Or.inr rfl⟩)
set_option maxHeartbeats 1000000 in
theorem single_P (h : Go σ τ) (ht : x_Registers_thumb σ = false) (i : Int32) : Pst (x_ArmSet_transfer σ i) (y_Model_single τ i) := by
  have hv := h.1.1.value (rg4 i 0)
  unfold x_ArmSet_transfer x_ArmSet_transfer_21 x_ArmSet_transfer_38 x_ArmSet_shiftedByNumber y_Model_single y_Model_single_34 y_Model_single_51 y_Model_undefined
  simp only [f2_5', f5_7, f4_0 i, fld1_1, on_bt, Bool.decide_eq_true, hv]
  obtain ⟨r, c, e1, e2⟩ := shiftBy_E h.1.1 (k4 (iu i 5)) (k32 i 7) (x_Registers_read σ (x_Bits_four i 0))
  rw [e1, e2]
  have key : ∀ (b : Bool) (σ' : CS) (τ' : MS) off, Go σ' τ' → x_Registers_thumb σ' = false → Pst (x_Transfers_indexed σ' i (b01 b) off) (y_Model_indexed τ' i (if b = true then 1 else 4) off) := by
    intro b σ' τ' off hg ht'
    have : (if b = true then (1 : Int32) else 4) = kd (b01 b) := by cases b <;> rfl
    rw [this]
    refine idx_P hg ht' i ?_ ?_ off
    · cases b
      · exact Or.inl rfl
      · exact Or.inr (Or.inl rfl)
    · intro _
      cases b
      · exact Or.inl rfl
      · exact Or.inr (Or.inl rfl)
  cases bt i (sh 25)
  · have := key (bt i (sh 22)) σ τ (i &&& 4095) h ht
    revert this
    cases bt i (sh 22) <;> exact id
  · cases bt i (sh 4)
    · have := key (bt i (sh 22)) (s_carry σ (b01 c)) (t_carry τ c) r h ht
      revert this
      cases bt i (sh 22) <;> exact id
    · exact Pst.und h
set_option maxHeartbeats 1000000 in
theorem branch_P (h : Go σ τ) (ht : x_Registers_thumb σ = false) (i : Int32) : Pst (x_ArmSet_branch σ i) (y_Model_branch τ i) := by
  unfold x_ArmSet_branch x_ArmSet_branch_25 y_Model_branch y_Model_branch_22
  simp only [fld1_1, on_bt]
  have rd : ∀ (σ' : CS), x_Registers_thumb σ' = false → x_Registers_read σ' 15 = c_here σ' + 8 := by
    intro σ' h'
    unfold x_Registers_read
    rw [if_pos rfl, h']; rfl
  cases bt i (sh 24)
  · refine Pst.ok ?_
    show R1 (x_Registers_jump σ _) (y_Model_put τ 15 _)
    rw [rd σ ht, h.1.1.here]
    exact jump_R1 h.1.1 _
  · refine Pst.ok ?_
    show R1 (x_Registers_jump (x_Registers_write σ 14 (x_Registers_behind σ)) _) (y_Model_put (y_Model_put τ 14 (m_here τ + 4)) 15 _)
    have hb : x_Registers_behind σ = m_here τ + 4 := by unfold x_Registers_behind; rw [ht, ← h.1.1.here]; rfl
    rw [hb]
    have hw := h.1.1.write rg14 (m_here τ + 4)
    have ht' : x_Registers_thumb (x_Registers_write σ 14 (m_here τ + 4)) = false := ht
    rw [rd _ ht', hw.here]
    exact jump_R1 hw _
set_option maxHeartbeats 1000000 in
theorem rst_P (h : Go σ τ) (i : Int32) : Pst (x_ArmSet_readStatus σ i) (if bt i (sh 22) = true then y_Model_put τ (x_Bits_four i 12) (y_Model_kept τ) else y_Model_put τ (x_Bits_four i 12) (m_cpsr τ)) := by
  unfold x_ArmSet_readStatus x_ArmSet_readStatus_26
  rw [kept_E h.1.1, h.1.1.cpsr]
  simp only [on_bt]
  cases bt i (sh 22)
  · exact Pst.ok (h.1.write (rg4 i 12) _)
  · exact Pst.ok (h.1.write (rg4 i 12) _)
set_option maxHeartbeats 1000000 in
theorem wst_P (h : Go σ τ) (i v : Int32) : Pst (x_ArmSet_writeStatus σ i v) (y_Model_toStatus_26 τ i v τ) := by
  unfold x_ArmSet_writeStatus x_ArmSet_writeStatus_15 x_ArmSet_writeStatus_31 y_Model_toStatus_26 y_Model_toStatus_59 y_Model_toStatus_76 y_Model_toStatus_141
  simp only [fld1_1, on_bt, Bool.decide_eq_true]
  have key : ∀ m : Int32, (m = 0 ∨ m = -268435456 ∨ m = 255 ∨ m = -268435201) → Pst (if bt i (sh 22) = true then (-1, x_Registers_mixIntoSpsr σ v m) else (-1, x_Registers_mixIntoCpsr σ v m)) (if bt i (sh 22) = true then (if (y_Model_hasSaved τ) = true then t_spsr τ (upd (m_spsr τ) (y_Model_bank (y_Model_mode τ)).toNatClampNeg (((y_Model_kept τ) &&& (m ^^^ (-1))) ||| (v &&& m))) else τ) else (if (y_Model_mode τ) = 16 then y_Model_putStatus τ (((m_cpsr τ) &&& ((m &&& (-268435456)) ^^^ (-1))) ||| (v &&& (m &&& (-268435456)))) else y_Model_putStatus τ (((m_cpsr τ) &&& ((m &&& (-33)) ^^^ (-1))) ||| (v &&& (m &&& (-33)))))) := by
    intro m hm
    cases bt i (sh 22)
    · exact Pst.ok (mixM_R1 h.1 hm v)
    · exact Pst.ok (mixS_R1 h.1 (by rcases hm with rfl | rfl | rfl | rfl <;> decide) v)
  cases bt i (sh 19) <;> cases bt i (sh 16)
  · exact key 0 (Or.inl rfl)
  · exact key 255 (Or.inr (Or.inr (Or.inl rfl)))
  · exact key (-268435456) (Or.inr (Or.inl rfl))
  · exact key (-268435201) (Or.inr (Or.inr (Or.inr rfl)))
end R
