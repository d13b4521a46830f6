section R
variable {σ : CS} {τ : MS}
set_option maxHeartbeats 1000000 in
theorem fits_E (h : R0 σ τ) {c : Int32} (hc : rg c) (h15 : ¬ c = 15) : y_Model_isSo τ c = x_Registers_fits σ c := by
  have e31 : y_Model_is τ 31 = bt (c_cpsr σ) 31 := h.is 31
  have e30 : y_Model_is τ 30 = bt (c_cpsr σ) 30 := h.is 30
  have e29 : y_Model_is τ 29 = bt (c_cpsr σ) 29 := h.is 29
  have e28 : y_Model_is τ 28 = bt (c_cpsr σ) 28 := h.is 28
  have o30 : x_Bits_on (c_cpsr σ) 30 = bt (c_cpsr σ) 30 := on_bt _ _
  have o29 : x_Bits_on (c_cpsr σ) 29 = bt (c_cpsr σ) 29 := on_bt _ _
  have o28 : x_Bits_on (c_cpsr σ) 28 = bt (c_cpsr σ) 28 := on_bt _ _
  unfold y_Model_isSo x_Registers_fits y_Model_isSo_171 y_Model_isSo_172 y_Model_isSo_237 y_Model_isSo_238 x_Registers_fits_131 x_Registers_fits_132 x_Registers_fits_167 x_Registers_fits_168 x_Registers_fits_176
  rw [e31, e30, e29, e28, o30, o29, o28, dec_neg]
  generalize bt (c_cpsr σ) 31 = n
  generalize bt (c_cpsr σ) 30 = z
  generalize bt (c_cpsr σ) 29 = cc
  generalize bt (c_cpsr σ) 28 = v
  clear e31 e30 e29 e28 o30 o29 o28
  obtain ⟨k, hk, rfl⟩ := hc
  have hk : k < 15 := by
    rcases Nat.lt_or_ge k 15 with h1 | h1
    · exact h1
    · exact absurd (by rw [show k = 15 by omega]; rfl) h15
  revert n z cc v
  clear h h15
  revert k
  decide +kernel
end R
