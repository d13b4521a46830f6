def RC (σ : CS) (τ : MS) : Prop :=
  (c_words σ = m_memory τ ∧ c_faults σ = m_faults τ ∧ c_steps σ = m_steps τ ∧ c_irq σ = m_lines τ 0 ∧ c_fiq σ = m_lines τ 1)
  ∧ ((∀ k, k < 5 → c_spsrs σ (k+1) = m_spsr τ k) ∧ (∀ k, k < 5 → m_spsr τ k &&& (-268435201) = m_spsr τ k))
  ∧ (m_raw τ = c_cpsr σ ∧ okM (c_cpsr σ) ∧ c_cpsr σ &&& (-268435201) = c_cpsr σ ∧ c_bank σ = x_Registers_bankOf (c_cpsr σ &&& 31))
def RB (σ : CS) (τ : MS) : Prop := RC σ τ ∧ c_held σ = m_r τ ∧ Al σ
section R
variable {σ : CS} {τ : MS}
set_option maxHeartbeats 1000000 in
theorem RC.cpsr (h : RC σ τ) : m_cpsr τ = c_cpsr σ := by
  obtain ⟨-, -, h1, h2, -, -⟩ := h
  show fixM (m_raw τ) = _
  rw [h1]; exact (fixM_ok h2).symm
set_option maxHeartbeats 1000000 in
theorem R0.RC (h : R0 σ τ) : RC σ τ := ⟨h.1, h.2.2.1, h.2.2.2.1⟩
set_option maxHeartbeats 1000000 in
theorem ent_P (h : RC σ τ) (hh : ∀ p, ¬ p = 15 → c_held σ p = m_r τ p) {f : Int32} (hf : f = 0 ∨ f = 1 ∨ f = 2 ∨ f = 3 ∨ f = 4 ∨ f = 5) {back : Int32} (hb : x_Registers_linkOf σ f = back) : RB (x_Processor_take σ f) (y_Model_enter τ f back) := by
  have hcp := h.cpsr
  -- one form of both, for the mode m, its bank, the vector w and what is masked
  have core : ∀ (m w msk : Int32) (b : Nat), (m = 17 ∨ m = 18 ∨ m = 19 ∨ m = 23 ∨ m = 27) → b < 5 → y_Model_bank m = nI b → x_Registers_bankOf m = nI (b + 1) → (msk = 128 ∨ msk = 192) → w &&& (-4) = w → f.toNatClampNeg < 6 →
      ∀ (τ9 : MS), τ9 = t_cpsr τ (((c_cpsr σ &&& (-64)) ||| msk) ||| m) →
      ∀ (σ9 : CS), σ9 = s_faults σ (upd (c_faults σ) f.toNatClampNeg ((c_faults σ f.toNatClampNeg) + 1)) →
      RB (x_Registers_jump (x_Registers_write (x_Registers_changeSpsr (x_Registers_changeCpsr σ9 (((((c_cpsr σ) &&& (-33)) &&& (-32)) ||| msk) ||| m)) (c_bank (x_Registers_changeCpsr σ9 (((((c_cpsr σ) &&& (-33)) &&& (-32)) ||| msk) ||| m))) (c_cpsr σ)) 14 back) w) (y_Model_enter_158 τ f back τ9 m w) := by
    intro m w msk b hm hb5 hbm hbc hmsk hw hf6 τ9 eτ σ9 eσ
    obtain ⟨⟨hA1, hA2, hA3, hA4, hA5⟩, ⟨hC1, hC2⟩, ⟨hD1, hD2, hD3, hD4⟩⟩ := h
    have hm7 : m = 17 ∨ m = 18 ∨ m = 19 ∨ m = 23 ∨ m = 27 ∨ m = 16 ∨ m = 31 := by
      rcases hm with h | h | h | h | h
      · exact Or.inl h
      · exact Or.inr (Or.inl h)
      · exact Or.inr (Or.inr (Or.inl h))
      · exact Or.inr (Or.inr (Or.inr (Or.inl h)))
      · exact Or.inr (Or.inr (Or.inr (Or.inr (Or.inl h))))
    have ev : ((((c_cpsr σ) &&& (-33)) &&& (-32)) ||| msk) ||| m = ((c_cpsr σ &&& (-64)) ||| msk) ||| m := by rw [and_and32]; rfl
    have hnew : ∀ X, X = ((c_cpsr σ &&& (-64)) ||| msk) ||| m → X &&& 31 = m ∧ X &&& (-268435201) = X ∧ X &&& 32 = 0 := by
      intro X eX
      refine ⟨?_, ?_, ?_⟩
      · rw [eX]
        rcases hm with rfl | rfl | rfl | rfl | rfl <;> rcases hmsk with rfl | rfl <;> (apply ext32; intro i hi; simp only [bt_and, bt_or]; generalize bt (c_cpsr σ) i = z; revert z i; decide)
      · rw [eX, and_or32, and_or32, and_comm3, hD3]
        have e1 : msk &&& (-268435201) = msk := by rcases hmsk with rfl | rfl <;> decide
        have e2 : m &&& (-268435201) = m := by rcases hm with rfl | rfl | rfl | rfl | rfl <;> decide
        rw [e1, e2]
      · rw [eX]
        rcases hm with rfl | rfl | rfl | rfl | rfl <;> rcases hmsk with rfl | rfl <;> (apply ext32; intro i hi; simp only [bt_and, bt_or]; generalize bt (c_cpsr σ) i = z; revert z i; decide)
    rw [ev]
    obtain ⟨g1, g2, g3⟩ := hnew _ rfl
    generalize ((c_cpsr σ &&& (-64)) ||| msk) ||| m = X at *
    have ec : x_Registers_changeCpsr σ9 X = s_bank (s_cpsr σ9 X) (b + 1) := by
      unfold x_Registers_changeCpsr
      rw [g1, hbc, if_neg ((by decide : ∀ b, b < 5 → ¬ nI (b + 1) = -1) b hb5), g2, nI_toNat (by omega)]
    rw [ec]
    have eb : c_bank (s_bank (s_cpsr σ9 X) (b + 1)) = nI (b + 1) := by
      show nI ((b + 1) % 6) = _
      rw [Nat.mod_eq_of_lt (by omega)]
    unfold x_Registers_changeSpsr
    rw [eb, nI_toNat (by omega), hD3]
    have ewr : ∀ z : CS, c_bank z = nI (b + 1) → x_Registers_write z 14 back = s_held z (upd (c_held z) (y_Model_placeOf m 14).toNatClampNeg back) := by
      intro z hz
      unfold x_Registers_write x_Registers_hold
      rw [if_neg (by decide), hz, ← hbc, pl_eq hm7 rg14]
    rw [ewr (s_spsrs (s_bank (s_cpsr σ9 X) (b + 1)) (upd (c_spsrs (s_bank (s_cpsr σ9 X) (b + 1))) (b + 1) (c_cpsr σ))) eb]
    have ej : ∀ z : CS, c_cpsr z = X → x_Registers_jump z w = s_held z (upd (c_held z) 15 w) := by
      intro z hz
      unfold x_Registers_jump x_Registers_thumb
      rw [hz, g3, if_neg (by decide), hw, n15]
    rw [ej (s_held (s_spsrs (s_bank (s_cpsr σ9 X) (b + 1)) (upd (c_spsrs (s_bank (s_cpsr σ9 X) (b + 1))) (b + 1) (c_cpsr σ))) (upd (c_held (s_spsrs (s_bank (s_cpsr σ9 X) (b + 1)) (upd (c_spsrs (s_bank (s_cpsr σ9 X) (b + 1))) (b + 1) (c_cpsr σ)))) (y_Model_placeOf m 14).toNatClampNeg back)) rfl]
    unfold y_Model_enter_158
    rw [hbm, nI_toNat (by omega), n15]
    subst eσ eτ
    have hp : ¬ (y_Model_placeOf m 14).toNatClampNeg = 15 := fun e => absurd ((pl_15 hm7 rg14).mp e) (by decide)
    refine ⟨⟨⟨hA1, ?_, hA3, hA4, hA5⟩, ⟨?_, ?_⟩, ⟨rfl, ?_, g2, ?_⟩⟩, ?_, ?_⟩
    · show upd (c_faults σ) _ _ = upd (m_faults τ) _ _
      rw [hA2]; rfl
    · intro j hj
      show upd (c_spsrs σ) (b + 1) (c_cpsr σ) (j + 1) = upd (m_spsr τ) b (m_cpsr τ) j
      rw [hcp]
      unfold upd
      by_cases hjk : j = b
      · rw [if_pos (by omega), if_pos hjk]
      · rw [if_neg (by omega), if_neg hjk]; exact hC1 j hj
    · intro j hj
      show upd (m_spsr τ) b (m_cpsr τ) j &&& _ = upd (m_spsr τ) b (m_cpsr τ) j
      rw [hcp]
      unfold upd
      by_cases hjk : j = b
      · rw [if_pos hjk]; exact hD3
      · rw [if_neg hjk]; exact hC2 j hj
    · show okM X
      unfold okM; rw [g1]; exact hm7
    · show nI ((b + 1) % 6) = x_Registers_bankOf (X &&& 31)
      rw [g1, hbc, Nat.mod_eq_of_lt (by omega)]
    · show upd (upd (c_held σ) _ back) 15 w = upd (upd (m_r τ) _ back) 15 w
      funext j
      unfold upd
      by_cases hj : j = 15
      · rw [if_pos hj, if_pos hj]
      · rw [if_neg hj, if_neg hj]
        by_cases hj2 : j = (y_Model_placeOf m 14).toNatClampNeg
        · rw [if_pos hj2, if_pos hj2]
        · rw [if_neg hj2, if_neg hj2]; exact hh j hj
    · unfold Al x_Registers_thumb
      show if (if X &&& 32 = 0 then false else true) = true then _ else _
      rw [g3, if_neg (by decide)]
      show upd (upd (c_held σ) (y_Model_placeOf m 14).toNatClampNeg back) 15 w 15 &&& 3 = 0
      unfold upd
      rw [if_pos rfl, ← hw]; exact al3 w
  have lk : ∀ z : CS, z = s_faults σ (upd (c_faults σ) f.toNatClampNeg ((c_faults σ f.toNatClampNeg) + 1)) → x_Registers_linkOf z f = back := by
    intro z hz; subst hz; exact hb
  unfold x_Processor_take
  have hk : x_Fault_isKind f = true := by rcases hf with rfl | rfl | rfl | rfl | rfl | rfl <;> decide
  rw [if_pos hk]
  unfold x_Registers_enter x_Registers_enter_25 x_Fault_modeOf x_Fault_vectorOf
  rw [hk, if_pos rfl, if_pos rfl, lk _ rfl]
  unfold y_Model_enter y_Model_enter_41 y_Model_enter_79
  rw [hcp]
  rcases hf with rfl | rfl | rfl | rfl | rfl | rfl
  · simp (decide := true) only [if_true, if_false]
    exact core 27 4 128 4 (Or.inr (Or.inr (Or.inr (Or.inr rfl)))) (by decide) (by decide) (by decide) (Or.inl rfl) (by decide) (by decide) _ rfl _ rfl
  · simp (decide := true) only [if_true, if_false]
    exact core 19 8 128 2 (Or.inr (Or.inr (Or.inl rfl))) (by decide) (by decide) (by decide) (Or.inl rfl) (by decide) (by decide) _ rfl _ rfl
  · simp (decide := true) only [if_true, if_false]
    exact core 23 12 128 3 (Or.inr (Or.inr (Or.inr (Or.inl rfl)))) (by decide) (by decide) (by decide) (Or.inl rfl) (by decide) (by decide) _ rfl _ rfl
  · simp (decide := true) only [if_true, if_false]
    exact core 23 16 128 3 (Or.inr (Or.inr (Or.inr (Or.inl rfl)))) (by decide) (by decide) (by decide) (Or.inl rfl) (by decide) (by decide) _ rfl _ rfl
  · simp (decide := true) only [if_true, if_false]
    exact core 18 24 128 1 (Or.inr (Or.inl rfl)) (by decide) (by decide) (by decide) (Or.inl rfl) (by decide) (by decide) _ rfl _ rfl
  · simp (decide := true) only [if_true, if_false]
    refine core 17 28 192 0 (Or.inl rfl) (by decide) (by decide) (by decide) (Or.inr rfl) (by decide) (by decide) _ ?_ _ rfl
    have e1 : m_cpsr (t_cpsr τ (((c_cpsr σ &&& (-64)) ||| 128) ||| 17)) = ((c_cpsr σ &&& (-64)) ||| 128) ||| 17 := by
      show fixM (((c_cpsr σ &&& (-64)) ||| 128) ||| 17) = _
      refine (fixM_ok (Or.inl ?_)).symm
      apply ext32; intro i hi; simp only [bt_and, bt_or]; generalize bt (c_cpsr σ) i = z; revert z i; decide
    rw [e1]
    have e2 : (((c_cpsr σ &&& (-64)) ||| 128) ||| 17) ||| 64 = ((c_cpsr σ &&& (-64)) ||| 192) ||| 17 := by
      apply ext32; intro i hi; simp only [bt_and, bt_or]; generalize bt (c_cpsr σ) i = z; revert z i; decide
    rw [e2]; rfl
end R
