set_option maxHeartbeats 1000000 in
theorem andN (z m : Int32) : ∃ k, k ≤ m.toBitVec.toNat ∧ z &&& m = nI k := by
  refine ⟨(z &&& m).toBitVec.toNat, ?_, ?_⟩
  · rw [Int32.toBitVec_and, BitVec.toNat_and]; exact Nat.and_le_right
  · apply Int32.toBitVec_inj.mp
    show _ = (Int32.ofNat _).toBitVec
    rw [Int32.toBitVec_ofNat']
    apply BitVec.eq_of_toNat_eq
    rw [BitVec.toNat_ofNat]
    exact (Nat.mod_eq_of_lt (BitVec.isLt _)).symm
def rg (i : Int32) : Prop := ∃ k, k < 16 ∧ i = nI k
set_option maxHeartbeats 1000000 in
theorem rg_and (z : Int32) : rg (z &&& 15) := by
  obtain ⟨k, hk, e⟩ := andN z 15
  exact ⟨k, Nat.lt_succ_of_le hk, e⟩
set_option maxHeartbeats 1000000 in
theorem rg_and7 (z : Int32) : rg (z &&& 7) := by
  obtain ⟨k, hk, e⟩ := andN z 7
  exact ⟨k, Nat.lt_of_le_of_lt hk (by decide), e⟩
set_option maxHeartbeats 1000000 in
theorem and7_ne (z : Int32) : ¬ (z &&& 7) = 15 := by
  obtain ⟨k, hk, e⟩ := andN z 7
  have hk : k < 8 := Nat.lt_succ_of_le hk
  rw [e]
  exact (by decide : ∀ k, k < 8 → ¬ nI k = 15) k hk
set_option maxHeartbeats 1000000 in
theorem rg13 : rg 13 := ⟨13, by decide, rfl⟩
set_option maxHeartbeats 1000000 in
theorem rg14 : rg 14 := ⟨14, by decide, rfl⟩
set_option maxHeartbeats 1000000 in
theorem rg15 : rg 15 := ⟨15, by decide, rfl⟩
abbrev m_raw (τ : MS) : Int32 := τ.2.2.2.2.2.2.1
def R0 (σ : CS) (τ : MS) : Prop :=
  (c_words σ = m_memory τ ∧ c_faults σ = m_faults τ ∧ c_steps σ = m_steps τ ∧ c_irq σ = m_lines τ 0 ∧ c_fiq σ = m_lines τ 1)
  ∧ (c_held σ = (if m_jumps τ = true then m_r τ else upd (m_r τ) 15 (m_here τ + m_length τ)) ∧ c_here σ = m_here τ)
  ∧ ((∀ k, k < 5 → c_spsrs σ (k+1) = m_spsr τ k) ∧ (∀ k, k < 5 → m_spsr τ k &&& (-268435201) = m_spsr τ k))
  ∧ (m_raw τ = c_cpsr σ ∧ okM (c_cpsr σ) ∧ c_cpsr σ &&& (-268435201) = c_cpsr σ ∧ c_bank σ = x_Registers_bankOf (c_cpsr σ &&& 31))
  ∧ m_fault τ = -1
def Al (σ : CS) : Prop := if x_Registers_thumb σ = true then c_held σ 15 &&& 1 = 0 else c_held σ 15 &&& 3 = 0
def R1 (σ : CS) (τ : MS) : Prop := R0 σ τ ∧ Al σ
def Lg (σ : CS) (τ : MS) : Prop := m_jumps τ = false ∧ m_length τ = (if x_Registers_thumb σ = true then 2 else 4)
def Go (σ : CS) (τ : MS) : Prop := R1 σ τ ∧ Lg σ τ
def Pst (q : Int32 × CS) (τ' : MS) : Prop := (q.1 = -1 ∧ R1 q.2 τ') ∨ (∃ τ, τ' = t_fault τ q.1 ∧ (q.1 = 0 ∨ q.1 = 1 ∨ q.1 = 2 ∨ q.1 = 3) ∧ Go q.2 τ)
set_option maxHeartbeats 1000000 in
theorem Pst.ok {σ : CS} {τ : MS} (h : R1 σ τ) : Pst (-1, σ) τ := Or.inl ⟨rfl, h⟩
set_option maxHeartbeats 1000000 in
theorem Pst.und {σ : CS} {τ : MS} (h : Go σ τ) : Pst (0, σ) (t_fault τ 0) := Or.inr ⟨τ, rfl, Or.inl rfl, h⟩
set_option maxHeartbeats 1000000 in
theorem Pst.swi {σ : CS} {τ : MS} (h : Go σ τ) : Pst (1, σ) (t_fault τ 1) := Or.inr ⟨τ, rfl, Or.inr (Or.inl rfl), h⟩
set_option maxHeartbeats 1000000 in
theorem Pst.pab {σ : CS} {τ : MS} (h : Go σ τ) : Pst (2, σ) (t_fault τ 2) := Or.inr ⟨τ, rfl, Or.inr (Or.inr (Or.inl rfl)), h⟩
set_option maxHeartbeats 1000000 in
theorem Pst.dab {σ : CS} {τ : MS} (h : Go σ τ) : Pst (3, σ) (t_fault τ 3) := Or.inr ⟨τ, rfl, Or.inr (Or.inr (Or.inr rfl)), h⟩
section R
variable {σ : CS} {τ : MS}
set_option maxHeartbeats 1000000 in
theorem R0.cpsr (h : R0 σ τ) : m_cpsr τ = c_cpsr σ := by
  obtain ⟨-, -, -, ⟨h1, h2, -, -⟩, -⟩ := h
  show fixM (m_raw τ) = _
  rw [h1]; exact (fixM_ok h2).symm
set_option maxHeartbeats 1000000 in
theorem R0.mode (h : R0 σ τ) : y_Model_mode τ = c_cpsr σ &&& 31 := by unfold y_Model_mode; rw [h.cpsr]
set_option maxHeartbeats 1000000 in
theorem R0.thumb (h : R0 σ τ) : y_Model_isThumb τ = x_Registers_thumb σ := by unfold y_Model_isThumb x_Registers_thumb; rw [h.cpsr]
set_option maxHeartbeats 1000000 in
theorem R0.okM (h : R0 σ τ) : okM (c_cpsr σ) := h.2.2.2.1.2.1
set_option maxHeartbeats 1000000 in
theorem R0.bank (h : R0 σ τ) : c_bank σ = x_Registers_bankOf (c_cpsr σ &&& 31) := h.2.2.2.1.2.2.2
set_option maxHeartbeats 1000000 in
theorem R0.here (h : R0 σ τ) : c_here σ = m_here τ := h.2.1.2
set_option maxHeartbeats 1000000 in
theorem pl_eq {m : Int32} (h : m = 17 ∨ m = 18 ∨ m = 19 ∨ m = 23 ∨ m = 27 ∨ m = 16 ∨ m = 31) {i : Int32} (hi : rg i) : (tPL ((16 * x_Registers_bankOf m) + i).toNatClampNeg).toNatClampNeg = (y_Model_placeOf m i).toNatClampNeg := by
  obtain ⟨k, hk, rfl⟩ := hi
  rcases h with rfl | rfl | rfl | rfl | rfl | rfl | rfl <;> (revert k; decide)
set_option maxHeartbeats 1000000 in
theorem pl_15 {m : Int32} (h : m = 17 ∨ m = 18 ∨ m = 19 ∨ m = 23 ∨ m = 27 ∨ m = 16 ∨ m = 31) {i : Int32} (hi : rg i) : (y_Model_placeOf m i).toNatClampNeg = 15 ↔ i = 15 := by
  obtain ⟨k, hk, rfl⟩ := hi
  rcases h with rfl | rfl | rfl | rfl | rfl | rfl | rfl <;> (revert k; decide)
set_option maxHeartbeats 1000000 in
theorem R0.heldp (h : R0 σ τ) {p : Nat} (hp : ¬ p = 15) : c_held σ p = m_r τ p := by
  rw [h.2.1.1]
  split
  · rfl
  · exact if_neg hp
set_option maxHeartbeats 1000000 in
theorem R0.heldIn (h : R0 σ τ) {m : Int32} (hm : m = 17 ∨ m = 18 ∨ m = 19 ∨ m = 23 ∨ m = 27 ∨ m = 16 ∨ m = 31) {i : Int32} (hi : rg i) (h15 : ¬ i = 15) : c_held σ (tPL ((16 * x_Registers_bankOf m) + i).toNatClampNeg).toNatClampNeg = m_r τ (y_Model_placeOf m i).toNatClampNeg := by
  rw [pl_eq hm hi]
  exact h.heldp (fun h => h15 ((pl_15 hm hi).mp h))
set_option maxHeartbeats 1000000 in
theorem R0.at (h : R0 σ τ) {i : Int32} (hi : rg i) (h15 : ¬ i = 15) : c_held σ (tPL ((16 * c_bank σ) + i).toNatClampNeg).toNatClampNeg = y_Model_at τ i := by
  unfold y_Model_at
  rw [h.bank, h.mode]
  exact h.heldIn h.okM hi h15
set_option maxHeartbeats 1000000 in
theorem R0.value (h : R0 σ τ) {i : Int32} (hi : rg i) : y_Model_value τ i = x_Registers_read σ i := by
  unfold y_Model_value x_Registers_read y_Model_operand
  rw [h.thumb, h.here]
  by_cases h15 : i = 15
  · simp only [if_pos h15]
  · simp only [if_neg h15, h.at hi h15]
    split <;> rfl
set_option maxHeartbeats 1000000 in
theorem R0.at' (h : R0 σ τ) {i : Int32} (hi : rg i) (h15 : ¬ i = 15) : y_Model_at τ i = x_Registers_read σ i := by
  rw [← h.at hi h15]; unfold x_Registers_read; rw [if_neg h15]
set_option maxHeartbeats 1000000 in
theorem R0.late (h : R0 σ τ) {i : Int32} (hi : rg i) : y_Model_operand τ i 12 = x_Registers_readLate σ i := by
  unfold y_Model_operand x_Registers_readLate x_Registers_readLateIn
  rw [h.here]
  by_cases h15 : i = 15
  · simp only [if_pos h15]
  · simp only [if_neg h15, h.at hi h15]
set_option maxHeartbeats 1000000 in
theorem R0.op8 (h : R0 σ τ) (ht : x_Registers_thumb σ = false) {i : Int32} (hi : rg i) : y_Model_operand τ i 8 = x_Registers_read σ i := by
  rw [← h.value hi]; unfold y_Model_value; rw [h.thumb, ht]; rfl
set_option maxHeartbeats 1000000 in
theorem R0.op4 (h : R0 σ τ) (ht : x_Registers_thumb σ = true) {i : Int32} (hi : rg i) : y_Model_operand τ i 4 = x_Registers_read σ i := by
  rw [← h.value hi]; unfold y_Model_value; rw [h.thumb, ht]; rfl
set_option maxHeartbeats 1000000 in
theorem upd_c {f : Nat → Int32} {p q : Nat} {x y : Int32} (h : ¬ p = q) : upd (upd f p x) q y = upd (upd f q y) p x := by
  funext j; unfold upd; by_cases h1 : j = q <;> by_cases h2 : j = p <;> simp [h1, h2] <;> omega
set_option maxHeartbeats 1000000 in
theorem upd_u {f : Nat → Int32} {p : Nat} {x y : Int32} : upd (upd f p x) p y = upd f p y := by
  funext j; unfold upd; by_cases h1 : j = p <;> simp [h1]
set_option maxHeartbeats 1000000 in
theorem n15 : (15 : Int32).toNatClampNeg = 15 := by decide
set_option maxHeartbeats 1000000 in
theorem R0.hold (h : R0 σ τ) {m : Int32} (hm : m = 17 ∨ m = 18 ∨ m = 19 ∨ m = 23 ∨ m = 27 ∨ m = 16 ∨ m = 31) {i : Int32} (hi : rg i) (h15 : ¬ i = 15) (v : Int32) : R0 (x_Registers_hold σ (x_Registers_bankOf m) i v) (t_r τ (upd (m_r τ) (y_Model_placeOf m i).toNatClampNeg v)) := by
  refine ⟨h.1, ⟨?_, h.2.1.2⟩, h.2.2⟩
  show upd (c_held σ) _ v = (if m_jumps τ = true then upd (m_r τ) (y_Model_placeOf m i).toNatClampNeg v else upd (upd (m_r τ) (y_Model_placeOf m i).toNatClampNeg v) 15 (m_here τ + m_length τ))
  have hp : ¬ (y_Model_placeOf m i).toNatClampNeg = 15 := fun h => h15 ((pl_15 hm hi).mp h)
  rw [pl_eq hm hi, h.2.1.1]
  split
  · rfl
  · exact upd_c (fun h => hp h.symm)
set_option maxHeartbeats 1000000 in
theorem Al.of {σ' : CS} (h : Al σ) (h1 : c_cpsr σ' &&& 32 = c_cpsr σ &&& 32) (h2 : c_held σ' 15 = c_held σ 15) : Al σ' := by
  unfold Al x_Registers_thumb at *
  rw [h1, h2]; exact h
set_option maxHeartbeats 1000000 in
theorem Al.hold (h : Al σ) {m : Int32} (hm : m = 17 ∨ m = 18 ∨ m = 19 ∨ m = 23 ∨ m = 27 ∨ m = 16 ∨ m = 31) {i : Int32} (hi : rg i) (h15 : ¬ i = 15) (v : Int32) : Al (x_Registers_hold σ (x_Registers_bankOf m) i v) := by
  refine h.of rfl ?_
  have hp : ¬ (y_Model_placeOf m i).toNatClampNeg = 15 := fun h => h15 ((pl_15 hm hi).mp h)
  show upd (c_held σ) _ v 15 = _
  rw [pl_eq hm hi]
  exact if_neg (fun h => hp h.symm)
set_option maxHeartbeats 1000000 in
theorem al1 (v : Int32) : (v &&& (-2)) &&& 1 = 0 := by
  apply ext32; intro i hi; rw [bt_and, bt_and]; generalize bt v i = b; revert b i; decide
set_option maxHeartbeats 1000000 in
theorem al3 (v : Int32) : (v &&& (-4)) &&& 3 = 0 := by
  apply ext32; intro i hi; rw [bt_and, bt_and]; generalize bt v i = b; revert b i; decide
set_option maxHeartbeats 1000000 in
theorem jump_R0 (h : R0 σ τ) (v : Int32) : R0 (x_Registers_jump σ v) (y_Model_put τ 15 v) := by
  unfold x_Registers_jump y_Model_put y_Model_trimmed
  rw [if_pos rfl, h.thumb]
  split
  · refine ⟨h.1, ⟨?_, h.2.1.2⟩, h.2.2⟩
    show upd (c_held σ) _ _ = upd (m_r τ) _ _
    rw [h.2.1.1, n15]
    split
    · rfl
    · exact upd_u
  · refine ⟨h.1, ⟨?_, h.2.1.2⟩, h.2.2⟩
    show upd (c_held σ) _ _ = upd (m_r τ) _ _
    rw [h.2.1.1, n15]
    split
    · rfl
    · exact upd_u
set_option maxHeartbeats 1000000 in
theorem jump_Al (σ : CS) (v : Int32) : Al (x_Registers_jump σ v) := by
  unfold x_Registers_jump
  by_cases ht : x_Registers_thumb σ = true
  · rw [if_pos ht]
    unfold Al
    rw [show x_Registers_thumb (s_held σ (upd (c_held σ) (15 : Int32).toNatClampNeg (v &&& (-2)))) = x_Registers_thumb σ from rfl, if_pos ht]
    exact al1 v
  · rw [if_neg ht]
    unfold Al
    rw [show x_Registers_thumb (s_held σ (upd (c_held σ) (15 : Int32).toNatClampNeg (v &&& (-4)))) = x_Registers_thumb σ from rfl, if_neg ht]
    exact al3 v
set_option maxHeartbeats 1000000 in
theorem jump_R1 (h : R0 σ τ) (v : Int32) : R1 (x_Registers_jump σ v) (y_Model_put τ 15 v) := ⟨jump_R0 h v, jump_Al σ v⟩
set_option maxHeartbeats 1000000 in
theorem R0.write (h : R0 σ τ) {i : Int32} (hi : rg i) (v : Int32) : R0 (x_Registers_write σ i v) (y_Model_put τ i v) := by
  unfold x_Registers_write
  by_cases h15 : i = 15
  · rw [if_pos h15, h15]; exact jump_R0 h v
  · rw [if_neg h15]
    unfold y_Model_put
    rw [if_neg h15, h.bank, h.mode]
    exact h.hold h.okM hi h15 v
set_option maxHeartbeats 1000000 in
theorem R1.write (h : R1 σ τ) {i : Int32} (hi : rg i) (v : Int32) : R1 (x_Registers_write σ i v) (y_Model_put τ i v) := by
  refine ⟨h.1.write hi v, ?_⟩
  unfold x_Registers_write
  by_cases h15 : i = 15
  · rw [if_pos h15]; exact jump_Al σ v
  · rw [if_neg h15, h.1.bank]
    exact h.2.hold h.1.okM hi h15 v
set_option maxHeartbeats 1000000 in
theorem R1.carry (h : R1 σ τ) (c : Int32) : R1 (s_carry σ c) τ := h
set_option maxHeartbeats 1000000 in
theorem R1.flags (h : R1 σ τ) (c : Int32) : R1 (s_flags σ c) τ := h
set_option maxHeartbeats 1000000 in
theorem R1.tcarry (h : R1 σ τ) (c : Bool) : R1 σ (t_carry τ c) := h
set_option maxHeartbeats 1000000 in
theorem R1.tover (h : R1 σ τ) (c : Bool) : R1 σ (t_over τ c) := h
end R
