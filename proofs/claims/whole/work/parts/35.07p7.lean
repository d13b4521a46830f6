set_option maxHeartbeats 1000000 in
theorem bank_casesP (m : Int32) : ((m = 17 ∨ m = 18 ∨ m = 19 ∨ m = 23 ∨ m = 27 ∨ m = 16 ∨ m = 31) ∧ ¬ x_Registers_bankOf m = -1 ∧ 0 ≤ y_Model_bank m) ∨ (x_Registers_bankOf m = -1 ∧ y_Model_bank m = -1) := by
  by_cases h1 : m = 17
  · subst h1; left; decide
  by_cases h2 : m = 18
  · subst h2; left; decide
  by_cases h3 : m = 19
  · subst h3; left; decide
  by_cases h4 : m = 23
  · subst h4; left; decide
  by_cases h5 : m = 27
  · subst h5; left; decide
  by_cases h6 : m = 16
  · subst h6; left; decide
  by_cases h7 : m = 31
  · subst h7; left; decide
  right
  unfold x_Registers_bankOf y_Model_bank
  simp only [h1, h2, h3, h4, h5, h6, h7, if_false, and_self]
section R
variable {σ : CS} {τ : MS}
set_option maxHeartbeats 1000000 in
theorem chg_R0 (h : R0 σ τ) (v : Int32) : R0 (x_Registers_changeCpsr σ v) (y_Model_putStatus τ v) := by
  unfold x_Registers_changeCpsr y_Model_putStatus y_Model_putStatus_21
  rcases bank_casesP (v &&& 31) with ⟨hm, h1, h2⟩ | ⟨h1, h2⟩
  · rw [if_neg h1, if_pos h2]
    have e1 : ((v &&& (-268435201)) &&& (-32)) ||| (v &&& 31) = v &&& (-268435201) := by
      apply ext32; intro i hi; simp only [bt_and, bt_or]; generalize bt v i = b; revert b i; decide
    have e2 : (v &&& (-268435201)) &&& 31 = v &&& 31 := and_and32 _ _ _
    rw [e1]
    obtain ⟨hA, hB, hC, -, hE⟩ := h
    refine ⟨hA, hB, hC, ⟨rfl, ?_, ?_, ?_⟩, hE⟩
    · show okM (v &&& (-268435201))
      unfold okM; rw [e2]; exact hm
    · show (v &&& (-268435201)) &&& (-268435201) = _
      rw [and_and32]; rfl
    · show nI ((x_Registers_bankOf (v &&& 31)).toNatClampNeg % 6) = x_Registers_bankOf ((v &&& (-268435201)) &&& 31)
      rw [e2]
      rcases hm with e | e | e | e | e | e | e <;> rw [e] <;> decide
  · rw [if_pos h1, if_neg (by rw [h2]; decide), h.mode]
    obtain ⟨hA, hB, hC, ⟨hD1, hD2, hD3, hD4⟩, hE⟩ := h
    have e2 : (((v &&& (-268435201)) &&& (-32)) ||| (c_cpsr σ &&& 31)) &&& 31 = c_cpsr σ &&& 31 := by
      apply ext32; intro i hi; simp only [bt_and, bt_or]; generalize bt v i = b; generalize bt (c_cpsr σ) i = b2; revert b b2 i; decide
    have e3 : (((v &&& (-268435201)) &&& (-32)) ||| (c_cpsr σ &&& 31)) &&& (-268435201) = (((v &&& (-268435201)) &&& (-32)) ||| (c_cpsr σ &&& 31)) := by
      apply ext32; intro i hi; simp only [bt_and, bt_or]; generalize bt v i = b; generalize bt (c_cpsr σ) i = b2; revert b b2 i; decide
    refine ⟨hA, hB, hC, ⟨rfl, ?_, e3, ?_⟩, hE⟩
    · show okM (((v &&& (-268435201)) &&& (-32)) ||| (c_cpsr σ &&& 31))
      unfold okM; rw [e2]; exact hD2
    · show c_bank σ = x_Registers_bankOf ((((v &&& (-268435201)) &&& (-32)) ||| (c_cpsr σ &&& 31)) &&& 31)
      rw [e2]; exact hD4
set_option maxHeartbeats 1000000 in
theorem chg_T (σ : CS) (v : Int32) : c_cpsr (x_Registers_changeCpsr σ v) &&& 32 = v &&& 32 := by
  unfold x_Registers_changeCpsr
  split
  · show (((v &&& (-268435201)) &&& (-32)) ||| (c_cpsr σ &&& 31)) &&& 32 = _
    apply ext32; intro i hi; simp only [bt_and, bt_or]; generalize bt v i = b; generalize bt (c_cpsr σ) i = b2; revert b b2 i; decide
  · show (v &&& (-268435201)) &&& 32 = _
    exact and_and32 _ _ _
set_option maxHeartbeats 1000000 in
theorem chg_held (σ : CS) (v : Int32) : c_held (x_Registers_changeCpsr σ v) = c_held σ := by
  unfold x_Registers_changeCpsr
  split <;> rfl
set_option maxHeartbeats 1000000 in
theorem chg_R1 (h : R1 σ τ) {v : Int32} (hv : v &&& 32 = c_cpsr σ &&& 32) : R1 (x_Registers_changeCpsr σ v) (y_Model_putStatus τ v) :=
  ⟨chg_R0 h.1 v, h.2.of (by rw [chg_T, hv]) (by rw [chg_held])⟩
set_option maxHeartbeats 1000000 in
theorem R0.sp (h : R0 σ τ) {k : Nat} (hk : k < 5) : c_spsrs σ (k + 1) = m_spsr τ k := h.2.2.1.1 k hk
set_option maxHeartbeats 1000000 in
theorem R0.sv (h : R0 σ τ) : (c_bank σ = 0 ∧ y_Model_hasSaved τ = false ∧ y_Model_kept τ = c_cpsr σ) ∨ (∃ k, k < 5 ∧ c_bank σ = nI (k + 1) ∧ y_Model_hasSaved τ = true ∧ (y_Model_bank (y_Model_mode τ)).toNatClampNeg = k ∧ y_Model_kept τ = m_spsr τ k ∧ (c_bank σ).toNatClampNeg = k + 1) := by
  have hb := h.bank
  unfold y_Model_kept y_Model_hasSaved
  rw [h.mode, h.cpsr]
  rcases h.okM with e | e | e | e | e | e | e <;> rw [e] at hb ⊢ <;> rw [hb]
  · right; exact ⟨0, by decide, by decide, by decide, by decide, rfl, by decide⟩
  · right; exact ⟨1, by decide, by decide, by decide, by decide, rfl, by decide⟩
  · right; exact ⟨2, by decide, by decide, by decide, by decide, rfl, by decide⟩
  · right; exact ⟨3, by decide, by decide, by decide, by decide, rfl, by decide⟩
  · right; exact ⟨4, by decide, by decide, by decide, by decide, rfl, by decide⟩
  · left; exact ⟨by decide, by decide, rfl⟩
  · left; exact ⟨by decide, by decide, rfl⟩
set_option maxHeartbeats 1000000 in
theorem kept_E (h : R0 σ τ) : y_Model_kept τ = x_Registers_spsrOrCpsr σ := by
  unfold x_Registers_spsrOrCpsr
  rcases h.sv with ⟨h1, -, h3⟩ | ⟨k, hk, h1, -, -, h3, h4⟩
  · rw [if_pos h1, h3]
  · rw [if_neg (by rw [h1]; exact (by decide : ∀ k, k < 5 → ¬ nI (k + 1) = 0) k hk), h3, h4, h.sp hk]
set_option maxHeartbeats 1000000 in
theorem put_same (h : R0 σ τ) : y_Model_putStatus τ (c_cpsr σ) = τ := by
  unfold y_Model_putStatus y_Model_putStatus_21
  rcases bank_casesP (c_cpsr σ &&& 31) with ⟨hm, h1, h2⟩ | ⟨h1, h2⟩
  · rw [if_pos h2, h.2.2.2.1.2.2.1]
    have e : (c_cpsr σ &&& (-32)) ||| (c_cpsr σ &&& 31) = c_cpsr σ := by
      apply ext32; intro i hi; simp only [bt_and, bt_or]; generalize bt (c_cpsr σ) i = b; revert b i; decide
    rw [e, ← h.2.2.2.1.1]; rfl
  · rcases h.okM with e | e | e | e | e | e | e <;> rw [e] at h1 <;> exact absurd h1 (by decide)
set_option maxHeartbeats 1000000 in
theorem restore_R0 (h : R0 σ τ) : R0 (x_Registers_changeCpsr σ (x_Registers_spsrOrCpsr σ)) (if y_Model_hasSaved τ = true then y_Model_putStatus τ (y_Model_kept τ) else τ) := by
  rw [← kept_E h]
  rcases h.sv with ⟨h1, h2, h3⟩ | ⟨k, hk, h1, h2, -, h3, h4⟩
  · rw [if_neg (by rw [h2]; decide), h3]
    have := chg_R0 h (c_cpsr σ)
    rw [put_same h] at this
    exact this
  · rw [if_pos h2]; exact chg_R0 h _
set_option maxHeartbeats 1000000 in
theorem spsr_R1 (h : R1 σ τ) {k : Nat} (hk : k < 5) {x : Int32} (hx : x &&& (-268435201) = x) : R1 (s_spsrs σ (upd (c_spsrs σ) (k + 1) x)) (t_spsr τ (upd (m_spsr τ) k x)) := by
  obtain ⟨⟨hA, hB, ⟨hC1, hC2⟩, hD, hE⟩, hal⟩ := h
  refine ⟨⟨hA, hB, ⟨?_, ?_⟩, hD, hE⟩, hal⟩
  · intro j hj
    show upd (c_spsrs σ) (k + 1) x (j + 1) = upd (m_spsr τ) k x j
    unfold upd
    by_cases hjk : j = k
    · rw [if_pos (by omega), if_pos hjk]
    · rw [if_neg (by omega), if_neg hjk]; exact hC1 j hj
  · intro j hj
    show upd (m_spsr τ) k x j &&& _ = upd (m_spsr τ) k x j
    unfold upd
    by_cases hjk : j = k
    · rw [if_pos hjk]; exact hx
    · rw [if_neg hjk]; exact hC2 j hj
set_option maxHeartbeats 1000000 in
theorem mixS_R1 (h : R1 σ τ) {m : Int32} (hm : m &&& (-268435201) = m) (v : Int32) : R1 (x_Registers_mixIntoSpsr σ v m) (if y_Model_hasSaved τ = true then t_spsr τ (upd (m_spsr τ) (y_Model_bank (y_Model_mode τ)).toNatClampNeg (((y_Model_kept τ) &&& (m ^^^ (-1))) ||| (v &&& m))) else τ) := by
  unfold x_Registers_mixIntoSpsr x_Registers_changeSpsr
  rcases h.1.sv with ⟨h1, h2, h3⟩ | ⟨k, hk, h1, h2, h5, h3, h4⟩
  · rw [if_pos h1, if_neg (by rw [h2]; decide)]; exact h
  · rw [if_neg (by rw [h1]; exact (by decide : ∀ k, k < 5 → ¬ nI (k + 1) = 0) k hk), if_pos h2, h5, h3, h4, h.1.sp hk]
    have e : (((m_spsr τ k) &&& (m ^^^ (-1))) ||| (v &&& m)) &&& (-268435201) = (((m_spsr τ k) &&& (m ^^^ (-1))) ||| (v &&& m)) := by
      have hs := h.1.2.2.1.2 k hk
      rw [and_or32, and_comm3, hs, and_and32 v, hm]
    rw [e]
    exact spsr_R1 h hk e
set_option maxHeartbeats 1000000 in
theorem mixC_R1 (h : R1 σ τ) {a : Int32} (ha : a &&& 32 = 0) (v : Int32) : R1 (x_Registers_changeCpsr σ (((c_cpsr σ) &&& (a ^^^ (-1))) ||| (v &&& a))) (y_Model_putStatus τ (((m_cpsr τ) &&& (a ^^^ (-1))) ||| (v &&& a))) := by
  rw [h.1.cpsr]
  refine chg_R1 h ?_
  apply ext32; intro i hi
  have := congrArg (fun z => bt z i) ha
  simp only [bt_and, bt_zero] at this
  simp only [bt_and, bt_or, bt_xor, bt_neg1 hi]
  revert this
  cases bt (c_cpsr σ) i <;> cases bt v i <;> cases bt a i <;> cases bt 32 i <;> simp
set_option maxHeartbeats 1000000 in
theorem mixM_R1 (h : R1 σ τ) {m : Int32} (hm : m = 0 ∨ m = -268435456 ∨ m = 255 ∨ m = -268435201) (v : Int32) : R1 (x_Registers_mixIntoCpsr σ v m) (if (y_Model_mode τ) = 16 then y_Model_putStatus τ (((m_cpsr τ) &&& ((m &&& (-268435456)) ^^^ (-1))) ||| (v &&& (m &&& (-268435456)))) else y_Model_putStatus τ (((m_cpsr τ) &&& ((m &&& (-33)) ^^^ (-1))) ||| (v &&& (m &&& (-33))))) := by
  unfold x_Registers_mixIntoCpsr x_Registers_mixIntoCpsr_30
  rw [h.1.mode]
  by_cases h16 : (c_cpsr σ &&& 31) = 16
  · rw [if_pos (decide_eq_true h16), if_pos h16]
    exact mixC_R1 h (by rcases hm with rfl | rfl | rfl | rfl <;> decide) v
  · rw [if_neg (by rw [decide_eq_false h16]; decide), if_neg h16]
    have e : m &&& (-268435233) = m &&& (-33) := by rcases hm with rfl | rfl | rfl | rfl <;> decide
    rw [e]
    exact mixC_R1 h (by rcases hm with rfl | rfl | rfl | rfl <;> decide) v
set_option maxHeartbeats 1000000 in
theorem exch_R1 (h : R1 σ τ) (v : Int32) : R1 (x_Registers_jumpAndChangeSet σ v) (y_Model_exchange τ v) := by
  have key : ∀ c' : Int32, c' &&& 31 = c_cpsr σ &&& 31 → c' &&& (-268435201) = c' → R0 (s_cpsr σ c') (t_cpsr τ c') := by
    intro c' e31 h2
    obtain ⟨hA, hB, hC, ⟨hD1, hD2, hD3, hD4⟩, hE⟩ := h.1
    refine ⟨hA, hB, hC, ⟨rfl, ?_, h2, ?_⟩, hE⟩
    · show okM c'
      unfold okM; rw [e31]; exact hD2
    · show c_bank σ = x_Registers_bankOf (c' &&& 31)
      rw [e31]; exact hD4
  have hP := h.1.2.2.2.1.2.2.1
  unfold x_Registers_jumpAndChangeSet x_Registers_jumpAndChangeSet_20 y_Model_exchange y_Model_exchange_25
  rw [h.1.cpsr]
  by_cases hb : bt v 0 = true
  · rw [if_neg (by rw [and1_0, hb]; decide), if_pos (by rw [and1_1]; exact hb)]
    have e : (c_cpsr σ &&& (-33)) ||| 32 = c_cpsr σ ||| 32 := by
      apply ext32; intro i hi; simp only [bt_and, bt_or]; generalize bt (c_cpsr σ) i = b; revert b i; decide
    rw [e]
    refine jump_R1 (key _ ?_ ?_) v
    · apply ext32; intro i hi; simp only [bt_and, bt_or]; generalize bt (c_cpsr σ) i = b; revert b i; decide
    · rw [and_or32, hP]; rfl
  · have hb : bt v 0 = false := Bool.eq_false_iff.mpr hb
    rw [if_pos (by rw [and1_0]; exact hb), if_neg (by rw [and1_1, hb]; decide)]
    rw [Int32.or_zero]
    refine jump_R1 (key _ ?_ ?_) v
    · apply ext32; intro i hi; simp only [bt_and, bt_or]; generalize bt (c_cpsr σ) i = b; revert b i; decide
    · rw [and_comm3, hP]
set_option maxHeartbeats 1000000 in
theorem nzE_congr (c : Int32) {r r' : Int32} (h1 : 0 ≤ r ↔ 0 ≤ r') (h2 : r = 0 ↔ r' = 0) : nzE c r = nzE c r' := by
  unfold nzE
  by_cases a : 0 ≤ r <;> by_cases b : r = 0
  · rw [if_pos a, if_pos b, if_pos (h1.mp a), if_pos (h2.mp b)]
  · rw [if_pos a, if_neg b, if_pos (h1.mp a), if_neg (fun e => b (h2.mpr e))]
  · rw [if_neg a, if_pos b, if_neg (fun e => a (h1.mpr e)), if_pos (h2.mp b)]
  · rw [if_neg a, if_neg b, if_neg (fun e => a (h1.mpr e)), if_neg (fun e => b (h2.mpr e))]
set_option maxHeartbeats 1000000 in
theorem cy_same (c r : Int32) : cyE (nzE c r) (bt c 29) = nzE c r := by
  have h29 : bt (nzE c r) 29 = bt c 29 := by
    unfold nzE
    by_cases h1 : 0 ≤ r <;> by_cases h2 : r = 0 <;> simp only [h1, h2, if_true, if_false] <;> simp only [bt_and, bt_or] <;> generalize bt c 29 = b <;> revert b <;> decide
  rw [← h29]
  generalize nzE c r = x
  unfold cyE
  cases hb : bt x 29
  · apply ext32; intro i hi
    by_cases h : i = 29
    · subst h; rw [hb]; simp only [bt_and, bt_or, hb]; decide
    · simp only [bt_and, bt_or]; generalize bt x i = b; revert b i; decide
  · apply ext32; intro i hi
    by_cases h : i = 29
    · subst h; rw [hb]; simp only [bt_and, bt_or, hb]; decide
    · simp only [bt_and, bt_or]; generalize bt x i = b; revert b i; decide
set_option maxHeartbeats 1000000 in
theorem prod_R1 (h : R1 σ τ) (p : Int64) {r : Int32} (h1 : 0 ≤ lg_cmp p 0 ↔ 0 ≤ r) (h2 : lg_cmp p 0 = 0 ↔ r = 0) : R1 (x_Alu_flagsOfProduct σ p) (y_Model_setFlags τ r) := by
  rw [setFlags_E, h.1.cpsr, ← nzE_congr _ h1 h2]
  unfold x_Alu_flagsOfProduct
  rw [keep_E, carry_bt, over_bt]
  show R1 (s_cpsr (s_flags σ _) ((flE (decide (¬ 0 ≤ lg_cmp p 0)) (decide (lg_cmp p 0 = 0)) (b01 (bt (c_cpsr σ) 29)) (b01 (bt (c_cpsr σ) 28)) &&& (-268435456)) ||| (c_cpsr σ &&& 268435455))) _
  rw [fl_logic, cy_same]
  exact R1.cp (σ := s_flags σ _) h (nzE63 _ _) (nzEP h.1.2.2.2.1.2.2.1 _)
end R
