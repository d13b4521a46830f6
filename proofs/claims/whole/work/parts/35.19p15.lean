section R
variable {σ : CS} {τ : MS}
set_option maxHeartbeats 1000000 in
theorem rd15 (ht : x_Registers_thumb σ = true) : x_Registers_read σ 15 = c_here σ + 4 := by
  unfold x_Registers_read
  rw [if_pos rfl, if_pos ht]
set_option maxHeartbeats 1000000 in
theorem sum_val (a b : Int32) : ((((a.toInt64 &&& 4294967295) + (b.toInt64 &&& 4294967295)) + (0 : Int32).toInt64).toInt32) = a + b := by
  have hW := W_nat a b false
  apply ext_nat
  rw [Int64.toBitVec_toInt32, BitVec.signExtend_eq_setWidth_of_le _ (by decide : 32 ≤ 64), BitVec.toNat_setWidth, Int32.toBitVec_add, BitVec.toNat_add]
  show ((((a.toInt64 &&& 4294967295) + (b.toInt64 &&& 4294967295)) + (b01 false).toInt64)).toBitVec.toNat % _ = _
  rw [hW]; rfl
set_option maxHeartbeats 1000000 in
theorem sum0 (τ : MS) (a b : Int32) : (y_Model_sum τ a b 0).1 = a + b := by unfold y_Model_sum; exact sum_val a b
set_option maxHeartbeats 1000000 in
theorem rg_d (i : Int32) : rg ((x_Bits_three i 0) ||| ((iu i 4) &&& 8)) := by
  have e : (x_Bits_three i 0) ||| ((iu i 4) &&& 8) = ((x_Bits_three i 0) ||| ((iu i 4) &&& 8)) &&& 15 := by
    unfold x_Bits_three
    apply ext32; intro j hj
    simp only [bt_and, bt_or]
    generalize bt (iu i 0) j = p
    generalize bt (iu i 4) j = q
    revert p q j; decide
  rw [e]; exact rg_and _
set_option maxHeartbeats 1000000 in
theorem fin_add (τ : MS) (d a b : Int32) : y_Model_finish τ 4 d a b false = y_Model_put (y_Model_operate τ 4 a b).2 d (y_Model_operate τ 4 a b).1 := by
  unfold y_Model_finish y_Model_finish_44
  rw [if_neg (by decide : ¬ false = true), if_pos (by decide)]
set_option maxHeartbeats 1000000 in
theorem fin_mov (τ : MS) (d a b : Int32) : y_Model_finish τ 13 d a b false = y_Model_put (y_Model_operate τ 13 a b).2 d (y_Model_operate τ 13 a b).1 := by
  unfold y_Model_finish y_Model_finish_44
  rw [if_neg (by decide : ¬ false = true), if_neg (by decide), if_neg (by decide)]
set_option maxHeartbeats 1000000 in
theorem op4 (τ : MS) (a b : Int32) : y_Model_operate τ 4 a b = y_Model_sum τ a b 0 := by
  unfold y_Model_operate; simp (decide := true) only [if_true, if_false]
set_option maxHeartbeats 1000000 in
theorem op13 (τ : MS) (a b : Int32) : y_Model_operate τ 13 a b = (b, τ) := by
  unfold y_Model_operate; simp (decide := true) only [if_true, if_false]
set_option maxHeartbeats 1000000 in
theorem high_P (h : Go σ τ) (i : Int32) (h31 : bt i 31 = false) : Pst (x_ThumbSet_ofAllRegisters σ i) (y_Model_highOnes τ i) := by
  have hd := rg_d i
  have hv := h.1.1.value hd
  have hs := h.1.1.value (rg4 i 3)
  unfold x_ThumbSet_ofAllRegisters y_Model_highOnes y_Model_highOnes_85 y_Model_undefined
  simp only [fld1_1, f2 i 8 (by decide), f4 i 3 (by decide), f3_0 i, on_bt]
  simp only [sr_nn h31, hv, hs]
  generalize (x_Bits_three i 0) ||| ((iu i 4) &&& 8) = d at *
  generalize x_Registers_read σ d = A
  generalize x_Registers_read σ (x_Bits_four i 3) = B
  rcases and3_cases (iu i 8) with e | e | e | e <;> rw [e] <;> simp (decide := true) only [if_true, if_false, decide_true, decide_false]
  · rw [fin_add, op4]
    refine Pst.ok ?_
    rw [sum0]
    have h2 : R1 σ (y_Model_sum τ A B 0).2 := by unfold y_Model_sum; exact h.1
    exact h2.write hd _
  · exact Pst.ok (apply_R1' h.1 (Or.inr (Or.inr rfl)) hd _ _)
  · rw [fin_mov, op13]
    exact Pst.ok (h.1.write hd _)
  · cases bt i (sh 7)
    · simp only [Bool.false_eq_true, if_false]
      exact Pst.ok (exch_R1 h.1 _)
    · simp only [if_true]
      exact Pst.und h
set_option maxHeartbeats 1000000 in
theorem pcl_P (h : Go σ τ) (ht : x_Registers_thumb σ = true) (i : Int32) : Pst (x_ThumbSet_loadBesidePc σ i) (y_Model_transfer τ true 4 (x_Bits_three i 8) ((((m_here τ) + 4) &&& (-4)) + (4 * (i &&& 255))) (-1) 0) := by
  unfold x_ThumbSet_loadBesidePc x_ThumbSet_wordOfPc
  rw [rd15 ht, h.1.1.here]
  exact plain_P h (k := 0) (rg3 i 8) (ne3 i 8) true (Or.inl rfl) (fun e => absurd e (by decide)) _
set_option maxHeartbeats 1000000 in
theorem byr_P (h : Go σ τ) (i : Int32) : Pst (x_ThumbSet_byRegisterOffset σ i) (y_Model_byRegisters τ (x_Bits_three i 9) (x_Bits_three i 0) ((x_Registers_read σ (x_Bits_three i 3)) + (x_Registers_read σ (x_Bits_three i 6)))) := by
  unfold x_ThumbSet_byRegisterOffset y_Model_byRegisters y_Model_byRegisters_21 y_Model_byRegisters_35 y_Model_byRegisters_60
  generalize (x_Registers_read σ (x_Bits_three i 3)) + (x_Registers_read σ (x_Bits_three i 6)) = a
  have hd := rg3 i 0
  have hn := ne3 i 0
  generalize x_Bits_three i 0 = d at *
  obtain ⟨k, hk, ek⟩ := andN (iu i 9) 7
  have hk : k < 8 := Nat.lt_succ_of_le hk
  have ek : x_Bits_three i 9 = nI k := ek
  rw [ek]
  have P : ∀ (l : Bool) (q : Int32), (q = 0 ∨ q = 1 ∨ q = 2 ∨ q = 3 ∨ q = 4) → (l = false → q = 0 ∨ q = 1 ∨ q = 2) → Pst (x_Transfers_plain σ l q d a) (y_Model_transfer τ l (kd q) d a (-1) 0) := fun l q h1 h2 => plain_P h hd hn l h1 h2 a
  rcases (show k = 0 ∨ k = 1 ∨ k = 2 ∨ k = 3 ∨ k = 4 ∨ k = 5 ∨ k = 6 ∨ k = 7 by omega) with rfl | rfl | rfl | rfl | rfl | rfl | rfl | rfl <;> simp (decide := true) only [if_true, if_false, decide_true, decide_false]
  · exact P false 0 (Or.inl rfl) (fun _ => Or.inl rfl)
  · exact P false 2 (Or.inr (Or.inr (Or.inl rfl))) (fun _ => Or.inr (Or.inr rfl))
  · exact P false 1 (Or.inr (Or.inl rfl)) (fun _ => Or.inr (Or.inl rfl))
  · exact P true 3 (Or.inr (Or.inr (Or.inr (Or.inl rfl)))) (fun e => absurd e (by decide))
  · exact P true 0 (Or.inl rfl) (fun e => absurd e (by decide))
  · exact P true 2 (Or.inr (Or.inr (Or.inl rfl))) (fun e => absurd e (by decide))
  · exact P true 1 (Or.inr (Or.inl rfl)) (fun e => absurd e (by decide))
  · exact P true 4 (Or.inr (Or.inr (Or.inr (Or.inr rfl)))) (fun e => absurd e (by decide))
set_option maxHeartbeats 1000000 in
theorem bd_P (h : Go σ τ) {w n l : Int32} (K T : Int32) (i : Int32) {loads up before : Bool} (x : Int32) (hw : w = (K ||| (i &&& 255)) ||| x) (hl : (i &&& 255) ||| x = l) (hx : x = 0 ∨ x = 16384 ∨ x = 32768) (hK0 : K &&& 65535 = 0) (hn : x_Bits_four K 16 = n) (h20 : bt K 20 = loads) (h21 : bt K 21 = true) (h22 : bt K 22 = false) (h23 : bt K 23 = up) (h24 : bt K 24 = before) : Pst (x_Transfers_many σ w) (y_Model_many τ loads n l up before true false) := by
  have hb : ∀ j, 16 ≤ j → j < 32 → bt w j = bt K j := by
    intro j h1 h2
    rw [hw, bt_or, bt_or, bt_and, (by decide : ∀ j, j < 32 → 16 ≤ j → bt 255 j = false) j h2 h1]
    have : bt x j = false := by
      rcases hx with rfl | rfl | rfl
      · exact bt_zero j
      · exact (by decide : ∀ j, j < 32 → 16 ≤ j → bt 16384 j = false) j h2 h1
      · exact (by decide : ∀ j, j < 32 → 16 ≤ j → bt 32768 j = false) j h2 h1
    rw [this]; simp
  refine many_P h ?_ ?_ ((hb 20 (by decide) (by decide)).trans h20) ((hb 21 (by decide) (by decide)).trans h21) ((hb 22 (by decide) (by decide)).trans h22) ((hb 23 (by decide) (by decide)).trans h23) ((hb 24 (by decide) (by decide)).trans h24)
  · rw [hw, ← hl, and_or32, and_or32, hK0, and_and32]
    have : x &&& 65535 = x := by rcases hx with rfl | rfl | rfl <;> decide
    rw [this, Int32.zero_or]; rfl
  · rw [← hn]
    unfold x_Bits_four
    apply ext32; intro j hj
    rw [bt_and, bt_and, bt_iu, bt_iu, show sh 16 = 16 from rfl]
    by_cases h2 : 16 + j < 32
    · rw [hb (16 + j) (by omega) h2]
    · rw [bt_ge w (by omega), bt_ge K (by omega)]
set_option maxHeartbeats 1000000 in
theorem stack_P (h : Go σ τ) (i : Int32) (h31 : bt i 31 = false) : Pst (x_ThumbSet_stack σ i) (y_Model_stack τ i) := by
  have h13 := h.1.1.at' rg13 (by decide)
  unfold x_ThumbSet_stack y_Model_stack y_Model_stack_146 y_Model_stack_111 y_Model_undefined
  simp only [fld1_1, on_bt, Bool.decide_eq_true, h13]
  simp only [sr_nn h31]
  by_cases e1 : iu i 8 = 176
  · rw [if_pos e1, if_pos e1]
    cases bt i (sh 7) <;> simp only [Bool.false_eq_true, if_false, if_true]
    · exact Pst.ok (h.1.write rg13 _)
    · rw [← Int32.sub_eq_add_neg]
      exact Pst.ok (h.1.write rg13 _)
  rw [if_neg e1, if_neg e1]
  by_cases e2 : iu i 9 = 90
  · rw [if_pos e2, if_pos e2]
    cases bt i (sh 8) <;> simp only [Bool.false_eq_true, if_false, if_true]
    · exact bd_P h (n := 13) (loads := false) (up := false) (before := true) 153944064 0 i 0 rfl (Int32.or_zero) (Or.inl rfl) (by decide) (by decide) (by decide) (by decide) (by decide) (by decide) (by decide)
    · exact bd_P h (n := 13) (loads := false) (up := false) (before := true) 153944064 0 i 16384 rfl rfl (Or.inr (Or.inl rfl)) (by decide) (by decide) (by decide) (by decide) (by decide) (by decide) (by decide)
  rw [if_neg e2, if_neg e2]
  by_cases e3 : iu i 9 = 94
  · rw [if_pos e3, if_pos e3]
    cases bt i (sh 8) <;> simp only [Bool.false_eq_true, if_false, if_true]
    · exact bd_P h (n := 13) (loads := true) (up := true) (before := false) 146604032 0 i 0 rfl (Int32.or_zero) (Or.inl rfl) (by decide) (by decide) (by decide) (by decide) (by decide) (by decide) (by decide)
    · exact bd_P h (n := 13) (loads := true) (up := true) (before := false) 146604032 0 i 32768 rfl rfl (Or.inr (Or.inr rfl)) (by decide) (by decide) (by decide) (by decide) (by decide) (by decide) (by decide)
  rw [if_neg e3, if_neg e3]
  exact Pst.und h
set_option maxHeartbeats 1000000 in
theorem tmany_P (h : Go σ τ) (i : Int32) : Pst (x_ThumbSet_many σ i) (y_Model_many τ (bt i (sh 11)) (x_Bits_three i 8) (i &&& 255) true false true false) := by
  unfold x_ThumbSet_many x_ThumbSet_many_16
  simp only [on_bt]
  obtain ⟨k, hk, ek⟩ := andN (iu i 8) 7
  have hk : k < 8 := Nat.lt_succ_of_le hk
  have ek : x_Bits_three i 8 = nI k := ek
  rw [ek]
  have F : ∀ k, k < 8 → (145752064 ||| ((nI k) <<< ((16 : Int32) &&& 31))) &&& 65535 = 0 ∧ x_Bits_four (145752064 ||| ((nI k) <<< ((16 : Int32) &&& 31))) 16 = nI k ∧ bt (145752064 ||| ((nI k) <<< ((16 : Int32) &&& 31))) 20 = true ∧ bt (145752064 ||| ((nI k) <<< ((16 : Int32) &&& 31))) 21 = true ∧ bt (145752064 ||| ((nI k) <<< ((16 : Int32) &&& 31))) 22 = false ∧ bt (145752064 ||| ((nI k) <<< ((16 : Int32) &&& 31))) 23 = true ∧ bt (145752064 ||| ((nI k) <<< ((16 : Int32) &&& 31))) 24 = false := by decide
  have F2 : ∀ k, k < 8 → (144703488 ||| ((nI k) <<< ((16 : Int32) &&& 31))) &&& 65535 = 0 ∧ x_Bits_four (144703488 ||| ((nI k) <<< ((16 : Int32) &&& 31))) 16 = nI k ∧ bt (144703488 ||| ((nI k) <<< ((16 : Int32) &&& 31))) 20 = false ∧ bt (144703488 ||| ((nI k) <<< ((16 : Int32) &&& 31))) 21 = true ∧ bt (144703488 ||| ((nI k) <<< ((16 : Int32) &&& 31))) 22 = false ∧ bt (144703488 ||| ((nI k) <<< ((16 : Int32) &&& 31))) 23 = true ∧ bt (144703488 ||| ((nI k) <<< ((16 : Int32) &&& 31))) 24 = false := by decide
  cases bt i (sh 11) <;> simp only [Bool.false_eq_true, if_false, if_true]
  · obtain ⟨f1, f2, f3, f4, f5, f6, f7⟩ := F2 k hk
    exact bd_P h _ 0 i 0 (Int32.or_zero).symm (Int32.or_zero) (Or.inl rfl) f1 f2 f3 f4 f5 f6 f7
  · obtain ⟨f1, f2, f3, f4, f5, f6, f7⟩ := F k hk
    exact bd_P h _ 0 i 0 (Int32.or_zero).symm (Int32.or_zero) (Or.inl rfl) f1 f2 f3 f4 f5 f6 f7
set_option maxHeartbeats 1000000 in
theorem cond_P (h : Go σ τ) (ht : x_Registers_thumb σ = true) (i : Int32) : Pst (x_ThumbSet_branchByCondition σ i) (y_Model_conditional τ (x_Bits_four i 8) (i &&& 255)) := by
  unfold x_ThumbSet_branchByCondition y_Model_conditional y_Model_undefined
  rw [sx8, rd15 ht, h.1.1.here]
  by_cases e15 : x_Bits_four i 8 = 15
  · rw [if_neg (show ¬ x_Bits_four i 8 = 14 by rw [e15]; decide), if_pos e15, if_pos e15]; exact Pst.swi h
  · rw [if_neg e15, if_neg e15]
    by_cases e14 : x_Bits_four i 8 = 14
    · rw [if_pos e14, if_pos e14]; exact Pst.und h
    · rw [if_neg e14, if_neg e14, fits_E h.1.1 (rg4 i 8) e15]
      cases x_Registers_fits σ (x_Bits_four i 8) <;> simp only [Bool.false_eq_true, if_false, if_true]
      · exact Pst.ok h.1
      · exact Pst.ok (jump_R1 h.1.1 _)
set_option maxHeartbeats 1000000 in
theorem wr_jump (h : R0 σ τ) (ht : x_Registers_thumb σ = true) (x y : Int32) : x_Registers_write (x_Registers_jump σ x) 14 y = x_Registers_jump (x_Registers_write σ 14 y) x := by
  have ht' : x_Registers_thumb (x_Registers_write σ 14 y) = true := ht
  unfold x_Registers_jump
  rw [if_pos ht, if_pos ht']
  unfold x_Registers_write x_Registers_hold
  rw [if_neg (by decide), if_neg (by decide)]
  show s_held σ (upd (upd (c_held σ) _ _) (tPL ((16 * (c_bank σ)) + 14).toNatClampNeg).toNatClampNeg y) = s_held σ (upd (upd (c_held σ) (tPL ((16 * (c_bank σ)) + 14).toNatClampNeg).toNatClampNeg y) _ _)
  rw [n15, upd_c]
  rw [h.bank, pl_eq h.okM rg14]
  intro e
  exact absurd ((pl_15 h.okM rg14).mp e.symm) (by decide)
set_option maxHeartbeats 1000000 in
theorem far_P (h : Go σ τ) (ht : x_Registers_thumb σ = true) (i : Int32) (h31 : bt i 31 = false) : Pst (x_ThumbSet_branch σ i) (y_Model_far τ i) := by
  have h14 := h.1.1.at' rg14 (by decide)
  unfold x_ThumbSet_branch y_Model_far y_Model_undefined
  rw [sr_nn h31 11, rd15 ht, h.1.1.here, h14]
  by_cases e1 : iu i 11 = 28
  · rw [if_pos e1, if_pos e1]; exact Pst.ok (jump_R1 h.1.1 _)
  rw [if_neg e1, if_neg e1]
  by_cases e2 : iu i 11 = 30
  · rw [if_pos e2, if_pos e2]; exact Pst.ok (h.1.write rg14 _)
  rw [if_neg e2, if_neg e2]
  by_cases e3 : iu i 11 = 31
  · rw [if_pos e3, if_pos e3]
    refine Pst.ok ?_
    have hb : x_Registers_behind (x_Registers_jump σ ((x_Registers_read σ 14) + (2 * (i &&& 2047)))) = m_here τ + 2 := by
      have ht2 : x_Registers_thumb (x_Registers_jump σ ((x_Registers_read σ 14) + (2 * (i &&& 2047)))) = true := by
        unfold x_Registers_jump; rw [if_pos ht]; exact ht
      have hh2 : c_here (x_Registers_jump σ ((x_Registers_read σ 14) + (2 * (i &&& 2047)))) = c_here σ := by
        unfold x_Registers_jump; rw [if_pos ht]; rfl
      unfold x_Registers_behind
      rw [if_pos ht2, hh2, h.1.1.here]
    rw [hb, wr_jump h.1.1 ht]
    exact jump_R1 (h.1.1.write rg14 _) _
  rw [if_neg e3, if_neg e3]
  exact Pst.und h
end R
