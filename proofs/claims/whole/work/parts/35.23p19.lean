set_option maxHeartbeats 1000000 in
theorem th_memory (τ : MS) (v : Nat → Int32) : m_thrown (t_memory τ v) = m_thrown τ := rfl
set_option maxHeartbeats 1000000 in
theorem th_r (τ : MS) (v : Nat → Int32) : m_thrown (t_r τ v) = m_thrown τ := rfl
set_option maxHeartbeats 1000000 in
theorem th_spsr (τ : MS) (v : Nat → Int32) : m_thrown (t_spsr τ v) = m_thrown τ := rfl
set_option maxHeartbeats 1000000 in
theorem th_faults (τ : MS) (v : Nat → Int32) : m_thrown (t_faults τ v) = m_thrown τ := rfl
set_option maxHeartbeats 1000000 in
theorem th_lines (τ : MS) (v : Nat → Bool) : m_thrown (t_lines τ v) = m_thrown τ := rfl
set_option maxHeartbeats 1000000 in
theorem th_cpsr (τ : MS) (v : Int32) : m_thrown (t_cpsr τ v) = m_thrown τ := rfl
set_option maxHeartbeats 1000000 in
theorem th_steps (τ : MS) (v : Int32) : m_thrown (t_steps τ v) = m_thrown τ := rfl
set_option maxHeartbeats 1000000 in
theorem th_here (τ : MS) (v : Int32) : m_thrown (t_here τ v) = m_thrown τ := rfl
set_option maxHeartbeats 1000000 in
theorem th_length (τ : MS) (v : Int32) : m_thrown (t_length τ v) = m_thrown τ := rfl
set_option maxHeartbeats 1000000 in
theorem th_fault (τ : MS) (v : Int32) : m_thrown (t_fault τ v) = m_thrown τ := rfl
set_option maxHeartbeats 1000000 in
theorem th_jumps (τ : MS) (v : Bool) : m_thrown (t_jumps τ v) = m_thrown τ := rfl
set_option maxHeartbeats 1000000 in
theorem th_carry (τ : MS) (v : Bool) : m_thrown (t_carry τ v) = m_thrown τ := rfl
set_option maxHeartbeats 1000000 in
theorem th_over (τ : MS) (v : Bool) : m_thrown (t_over τ v) = m_thrown τ := rfl
set_option maxHeartbeats 1000000 in
theorem th_ite {c : Prop} [Decidable c] {a b : MS} {k : Int32} (ha : m_thrown a = k) (hb : m_thrown b = k) : m_thrown (if c then a else b) = k := by
  split <;> assumption
set_option maxHeartbeats 1000000 in
theorem th_it2 {α : Type} {c : Prop} [Decidable c] {a b : α × MS} {k : Int32} (ha : m_thrown a.2 = k) (hb : m_thrown b.2 = k) : m_thrown (if c then a else b).2 = k := by
  split <;> assumption
set_option maxHeartbeats 1000000 in
theorem th_mk {α : Type} {a : α} {b : MS} {k : Int32} (h : m_thrown b = k) : m_thrown (a, b).2 = k := h
set_option maxHeartbeats 1000000 in
theorem thr_put (σ : MS) (v0 : Int32) (v1 : Int32) : m_thrown (y_Model_put σ v0 v1) = m_thrown σ := by
  unfold y_Model_put
  repeat' first | with_reducible refine th_ite ?_ ?_ | with_reducible refine th_it2 ?_ ?_
  all_goals first | with_reducible rfl | (simp only [th_memory, th_r, th_spsr, th_faults, th_lines, th_cpsr, th_steps, th_here, th_length, th_fault, th_jumps, th_carry, th_over]; done)
set_option maxHeartbeats 1000000 in
theorem thr_putStatus_21 (σ : MS) (v0 : Int32) (k0_21 : Int32) : m_thrown (y_Model_putStatus_21 σ v0 k0_21) = m_thrown σ := by
  unfold y_Model_putStatus_21
  repeat' first | with_reducible refine th_ite ?_ ?_ | with_reducible refine th_it2 ?_ ?_
  all_goals first | with_reducible rfl | (simp only [th_memory, th_r, th_spsr, th_faults, th_lines, th_cpsr, th_steps, th_here, th_length, th_fault, th_jumps, th_carry, th_over]; done)
set_option maxHeartbeats 1000000 in
theorem thr_putStatus (σ : MS) (v0 : Int32) : m_thrown (y_Model_putStatus σ v0) = m_thrown σ := by
  unfold y_Model_putStatus
  repeat' first | with_reducible refine th_ite ?_ ?_ | with_reducible refine th_it2 ?_ ?_
  all_goals first | with_reducible rfl | (simp only [th_memory, th_r, th_spsr, th_faults, th_lines, th_cpsr, th_steps, th_here, th_length, th_fault, th_jumps, th_carry, th_over, thr_putStatus_21]; done)
set_option maxHeartbeats 1000000 in
theorem thr_setFlags_18 (σ : MS) (v0 : Int32) (k0_18 : Int32) : m_thrown (y_Model_setFlags_18 σ v0 k0_18) = m_thrown σ := by
  unfold y_Model_setFlags_18
  repeat' first | with_reducible refine th_ite ?_ ?_ | with_reducible refine th_it2 ?_ ?_
  all_goals first | with_reducible rfl | (simp only [th_memory, th_r, th_spsr, th_faults, th_lines, th_cpsr, th_steps, th_here, th_length, th_fault, th_jumps, th_carry, th_over]; done)
set_option maxHeartbeats 1000000 in
theorem thr_setFlags (σ : MS) (v0 : Int32) : m_thrown (y_Model_setFlags σ v0) = m_thrown σ := by
  unfold y_Model_setFlags
  repeat' first | with_reducible refine th_ite ?_ ?_ | with_reducible refine th_it2 ?_ ?_
  all_goals first | with_reducible rfl | (simp only [th_memory, th_r, th_spsr, th_faults, th_lines, th_cpsr, th_steps, th_here, th_length, th_fault, th_jumps, th_carry, th_over, thr_setFlags_18]; done)
set_option maxHeartbeats 1000000 in
theorem thr_setCarry (σ : MS) (v0 : Bool) : m_thrown (y_Model_setCarry σ v0) = m_thrown σ := by
  unfold y_Model_setCarry
  repeat' first | with_reducible refine th_ite ?_ ?_ | with_reducible refine th_it2 ?_ ?_
  all_goals first | with_reducible rfl | (simp only [th_memory, th_r, th_spsr, th_faults, th_lines, th_cpsr, th_steps, th_here, th_length, th_fault, th_jumps, th_carry, th_over]; done)
set_option maxHeartbeats 1000000 in
theorem thr_setOver (σ : MS) (v0 : Bool) : m_thrown (y_Model_setOver σ v0) = m_thrown σ := by
  unfold y_Model_setOver
  repeat' first | with_reducible refine th_ite ?_ ?_ | with_reducible refine th_it2 ?_ ?_
  all_goals first | with_reducible rfl | (simp only [th_memory, th_r, th_spsr, th_faults, th_lines, th_cpsr, th_steps, th_here, th_length, th_fault, th_jumps, th_carry, th_over]; done)
set_option maxHeartbeats 1000000 in
theorem thr_enter_158 (σ : MS) (v0 : Int32) (v1 : Int32) (τ_79 : MS) (k0_41 : Int32) (k0_158 : Int32) (hs : m_thrown σ = m_thrown τ_79) : m_thrown (y_Model_enter_158 σ v0 v1 τ_79 k0_41 k0_158) = m_thrown τ_79 := by
  unfold y_Model_enter_158
  repeat' first | with_reducible refine th_ite ?_ ?_ | with_reducible refine th_it2 ?_ ?_
  all_goals first | with_reducible rfl | (simp only [th_memory, th_r, th_spsr, th_faults, th_lines, th_cpsr, th_steps, th_here, th_length, th_fault, th_jumps, th_carry, th_over, hs]; done)
set_option maxHeartbeats 1000000 in
theorem thr_enter_79 (σ : MS) (v0 : Int32) (v1 : Int32) (k0_41 : Int32) (τ_79 : MS) (hs : m_thrown σ = m_thrown τ_79) : m_thrown (y_Model_enter_79 σ v0 v1 k0_41 τ_79) = m_thrown τ_79 := by
  unfold y_Model_enter_79
  repeat' first | with_reducible refine th_ite ?_ ?_ | with_reducible refine th_it2 ?_ ?_
  all_goals first | with_reducible rfl | (simp only [th_memory, th_r, th_spsr, th_faults, th_lines, th_cpsr, th_steps, th_here, th_length, th_fault, th_jumps, th_carry, th_over, thr_enter_158, hs]; done) | (rw [thr_enter_158 (hs := by simp only [th_memory, th_r, th_spsr, th_faults, th_lines, th_cpsr, th_steps, th_here, th_length, th_fault, th_jumps, th_carry, th_over, thr_enter_158, hs])] <;> simp only [th_memory, th_r, th_spsr, th_faults, th_lines, th_cpsr, th_steps, th_here, th_length, th_fault, th_jumps, th_carry, th_over, thr_enter_158, hs])
set_option maxHeartbeats 1000000 in
theorem thr_enter_41 (σ : MS) (v0 : Int32) (v1 : Int32) (k0_41 : Int32) : m_thrown (y_Model_enter_41 σ v0 v1 k0_41) = m_thrown σ := by
  unfold y_Model_enter_41
  repeat' first | with_reducible refine th_ite ?_ ?_ | with_reducible refine th_it2 ?_ ?_
  all_goals first | with_reducible rfl | (simp only [th_memory, th_r, th_spsr, th_faults, th_lines, th_cpsr, th_steps, th_here, th_length, th_fault, th_jumps, th_carry, th_over, thr_enter_79]; done) | (rw [thr_enter_79 (hs := by simp only [th_memory, th_r, th_spsr, th_faults, th_lines, th_cpsr, th_steps, th_here, th_length, th_fault, th_jumps, th_carry, th_over, thr_enter_79])] <;> simp only [th_memory, th_r, th_spsr, th_faults, th_lines, th_cpsr, th_steps, th_here, th_length, th_fault, th_jumps, th_carry, th_over, thr_enter_79])
set_option maxHeartbeats 1000000 in
theorem thr_enter (σ : MS) (v0 : Int32) (v1 : Int32) : m_thrown (y_Model_enter σ v0 v1) = m_thrown σ := by
  unfold y_Model_enter
  repeat' first | with_reducible refine th_ite ?_ ?_ | with_reducible refine th_it2 ?_ ?_
  all_goals first | with_reducible rfl | (simp only [th_memory, th_r, th_spsr, th_faults, th_lines, th_cpsr, th_steps, th_here, th_length, th_fault, th_jumps, th_carry, th_over, thr_enter_41]; done)
set_option maxHeartbeats 1000000 in
theorem thr_shift_87 (σ : MS) (v0 : Int32) (v1 : Int32) (v2 : Int32) : ∀ (n : Nat) (e0 : Int32) (e1 : Int32) (e2 : Int32) (τ : MS) (hs : m_thrown σ = m_thrown τ), m_thrown (y_Model_shift_87 σ v0 v1 v2 n e0 e1 e2 τ).2 = m_thrown τ := by
  intro n
  induction n with
  | zero => intro e0 e1 e2 τ hs; exact hs
  | succ n ih =>
    intro e0 e1 e2 τ hs
    unfold y_Model_shift_87
    repeat' first | with_reducible refine th_ite ?_ ?_ | with_reducible refine th_it2 ?_ ?_
    all_goals first | with_reducible rfl | (simp only [th_memory, th_r, th_spsr, th_faults, th_lines, th_cpsr, th_steps, th_here, th_length, th_fault, th_jumps, th_carry, th_over, ih, hs]; done) | (rw [ih (hs := by simp only [th_memory, th_r, th_spsr, th_faults, th_lines, th_cpsr, th_steps, th_here, th_length, th_fault, th_jumps, th_carry, th_over, hs])] <;> simp only [th_memory, th_r, th_spsr, th_faults, th_lines, th_cpsr, th_steps, th_here, th_length, th_fault, th_jumps, th_carry, th_over, hs])
set_option maxHeartbeats 1000000 in
theorem thr_shift_79 (σ : MS) (v0 : Int32) (v1 : Int32) (v2 : Int32) (k0_79 : Int32) : m_thrown (y_Model_shift_79 σ v0 v1 v2 k0_79).2 = m_thrown σ := by
  unfold y_Model_shift_79
  repeat' first | with_reducible refine th_ite ?_ ?_ | with_reducible refine th_it2 ?_ ?_
  all_goals first | with_reducible rfl | (simp only [th_memory, th_r, th_spsr, th_faults, th_lines, th_cpsr, th_steps, th_here, th_length, th_fault, th_jumps, th_carry, th_over, thr_shift_87]; done) | (rw [thr_shift_87 (hs := by simp only [th_memory, th_r, th_spsr, th_faults, th_lines, th_cpsr, th_steps, th_here, th_length, th_fault, th_jumps, th_carry, th_over, thr_shift_87])] <;> simp only [th_memory, th_r, th_spsr, th_faults, th_lines, th_cpsr, th_steps, th_here, th_length, th_fault, th_jumps, th_carry, th_over, thr_shift_87])
set_option maxHeartbeats 1000000 in
theorem thr_shift_48 (σ : MS) (v0 : Int32) (v1 : Int32) (v2 : Int32) (k0_48 : Int32) : m_thrown (y_Model_shift_48 σ v0 v1 v2 k0_48).2 = m_thrown σ := by
  unfold y_Model_shift_48
  repeat' first | with_reducible refine th_ite ?_ ?_ | with_reducible refine th_it2 ?_ ?_
  all_goals first | with_reducible rfl | (simp only [th_memory, th_r, th_spsr, th_faults, th_lines, th_cpsr, th_steps, th_here, th_length, th_fault, th_jumps, th_carry, th_over]; done)
set_option maxHeartbeats 1000000 in
theorem thr_shift (σ : MS) (v0 : Int32) (v1 : Int32) (v2 : Int32) : m_thrown (y_Model_shift σ v0 v1 v2).2 = m_thrown σ := by
  unfold y_Model_shift
  repeat' first | with_reducible refine th_ite ?_ ?_ | with_reducible refine th_it2 ?_ ?_
  all_goals first | with_reducible rfl | (simp only [th_memory, th_r, th_spsr, th_faults, th_lines, th_cpsr, th_steps, th_here, th_length, th_fault, th_jumps, th_carry, th_over, thr_shift_48, thr_shift_79]; done)
set_option maxHeartbeats 1000000 in
theorem thr_shiftBy_8 (σ : MS) (v0 : Int32) (v1 : Int32) (v2 : Int32) : m_thrown (y_Model_shiftBy_8 σ v0 v1 v2).2 = m_thrown σ := by
  unfold y_Model_shiftBy_8
  repeat' first | with_reducible refine th_ite ?_ ?_ | with_reducible refine th_it2 ?_ ?_
  all_goals first | with_reducible rfl | (simp only [th_memory, th_r, th_spsr, th_faults, th_lines, th_cpsr, th_steps, th_here, th_length, th_fault, th_jumps, th_carry, th_over, thr_shift]; done)
set_option maxHeartbeats 1000000 in
theorem thr_shiftBy_48 (σ : MS) (v0 : Int32) (v1 : Int32) (v2 : Int32) (k0_48 : Int32) : m_thrown (y_Model_shiftBy_48 σ v0 v1 v2 k0_48).2 = m_thrown σ := by
  unfold y_Model_shiftBy_48
  repeat' first | with_reducible refine th_ite ?_ ?_ | with_reducible refine th_it2 ?_ ?_
  all_goals first | with_reducible rfl | (simp only [th_memory, th_r, th_spsr, th_faults, th_lines, th_cpsr, th_steps, th_here, th_length, th_fault, th_jumps, th_carry, th_over]; done)
set_option maxHeartbeats 1000000 in
theorem thr_shiftBy (σ : MS) (v0 : Int32) (v1 : Int32) (v2 : Int32) : m_thrown (y_Model_shiftBy σ v0 v1 v2).2 = m_thrown σ := by
  unfold y_Model_shiftBy
  repeat' first | with_reducible refine th_ite ?_ ?_ | with_reducible refine th_it2 ?_ ?_
  all_goals first | with_reducible rfl | (simp only [th_memory, th_r, th_spsr, th_faults, th_lines, th_cpsr, th_steps, th_here, th_length, th_fault, th_jumps, th_carry, th_over, thr_shift, thr_shiftBy_48, thr_shiftBy_8]; done)
set_option maxHeartbeats 1000000 in
theorem thr_sum (σ : MS) (v0 : Int32) (v1 : Int32) (v2 : Int32) : m_thrown (y_Model_sum σ v0 v1 v2).2 = m_thrown σ := by
  unfold y_Model_sum
  repeat' first | with_reducible refine th_ite ?_ ?_ | with_reducible refine th_it2 ?_ ?_
  all_goals first | with_reducible rfl | (simp only [th_memory, th_r, th_spsr, th_faults, th_lines, th_cpsr, th_steps, th_here, th_length, th_fault, th_jumps, th_carry, th_over]; done)
set_option maxHeartbeats 1000000 in
theorem thr_operate (σ : MS) (v0 : Int32) (v1 : Int32) (v2 : Int32) : m_thrown (y_Model_operate σ v0 v1 v2).2 = m_thrown σ := by
  unfold y_Model_operate
  repeat' first | with_reducible refine th_ite ?_ ?_ | with_reducible refine th_it2 ?_ ?_
  all_goals first | with_reducible rfl | (simp only [th_memory, th_r, th_spsr, th_faults, th_lines, th_cpsr, th_steps, th_here, th_length, th_fault, th_jumps, th_carry, th_over, thr_sum]; done)
set_option maxHeartbeats 1000000 in
theorem thr_finish_44 (σ : MS) (v0 : Int32) (v1 : Int32) (v2 : Int32) (v3 : Int32) (v4 : Bool) (τ_44 : MS) (hs : m_thrown σ = m_thrown τ_44) : m_thrown (y_Model_finish_44 σ v0 v1 v2 v3 v4 τ_44) = m_thrown τ_44 := by
  unfold y_Model_finish_44
  repeat' first | with_reducible refine th_ite ?_ ?_ | with_reducible refine th_it2 ?_ ?_
  all_goals first | with_reducible rfl | (simp only [th_memory, th_r, th_spsr, th_faults, th_lines, th_cpsr, th_steps, th_here, th_length, th_fault, th_jumps, th_carry, th_over, thr_operate, thr_put, hs]; done)
set_option maxHeartbeats 1000000 in
theorem thr_finish (σ : MS) (v0 : Int32) (v1 : Int32) (v2 : Int32) (v3 : Int32) (v4 : Bool) : m_thrown (y_Model_finish σ v0 v1 v2 v3 v4) = m_thrown σ := by
  unfold y_Model_finish
  repeat' first | with_reducible refine th_ite ?_ ?_ | with_reducible refine th_it2 ?_ ?_
  all_goals first | with_reducible rfl | (simp only [th_memory, th_r, th_spsr, th_faults, th_lines, th_cpsr, th_steps, th_here, th_length, th_fault, th_jumps, th_carry, th_over, thr_finish_44, thr_operate, thr_setCarry, thr_setFlags, thr_setOver]; done) | (rw [thr_finish_44 (hs := by simp only [th_memory, th_r, th_spsr, th_faults, th_lines, th_cpsr, th_steps, th_here, th_length, th_fault, th_jumps, th_carry, th_over, thr_finish_44, thr_operate, thr_setCarry, thr_setFlags, thr_setOver])] <;> simp only [th_memory, th_r, th_spsr, th_faults, th_lines, th_cpsr, th_steps, th_here, th_length, th_fault, th_jumps, th_carry, th_over, thr_finish_44, thr_operate, thr_setCarry, thr_setFlags, thr_setOver])
set_option maxHeartbeats 1000000 in
theorem thr_early_76 (σ : MS) (v0 : Int32) (v1 : Int32) (v2 : Int32) (v3 : Int32) (v4 : Int32) (k0_58 : Int32) (k0_76 : Int32) : m_thrown (y_Model_early_76 σ v0 v1 v2 v3 v4 k0_58 k0_76) = m_thrown σ := by
  unfold y_Model_early_76
  repeat' first | with_reducible refine th_ite ?_ ?_ | with_reducible refine th_it2 ?_ ?_
  all_goals first | with_reducible rfl | (simp only [th_memory, th_r, th_spsr, th_faults, th_lines, th_cpsr, th_steps, th_here, th_length, th_fault, th_jumps, th_carry, th_over, thr_finish]; done)
set_option maxHeartbeats 1000000 in
theorem thr_early_58 (σ : MS) (v0 : Int32) (v1 : Int32) (v2 : Int32) (v3 : Int32) (v4 : Int32) (k0_58 : Int32) : m_thrown (y_Model_early_58 σ v0 v1 v2 v3 v4 k0_58) = m_thrown σ := by
  unfold y_Model_early_58
  repeat' first | with_reducible refine th_ite ?_ ?_ | with_reducible refine th_it2 ?_ ?_
  all_goals first | with_reducible rfl | (simp only [th_memory, th_r, th_spsr, th_faults, th_lines, th_cpsr, th_steps, th_here, th_length, th_fault, th_jumps, th_carry, th_over, thr_early_76]; done)
set_option maxHeartbeats 1000000 in
theorem thr_early (σ : MS) (v0 : Int32) (v1 : Int32) (v2 : Int32) (v3 : Int32) (v4 : Int32) : m_thrown (y_Model_early σ v0 v1 v2 v3 v4) = m_thrown σ := by
  unfold y_Model_early
  repeat' first | with_reducible refine th_ite ?_ ?_ | with_reducible refine th_it2 ?_ ?_
  all_goals first | with_reducible rfl | (simp only [th_memory, th_r, th_spsr, th_faults, th_lines, th_cpsr, th_steps, th_here, th_length, th_fault, th_jumps, th_carry, th_over, thr_early_58, thr_finish, thr_shiftBy]; done)
set_option maxHeartbeats 1000000 in
theorem thr_numbers_40 (σ : MS) (v0 : Int32) (v1 : Int32) (v2 : Int32) (k0_40 : Int32) : m_thrown (y_Model_numbers_40 σ v0 v1 v2 k0_40) = m_thrown σ := by
  unfold y_Model_numbers_40
  repeat' first | with_reducible refine th_ite ?_ ?_ | with_reducible refine th_it2 ?_ ?_
  all_goals first | with_reducible rfl | (simp only [th_memory, th_r, th_spsr, th_faults, th_lines, th_cpsr, th_steps, th_here, th_length, th_fault, th_jumps, th_carry, th_over, thr_finish]; done)
set_option maxHeartbeats 1000000 in
theorem thr_numbers (σ : MS) (v0 : Int32) (v1 : Int32) (v2 : Int32) : m_thrown (y_Model_numbers σ v0 v1 v2) = m_thrown σ := by
  unfold y_Model_numbers
  repeat' first | with_reducible refine th_ite ?_ ?_ | with_reducible refine th_it2 ?_ ?_
  all_goals first | with_reducible rfl | (simp only [th_memory, th_r, th_spsr, th_faults, th_lines, th_cpsr, th_steps, th_here, th_length, th_fault, th_jumps, th_carry, th_over, thr_numbers_40]; done)
set_option maxHeartbeats 1000000 in
theorem thr_operations_86 (σ : MS) (v0 : Int32) (v1 : Int32) (v2 : Int32) (k0_86 : Int32) : m_thrown (y_Model_operations_86 σ v0 v1 v2 k0_86) = m_thrown σ := by
  unfold y_Model_operations_86
  repeat' first | with_reducible refine th_ite ?_ ?_ | with_reducible refine th_it2 ?_ ?_
  all_goals first | with_reducible rfl | (simp only [th_memory, th_r, th_spsr, th_faults, th_lines, th_cpsr, th_steps, th_here, th_length, th_fault, th_jumps, th_carry, th_over, thr_finish, thr_shift]; done)
set_option maxHeartbeats 1000000 in
theorem thr_operations_67 (σ : MS) (v0 : Int32) (v1 : Int32) (v2 : Int32) : m_thrown (y_Model_operations_67 σ v0 v1 v2) = m_thrown σ := by
  unfold y_Model_operations_67
  repeat' first | with_reducible refine th_ite ?_ ?_ | with_reducible refine th_it2 ?_ ?_
  all_goals first | with_reducible rfl | (simp only [th_memory, th_r, th_spsr, th_faults, th_lines, th_cpsr, th_steps, th_here, th_length, th_fault, th_jumps, th_carry, th_over, thr_operations_86]; done)
set_option maxHeartbeats 1000000 in
theorem thr_operations (σ : MS) (v0 : Int32) (v1 : Int32) (v2 : Int32) : m_thrown (y_Model_operations σ v0 v1 v2) = m_thrown σ := by
  unfold y_Model_operations
  repeat' first | with_reducible refine th_ite ?_ ?_ | with_reducible refine th_it2 ?_ ?_
  all_goals first | with_reducible rfl | (simp only [th_memory, th_r, th_spsr, th_faults, th_lines, th_cpsr, th_steps, th_here, th_length, th_fault, th_jumps, th_carry, th_over, thr_finish, thr_operations_67, thr_put, thr_setFlags]; done)
set_option maxHeartbeats 1000000 in
theorem thr_undefined (σ : MS) : m_thrown (y_Model_undefined σ) = m_thrown σ := by
  unfold y_Model_undefined
  repeat' first | with_reducible refine th_ite ?_ ?_ | with_reducible refine th_it2 ?_ ?_
  all_goals first | with_reducible rfl | (simp only [th_memory, th_r, th_spsr, th_faults, th_lines, th_cpsr, th_steps, th_here, th_length, th_fault, th_jumps, th_carry, th_over]; done)
set_option maxHeartbeats 1000000 in
theorem thr_exchange_25 (σ : MS) (v0 : Int32) (k0_25 : Int32) : m_thrown (y_Model_exchange_25 σ v0 k0_25) = m_thrown σ := by
  unfold y_Model_exchange_25
  repeat' first | with_reducible refine th_ite ?_ ?_ | with_reducible refine th_it2 ?_ ?_
  all_goals first | with_reducible rfl | (simp only [th_memory, th_r, th_spsr, th_faults, th_lines, th_cpsr, th_steps, th_here, th_length, th_fault, th_jumps, th_carry, th_over, thr_put]; done)
set_option maxHeartbeats 1000000 in
theorem thr_exchange (σ : MS) (v0 : Int32) : m_thrown (y_Model_exchange σ v0) = m_thrown σ := by
  unfold y_Model_exchange
  repeat' first | with_reducible refine th_ite ?_ ?_ | with_reducible refine th_it2 ?_ ?_
  all_goals first | with_reducible rfl | (simp only [th_memory, th_r, th_spsr, th_faults, th_lines, th_cpsr, th_steps, th_here, th_length, th_fault, th_jumps, th_carry, th_over, thr_exchange_25]; done)
set_option maxHeartbeats 1000000 in
theorem thr_highOnes_85 (σ : MS) (v0 : Int32) (k0_85 : Int32) : m_thrown (y_Model_highOnes_85 σ v0 k0_85) = m_thrown σ := by
  unfold y_Model_highOnes_85
  repeat' first | with_reducible refine th_ite ?_ ?_ | with_reducible refine th_it2 ?_ ?_
  all_goals first | with_reducible rfl | (simp only [th_memory, th_r, th_spsr, th_faults, th_lines, th_cpsr, th_steps, th_here, th_length, th_fault, th_jumps, th_carry, th_over, thr_finish]; done)
set_option maxHeartbeats 1000000 in
theorem thr_highOnes (σ : MS) (v0 : Int32) : m_thrown (y_Model_highOnes σ v0) = m_thrown σ := by
  unfold y_Model_highOnes
  repeat' first | with_reducible refine th_ite ?_ ?_ | with_reducible refine th_it2 ?_ ?_
  all_goals first | with_reducible rfl | (simp only [th_memory, th_r, th_spsr, th_faults, th_lines, th_cpsr, th_steps, th_here, th_length, th_fault, th_jumps, th_carry, th_over, thr_exchange, thr_highOnes_85, thr_undefined]; done)
set_option maxHeartbeats 1000000 in
theorem thr_storeAt_59 (σ : MS) (v0 : Int32) (v1 : Int32) (v2 : Int32) (k0_29 : Int32) (k0_59 : Int32) : m_thrown (y_Model_storeAt_59 σ v0 v1 v2 k0_29 k0_59) = m_thrown σ := by
  unfold y_Model_storeAt_59
  repeat' first | with_reducible refine th_ite ?_ ?_ | with_reducible refine th_it2 ?_ ?_
  all_goals first | with_reducible rfl | (simp only [th_memory, th_r, th_spsr, th_faults, th_lines, th_cpsr, th_steps, th_here, th_length, th_fault, th_jumps, th_carry, th_over]; done)
set_option maxHeartbeats 1000000 in
theorem thr_storeAt_29 (σ : MS) (v0 : Int32) (v1 : Int32) (v2 : Int32) (k0_29 : Int32) : m_thrown (y_Model_storeAt_29 σ v0 v1 v2 k0_29) = m_thrown σ := by
  unfold y_Model_storeAt_29
  repeat' first | with_reducible refine th_ite ?_ ?_ | with_reducible refine th_it2 ?_ ?_
  all_goals first | with_reducible rfl | (simp only [th_memory, th_r, th_spsr, th_faults, th_lines, th_cpsr, th_steps, th_here, th_length, th_fault, th_jumps, th_carry, th_over, thr_storeAt_59]; done)
set_option maxHeartbeats 1000000 in
theorem thr_storeAt (σ : MS) (v0 : Int32) (v1 : Int32) (v2 : Int32) : m_thrown (y_Model_storeAt σ v0 v1 v2) = m_thrown σ := by
  unfold y_Model_storeAt
  repeat' first | with_reducible refine th_ite ?_ ?_ | with_reducible refine th_it2 ?_ ?_
  all_goals first | with_reducible rfl | (simp only [th_memory, th_r, th_spsr, th_faults, th_lines, th_cpsr, th_steps, th_here, th_length, th_fault, th_jumps, th_carry, th_over, thr_storeAt_29]; done)
set_option maxHeartbeats 1000000 in
theorem thr_transfer_90 (σ : MS) (v0 : Bool) (v1 : Int32) (v2 : Int32) (v3 : Int32) (v4 : Int32) (v5 : Int32) (k0_46 : Int32) (τ_90 : MS) (hs : m_thrown σ = m_thrown τ_90) : m_thrown (y_Model_transfer_90 σ v0 v1 v2 v3 v4 v5 k0_46 τ_90) = m_thrown τ_90 := by
  unfold y_Model_transfer_90
  repeat' first | with_reducible refine th_ite ?_ ?_ | with_reducible refine th_it2 ?_ ?_
  all_goals first | with_reducible rfl | (simp only [th_memory, th_r, th_spsr, th_faults, th_lines, th_cpsr, th_steps, th_here, th_length, th_fault, th_jumps, th_carry, th_over, thr_put, hs]; done)
set_option maxHeartbeats 1000000 in
theorem thr_transfer_70 (σ : MS) (v0 : Bool) (v1 : Int32) (v2 : Int32) (v3 : Int32) (v4 : Int32) (v5 : Int32) (k0_46 : Int32) (τ_70 : MS) (hs : m_thrown σ = m_thrown τ_70) : m_thrown (y_Model_transfer_70 σ v0 v1 v2 v3 v4 v5 k0_46 τ_70) = m_thrown τ_70 := by
  unfold y_Model_transfer_70
  repeat' first | with_reducible refine th_ite ?_ ?_ | with_reducible refine th_it2 ?_ ?_
  all_goals first | with_reducible rfl | (simp only [th_memory, th_r, th_spsr, th_faults, th_lines, th_cpsr, th_steps, th_here, th_length, th_fault, th_jumps, th_carry, th_over, thr_put, thr_transfer_90, hs]; done) | (rw [thr_transfer_90 (hs := by simp only [th_memory, th_r, th_spsr, th_faults, th_lines, th_cpsr, th_steps, th_here, th_length, th_fault, th_jumps, th_carry, th_over, thr_put, thr_transfer_90, hs])] <;> simp only [th_memory, th_r, th_spsr, th_faults, th_lines, th_cpsr, th_steps, th_here, th_length, th_fault, th_jumps, th_carry, th_over, thr_put, thr_transfer_90, hs])
set_option maxHeartbeats 1000000 in
theorem thr_transfer_65 (σ : MS) (v0 : Bool) (v1 : Int32) (v2 : Int32) (v3 : Int32) (v4 : Int32) (v5 : Int32) (k0_46 : Int32) (k0_65 : Int32) : m_thrown (y_Model_transfer_65 σ v0 v1 v2 v3 v4 v5 k0_46 k0_65) = m_thrown σ := by
  unfold y_Model_transfer_65
  repeat' first | with_reducible refine th_ite ?_ ?_ | with_reducible refine th_it2 ?_ ?_
  all_goals first | with_reducible rfl | (simp only [th_memory, th_r, th_spsr, th_faults, th_lines, th_cpsr, th_steps, th_here, th_length, th_fault, th_jumps, th_carry, th_over, thr_storeAt, thr_transfer_70]; done) | (rw [thr_transfer_70 (hs := by simp only [th_memory, th_r, th_spsr, th_faults, th_lines, th_cpsr, th_steps, th_here, th_length, th_fault, th_jumps, th_carry, th_over, thr_storeAt, thr_transfer_70])] <;> simp only [th_memory, th_r, th_spsr, th_faults, th_lines, th_cpsr, th_steps, th_here, th_length, th_fault, th_jumps, th_carry, th_over, thr_storeAt, thr_transfer_70])
set_option maxHeartbeats 1000000 in
theorem thr_transfer_46 (σ : MS) (v0 : Bool) (v1 : Int32) (v2 : Int32) (v3 : Int32) (v4 : Int32) (v5 : Int32) (k0_46 : Int32) : m_thrown (y_Model_transfer_46 σ v0 v1 v2 v3 v4 v5 k0_46) = m_thrown σ := by
  unfold y_Model_transfer_46
  repeat' first | with_reducible refine th_ite ?_ ?_ | with_reducible refine th_it2 ?_ ?_
  all_goals first | with_reducible rfl | (simp only [th_memory, th_r, th_spsr, th_faults, th_lines, th_cpsr, th_steps, th_here, th_length, th_fault, th_jumps, th_carry, th_over, thr_transfer_65, thr_transfer_70]; done) | (rw [thr_transfer_70 (hs := by simp only [th_memory, th_r, th_spsr, th_faults, th_lines, th_cpsr, th_steps, th_here, th_length, th_fault, th_jumps, th_carry, th_over, thr_transfer_65, thr_transfer_70])] <;> simp only [th_memory, th_r, th_spsr, th_faults, th_lines, th_cpsr, th_steps, th_here, th_length, th_fault, th_jumps, th_carry, th_over, thr_transfer_65, thr_transfer_70])
set_option maxHeartbeats 1000000 in
theorem thr_transfer_43 (σ : MS) (v0 : Bool) (v1 : Int32) (v2 : Int32) (v3 : Int32) (v4 : Int32) (v5 : Int32) (k0_43 : Int32) : m_thrown (y_Model_transfer_43 σ v0 v1 v2 v3 v4 v5 k0_43) = m_thrown σ := by
  unfold y_Model_transfer_43
  repeat' first | with_reducible refine th_ite ?_ ?_ | with_reducible refine th_it2 ?_ ?_
  all_goals first | with_reducible rfl | (simp only [th_memory, th_r, th_spsr, th_faults, th_lines, th_cpsr, th_steps, th_here, th_length, th_fault, th_jumps, th_carry, th_over, thr_transfer_46]; done)
set_option maxHeartbeats 1000000 in
theorem thr_transfer (σ : MS) (v0 : Bool) (v1 : Int32) (v2 : Int32) (v3 : Int32) (v4 : Int32) (v5 : Int32) : m_thrown (y_Model_transfer σ v0 v1 v2 v3 v4 v5) = m_thrown σ := by
  unfold y_Model_transfer
  repeat' first | with_reducible refine th_ite ?_ ?_ | with_reducible refine th_it2 ?_ ?_
  all_goals first | with_reducible rfl | (simp only [th_memory, th_r, th_spsr, th_faults, th_lines, th_cpsr, th_steps, th_here, th_length, th_fault, th_jumps, th_carry, th_over, thr_transfer_43, thr_transfer_46]; done)
set_option maxHeartbeats 1000000 in
theorem thr_byRegisters_60 (σ : MS) (v0 : Int32) (v1 : Int32) (v2 : Int32) (k0_60 : Int32) : m_thrown (y_Model_byRegisters_60 σ v0 v1 v2 k0_60) = m_thrown σ := by
  unfold y_Model_byRegisters_60
  repeat' first | with_reducible refine th_ite ?_ ?_ | with_reducible refine th_it2 ?_ ?_
  all_goals first | with_reducible rfl | (simp only [th_memory, th_r, th_spsr, th_faults, th_lines, th_cpsr, th_steps, th_here, th_length, th_fault, th_jumps, th_carry, th_over, thr_transfer]; done)
set_option maxHeartbeats 1000000 in
theorem thr_byRegisters_21 (σ : MS) (v0 : Int32) (v1 : Int32) (v2 : Int32) : m_thrown (y_Model_byRegisters_21 σ v0 v1 v2) = m_thrown σ := by
  unfold y_Model_byRegisters_21
  repeat' first | with_reducible refine th_ite ?_ ?_ | with_reducible refine th_it2 ?_ ?_
  all_goals first | with_reducible rfl | (simp only [th_memory, th_r, th_spsr, th_faults, th_lines, th_cpsr, th_steps, th_here, th_length, th_fault, th_jumps, th_carry, th_over, thr_byRegisters_60]; done)
set_option maxHeartbeats 1000000 in
theorem thr_byRegisters_35 (σ : MS) (v0 : Int32) (v1 : Int32) (v2 : Int32) : m_thrown (y_Model_byRegisters_35 σ v0 v1 v2) = m_thrown σ := by
  unfold y_Model_byRegisters_35
  repeat' first | with_reducible refine th_ite ?_ ?_ | with_reducible refine th_it2 ?_ ?_
  all_goals first | with_reducible rfl | (simp only [th_memory, th_r, th_spsr, th_faults, th_lines, th_cpsr, th_steps, th_here, th_length, th_fault, th_jumps, th_carry, th_over, thr_byRegisters_60]; done)
set_option maxHeartbeats 1000000 in
theorem thr_byRegisters (σ : MS) (v0 : Int32) (v1 : Int32) (v2 : Int32) : m_thrown (y_Model_byRegisters σ v0 v1 v2) = m_thrown σ := by
  unfold y_Model_byRegisters
  repeat' first | with_reducible refine th_ite ?_ ?_ | with_reducible refine th_it2 ?_ ?_
  all_goals first | with_reducible rfl | (simp only [th_memory, th_r, th_spsr, th_faults, th_lines, th_cpsr, th_steps, th_here, th_length, th_fault, th_jumps, th_carry, th_over, thr_byRegisters_21, thr_byRegisters_35, thr_byRegisters_60]; done)
set_option maxHeartbeats 1000000 in
theorem thr_loadAll_82 (σ : MS) (v0 : Int32) (v1 : Int32) (v2 : Int32) (v3 : Bool) (n5_6 : Int32) (τ_82 : MS) (hs : m_thrown σ = m_thrown τ_82) : m_thrown (y_Model_loadAll_82 σ v0 v1 v2 v3 n5_6 τ_82) = m_thrown τ_82 := by
  unfold y_Model_loadAll_82
  repeat' first | with_reducible refine th_ite ?_ ?_ | with_reducible refine th_it2 ?_ ?_
  all_goals first | with_reducible rfl | (simp only [th_memory, th_r, th_spsr, th_faults, th_lines, th_cpsr, th_steps, th_here, th_length, th_fault, th_jumps, th_carry, th_over, thr_put, hs]; done)
set_option maxHeartbeats 1000000 in
theorem thr_loadAll_6 (σ : MS) (v0 : Int32) (v1 : Int32) (v2 : Int32) (v3 : Bool) : ∀ (n : Nat) (e0 : Int32) (e1 : Int32) (τ : MS) (hs : m_thrown σ = m_thrown τ), m_thrown (y_Model_loadAll_6 σ v0 v1 v2 v3 n e0 e1 τ) = m_thrown τ := by
  intro n
  induction n with
  | zero => intro e0 e1 τ hs; exact hs
  | succ n ih =>
    intro e0 e1 τ hs
    unfold y_Model_loadAll_6
    repeat' first | with_reducible refine th_ite ?_ ?_ | with_reducible refine th_it2 ?_ ?_
    all_goals first | with_reducible rfl | (simp only [th_memory, th_r, th_spsr, th_faults, th_lines, th_cpsr, th_steps, th_here, th_length, th_fault, th_jumps, th_carry, th_over, thr_loadAll_82, thr_putStatus, ih, hs]; done) | (rw [ih (hs := by simp only [th_memory, th_r, th_spsr, th_faults, th_lines, th_cpsr, th_steps, th_here, th_length, th_fault, th_jumps, th_carry, th_over, thr_loadAll_82, thr_putStatus, hs])] <;> simp only [th_memory, th_r, th_spsr, th_faults, th_lines, th_cpsr, th_steps, th_here, th_length, th_fault, th_jumps, th_carry, th_over, thr_loadAll_82, thr_putStatus, hs]) | (rw [thr_loadAll_82 (hs := by simp only [th_memory, th_r, th_spsr, th_faults, th_lines, th_cpsr, th_steps, th_here, th_length, th_fault, th_jumps, th_carry, th_over, thr_loadAll_82, thr_putStatus, hs])] <;> simp only [th_memory, th_r, th_spsr, th_faults, th_lines, th_cpsr, th_steps, th_here, th_length, th_fault, th_jumps, th_carry, th_over, thr_loadAll_82, thr_putStatus, hs])
set_option maxHeartbeats 1000000 in
theorem thr_loadAll (σ : MS) (v0 : Int32) (v1 : Int32) (v2 : Int32) (v3 : Bool) : m_thrown (y_Model_loadAll σ v0 v1 v2 v3) = m_thrown σ := by
  unfold y_Model_loadAll
  repeat' first | with_reducible refine th_ite ?_ ?_ | with_reducible refine th_it2 ?_ ?_
  all_goals first | with_reducible rfl | (simp only [th_memory, th_r, th_spsr, th_faults, th_lines, th_cpsr, th_steps, th_here, th_length, th_fault, th_jumps, th_carry, th_over, thr_loadAll_6]; done) | (rw [thr_loadAll_6 (hs := by simp only [th_memory, th_r, th_spsr, th_faults, th_lines, th_cpsr, th_steps, th_here, th_length, th_fault, th_jumps, th_carry, th_over, thr_loadAll_6])] <;> simp only [th_memory, th_r, th_spsr, th_faults, th_lines, th_cpsr, th_steps, th_here, th_length, th_fault, th_jumps, th_carry, th_over, thr_loadAll_6])
set_option maxHeartbeats 1000000 in
theorem thr_many_230 (σ : MS) (v0 : Bool) (v1 : Int32) (v2 : Int32) (v3 : Bool) (v4 : Bool) (v5 : Bool) (v6 : Bool) (k0_63 : Int32) (k0_89 : Bool) (k0_110 : Int32) (τ_230 : MS) (hs : m_thrown σ = m_thrown τ_230) : m_thrown (y_Model_many_230 σ v0 v1 v2 v3 v4 v5 v6 k0_63 k0_89 k0_110 τ_230) = m_thrown τ_230 := by
  unfold y_Model_many_230
  repeat' first | with_reducible refine th_ite ?_ ?_ | with_reducible refine th_it2 ?_ ?_
  all_goals first | with_reducible rfl | (simp only [th_memory, th_r, th_spsr, th_faults, th_lines, th_cpsr, th_steps, th_here, th_length, th_fault, th_jumps, th_carry, th_over, thr_loadAll, hs]; done)
set_option maxHeartbeats 1000000 in
theorem thr_many_227 (σ : MS) (v0 : Bool) (v1 : Int32) (v2 : Int32) (v3 : Bool) (v4 : Bool) (v5 : Bool) (v6 : Bool) (k0_63 : Int32) (k0_89 : Bool) (k0_110 : Int32) (τ_122 : MS) (k0_227 : Int32) (hs : m_thrown σ = m_thrown τ_122) : m_thrown (y_Model_many_227 σ v0 v1 v2 v3 v4 v5 v6 k0_63 k0_89 k0_110 τ_122 k0_227) = m_thrown τ_122 := by
  unfold y_Model_many_227
  repeat' first | with_reducible refine th_ite ?_ ?_ | with_reducible refine th_it2 ?_ ?_
  all_goals first | with_reducible rfl | (simp only [th_memory, th_r, th_spsr, th_faults, th_lines, th_cpsr, th_steps, th_here, th_length, th_fault, th_jumps, th_carry, th_over, thr_many_230, thr_put, hs]; done) | (rw [thr_many_230 (hs := by simp only [th_memory, th_r, th_spsr, th_faults, th_lines, th_cpsr, th_steps, th_here, th_length, th_fault, th_jumps, th_carry, th_over, thr_many_230, thr_put, hs])] <;> simp only [th_memory, th_r, th_spsr, th_faults, th_lines, th_cpsr, th_steps, th_here, th_length, th_fault, th_jumps, th_carry, th_over, thr_many_230, thr_put, hs])
set_option maxHeartbeats 1000000 in
theorem thr_many_188 (σ : MS) (v0 : Bool) (v1 : Int32) (v2 : Int32) (v3 : Bool) (v4 : Bool) (v5 : Bool) (v6 : Bool) (k0_63 : Int32) (k0_89 : Bool) (k0_110 : Int32) (τ_122 : MS) (hs : m_thrown σ = m_thrown τ_122) : m_thrown (y_Model_many_188 σ v0 v1 v2 v3 v4 v5 v6 k0_63 k0_89 k0_110 τ_122) = m_thrown τ_122 := by
  unfold y_Model_many_188
  repeat' first | with_reducible refine th_ite ?_ ?_ | with_reducible refine th_it2 ?_ ?_
  all_goals first | with_reducible rfl | (simp only [th_memory, th_r, th_spsr, th_faults, th_lines, th_cpsr, th_steps, th_here, th_length, th_fault, th_jumps, th_carry, th_over, thr_many_227, thr_many_230, hs]; done) | (rw [thr_many_227 (hs := by simp only [th_memory, th_r, th_spsr, th_faults, th_lines, th_cpsr, th_steps, th_here, th_length, th_fault, th_jumps, th_carry, th_over, thr_many_227, thr_many_230, hs])] <;> simp only [th_memory, th_r, th_spsr, th_faults, th_lines, th_cpsr, th_steps, th_here, th_length, th_fault, th_jumps, th_carry, th_over, thr_many_227, thr_many_230, hs]) | (rw [thr_many_230 (hs := by simp only [th_memory, th_r, th_spsr, th_faults, th_lines, th_cpsr, th_steps, th_here, th_length, th_fault, th_jumps, th_carry, th_over, thr_many_227, thr_many_230, hs])] <;> simp only [th_memory, th_r, th_spsr, th_faults, th_lines, th_cpsr, th_steps, th_here, th_length, th_fault, th_jumps, th_carry, th_over, thr_many_227, thr_many_230, hs])
set_option maxHeartbeats 1000000 in
theorem thr_many_122 (σ : MS) (v0 : Bool) (v1 : Int32) (v2 : Int32) (v3 : Bool) (v4 : Bool) (v5 : Bool) (v6 : Bool) : ∀ (n : Nat) (e0 : Int32) (e1 : Bool) (e2 : Int32) (e3 : Int32) (τ : MS) (hs : m_thrown σ = m_thrown τ), m_thrown (y_Model_many_122 σ v0 v1 v2 v3 v4 v5 v6 n e0 e1 e2 e3 τ) = m_thrown τ := by
  intro n
  induction n with
  | zero => intro e0 e1 e2 e3 τ hs; exact hs
  | succ n ih =>
    intro e0 e1 e2 e3 τ hs
    unfold y_Model_many_122
    repeat' first | with_reducible refine th_ite ?_ ?_ | with_reducible refine th_it2 ?_ ?_
    all_goals first | with_reducible rfl | (simp only [th_memory, th_r, th_spsr, th_faults, th_lines, th_cpsr, th_steps, th_here, th_length, th_fault, th_jumps, th_carry, th_over, thr_many_188, ih, hs]; done) | (rw [ih (hs := by simp only [th_memory, th_r, th_spsr, th_faults, th_lines, th_cpsr, th_steps, th_here, th_length, th_fault, th_jumps, th_carry, th_over, thr_many_188, hs])] <;> simp only [th_memory, th_r, th_spsr, th_faults, th_lines, th_cpsr, th_steps, th_here, th_length, th_fault, th_jumps, th_carry, th_over, thr_many_188, hs]) | (rw [thr_many_188 (hs := by simp only [th_memory, th_r, th_spsr, th_faults, th_lines, th_cpsr, th_steps, th_here, th_length, th_fault, th_jumps, th_carry, th_over, thr_many_188, hs])] <;> simp only [th_memory, th_r, th_spsr, th_faults, th_lines, th_cpsr, th_steps, th_here, th_length, th_fault, th_jumps, th_carry, th_over, thr_many_188, hs])
set_option maxHeartbeats 1000000 in
theorem thr_many_110 (σ : MS) (v0 : Bool) (v1 : Int32) (v2 : Int32) (v3 : Bool) (v4 : Bool) (v5 : Bool) (v6 : Bool) (k0_63 : Int32) (k0_89 : Bool) (k0_110 : Int32) : m_thrown (y_Model_many_110 σ v0 v1 v2 v3 v4 v5 v6 k0_63 k0_89 k0_110) = m_thrown σ := by
  unfold y_Model_many_110
  repeat' first | with_reducible refine th_ite ?_ ?_ | with_reducible refine th_it2 ?_ ?_
  all_goals first | with_reducible rfl | (simp only [th_memory, th_r, th_spsr, th_faults, th_lines, th_cpsr, th_steps, th_here, th_length, th_fault, th_jumps, th_carry, th_over, thr_many_122]; done) | (rw [thr_many_122 (hs := by simp only [th_memory, th_r, th_spsr, th_faults, th_lines, th_cpsr, th_steps, th_here, th_length, th_fault, th_jumps, th_carry, th_over, thr_many_122])] <;> simp only [th_memory, th_r, th_spsr, th_faults, th_lines, th_cpsr, th_steps, th_here, th_length, th_fault, th_jumps, th_carry, th_over, thr_many_122])
set_option maxHeartbeats 1000000 in
theorem thr_many_106 (σ : MS) (v0 : Bool) (v1 : Int32) (v2 : Int32) (v3 : Bool) (v4 : Bool) (v5 : Bool) (v6 : Bool) (k0_63 : Int32) (k0_89 : Bool) : m_thrown (y_Model_many_106 σ v0 v1 v2 v3 v4 v5 v6 k0_63 k0_89) = m_thrown σ := by
  unfold y_Model_many_106
  repeat' first | with_reducible refine th_ite ?_ ?_ | with_reducible refine th_it2 ?_ ?_
  all_goals first | with_reducible rfl | (simp only [th_memory, th_r, th_spsr, th_faults, th_lines, th_cpsr, th_steps, th_here, th_length, th_fault, th_jumps, th_carry, th_over, thr_many_110]; done)
set_option maxHeartbeats 1000000 in
theorem thr_many_89 (σ : MS) (v0 : Bool) (v1 : Int32) (v2 : Int32) (v3 : Bool) (v4 : Bool) (v5 : Bool) (v6 : Bool) (k0_63 : Int32) (k0_89 : Bool) : m_thrown (y_Model_many_89 σ v0 v1 v2 v3 v4 v5 v6 k0_63 k0_89) = m_thrown σ := by
  unfold y_Model_many_89
  repeat' first | with_reducible refine th_ite ?_ ?_ | with_reducible refine th_it2 ?_ ?_
  all_goals first | with_reducible rfl | (simp only [th_memory, th_r, th_spsr, th_faults, th_lines, th_cpsr, th_steps, th_here, th_length, th_fault, th_jumps, th_carry, th_over, thr_many_106, thr_many_110]; done)
set_option maxHeartbeats 1000000 in
theorem thr_many_88 (σ : MS) (v0 : Bool) (v1 : Int32) (v2 : Int32) (v3 : Bool) (v4 : Bool) (v5 : Bool) (v6 : Bool) (k0_63 : Int32) : m_thrown (y_Model_many_88 σ v0 v1 v2 v3 v4 v5 v6 k0_63) = m_thrown σ := by
  unfold y_Model_many_88
  repeat' first | with_reducible refine th_ite ?_ ?_ | with_reducible refine th_it2 ?_ ?_
  all_goals first | with_reducible rfl | (simp only [th_memory, th_r, th_spsr, th_faults, th_lines, th_cpsr, th_steps, th_here, th_length, th_fault, th_jumps, th_carry, th_over, thr_many_89]; done)
set_option maxHeartbeats 1000000 in
theorem thr_many_63 (σ : MS) (v0 : Bool) (v1 : Int32) (v2 : Int32) (v3 : Bool) (v4 : Bool) (v5 : Bool) (v6 : Bool) (k0_63 : Int32) : m_thrown (y_Model_many_63 σ v0 v1 v2 v3 v4 v5 v6 k0_63) = m_thrown σ := by
  unfold y_Model_many_63
  repeat' first | with_reducible refine th_ite ?_ ?_ | with_reducible refine th_it2 ?_ ?_
  all_goals first | with_reducible rfl | (simp only [th_memory, th_r, th_spsr, th_faults, th_lines, th_cpsr, th_steps, th_here, th_length, th_fault, th_jumps, th_carry, th_over, thr_many_88, thr_many_89]; done)
set_option maxHeartbeats 1000000 in
theorem thr_many (σ : MS) (v0 : Bool) (v1 : Int32) (v2 : Int32) (v3 : Bool) (v4 : Bool) (v5 : Bool) (v6 : Bool) : m_thrown (y_Model_many σ v0 v1 v2 v3 v4 v5 v6) = m_thrown σ := by
  unfold y_Model_many
  repeat' first | with_reducible refine th_ite ?_ ?_ | with_reducible refine th_it2 ?_ ?_
  all_goals first | with_reducible rfl | (simp only [th_memory, th_r, th_spsr, th_faults, th_lines, th_cpsr, th_steps, th_here, th_length, th_fault, th_jumps, th_carry, th_over, thr_many_63]; done)
set_option maxHeartbeats 1000000 in
theorem thr_stack_146 (σ : MS) (v0 : Int32) (k0_146 : Int32) : m_thrown (y_Model_stack_146 σ v0 k0_146) = m_thrown σ := by
  unfold y_Model_stack_146
  repeat' first | with_reducible refine th_ite ?_ ?_ | with_reducible refine th_it2 ?_ ?_
  all_goals first | with_reducible rfl | (simp only [th_memory, th_r, th_spsr, th_faults, th_lines, th_cpsr, th_steps, th_here, th_length, th_fault, th_jumps, th_carry, th_over, thr_many]; done)
set_option maxHeartbeats 1000000 in
theorem thr_stack_111 (σ : MS) (v0 : Int32) (k0_111 : Int32) : m_thrown (y_Model_stack_111 σ v0 k0_111) = m_thrown σ := by
  unfold y_Model_stack_111
  repeat' first | with_reducible refine th_ite ?_ ?_ | with_reducible refine th_it2 ?_ ?_
  all_goals first | with_reducible rfl | (simp only [th_memory, th_r, th_spsr, th_faults, th_lines, th_cpsr, th_steps, th_here, th_length, th_fault, th_jumps, th_carry, th_over, thr_many]; done)
set_option maxHeartbeats 1000000 in
theorem thr_stack (σ : MS) (v0 : Int32) : m_thrown (y_Model_stack σ v0) = m_thrown σ := by
  unfold y_Model_stack
  repeat' first | with_reducible refine th_ite ?_ ?_ | with_reducible refine th_it2 ?_ ?_
  all_goals first | with_reducible rfl | (simp only [th_memory, th_r, th_spsr, th_faults, th_lines, th_cpsr, th_steps, th_here, th_length, th_fault, th_jumps, th_carry, th_over, thr_put, thr_stack_111, thr_stack_146, thr_undefined]; done)
set_option maxHeartbeats 1000000 in
theorem thr_conditional (σ : MS) (v0 : Int32) (v1 : Int32) : m_thrown (y_Model_conditional σ v0 v1) = m_thrown σ := by
  unfold y_Model_conditional
  repeat' first | with_reducible refine th_ite ?_ ?_ | with_reducible refine th_it2 ?_ ?_
  all_goals first | with_reducible rfl | (simp only [th_memory, th_r, th_spsr, th_faults, th_lines, th_cpsr, th_steps, th_here, th_length, th_fault, th_jumps, th_carry, th_over, thr_put, thr_undefined]; done)
set_option maxHeartbeats 1000000 in
theorem thr_far (σ : MS) (v0 : Int32) : m_thrown (y_Model_far σ v0) = m_thrown σ := by
  unfold y_Model_far
  repeat' first | with_reducible refine th_ite ?_ ?_ | with_reducible refine th_it2 ?_ ?_
  all_goals first | with_reducible rfl | (simp only [th_memory, th_r, th_spsr, th_faults, th_lines, th_cpsr, th_steps, th_here, th_length, th_fault, th_jumps, th_carry, th_over, thr_put, thr_undefined]; done)
set_option maxHeartbeats 1000000 in
theorem thr_thumb_367 (σ : MS) (v0 : Int32) (k0_367 : Int32) : m_thrown (y_Model_thumb_367 σ v0 k0_367) = m_thrown σ := by
  unfold y_Model_thumb_367
  repeat' first | with_reducible refine th_ite ?_ ?_ | with_reducible refine th_it2 ?_ ?_
  all_goals first | with_reducible rfl | (simp only [th_memory, th_r, th_spsr, th_faults, th_lines, th_cpsr, th_steps, th_here, th_length, th_fault, th_jumps, th_carry, th_over, thr_put]; done)
set_option maxHeartbeats 1000000 in
theorem thr_thumb_243 (σ : MS) (v0 : Int32) (k0_243 : Int32) : m_thrown (y_Model_thumb_243 σ v0 k0_243) = m_thrown σ := by
  unfold y_Model_thumb_243
  repeat' first | with_reducible refine th_ite ?_ ?_ | with_reducible refine th_it2 ?_ ?_
  all_goals first | with_reducible rfl | (simp only [th_memory, th_r, th_spsr, th_faults, th_lines, th_cpsr, th_steps, th_here, th_length, th_fault, th_jumps, th_carry, th_over, thr_transfer]; done)
set_option maxHeartbeats 1000000 in
theorem thr_thumb (σ : MS) (v0 : Int32) : m_thrown (y_Model_thumb σ v0) = m_thrown σ := by
  unfold y_Model_thumb
  repeat' first | with_reducible refine th_ite ?_ ?_ | with_reducible refine th_it2 ?_ ?_
  all_goals first | with_reducible rfl | (simp only [th_memory, th_r, th_spsr, th_faults, th_lines, th_cpsr, th_steps, th_here, th_length, th_fault, th_jumps, th_carry, th_over, thr_byRegisters, thr_conditional, thr_early, thr_far, thr_highOnes, thr_many, thr_numbers, thr_operations, thr_stack, thr_thumb_243, thr_thumb_367, thr_transfer]; done)
set_option maxHeartbeats 1000000 in
theorem thr_multiply_267 (σ : MS) (v0 : Int32) (k0_202 : Int64) (k0_231 : Int64) (k0_267 : Int64) : m_thrown (y_Model_multiply_267 σ v0 k0_202 k0_231 k0_267) = m_thrown σ := by
  unfold y_Model_multiply_267
  repeat' first | with_reducible refine th_ite ?_ ?_ | with_reducible refine th_it2 ?_ ?_
  all_goals first | with_reducible rfl | (simp only [th_memory, th_r, th_spsr, th_faults, th_lines, th_cpsr, th_steps, th_here, th_length, th_fault, th_jumps, th_carry, th_over, thr_put, thr_setFlags]; done)
set_option maxHeartbeats 1000000 in
theorem thr_multiply_231 (σ : MS) (v0 : Int32) (k0_202 : Int64) (k0_231 : Int64) : m_thrown (y_Model_multiply_231 σ v0 k0_202 k0_231) = m_thrown σ := by
  unfold y_Model_multiply_231
  repeat' first | with_reducible refine th_ite ?_ ?_ | with_reducible refine th_it2 ?_ ?_
  all_goals first | with_reducible rfl | (simp only [th_memory, th_r, th_spsr, th_faults, th_lines, th_cpsr, th_steps, th_here, th_length, th_fault, th_jumps, th_carry, th_over, thr_multiply_267]; done)
set_option maxHeartbeats 1000000 in
theorem thr_multiply_202 (σ : MS) (v0 : Int32) (k0_202 : Int64) : m_thrown (y_Model_multiply_202 σ v0 k0_202) = m_thrown σ := by
  unfold y_Model_multiply_202
  repeat' first | with_reducible refine th_ite ?_ ?_ | with_reducible refine th_it2 ?_ ?_
  all_goals first | with_reducible rfl | (simp only [th_memory, th_r, th_spsr, th_faults, th_lines, th_cpsr, th_steps, th_here, th_length, th_fault, th_jumps, th_carry, th_over, thr_multiply_231]; done)
set_option maxHeartbeats 1000000 in
theorem thr_multiply_153 (σ : MS) (v0 : Int32) (k0_153 : Int32) : m_thrown (y_Model_multiply_153 σ v0 k0_153) = m_thrown σ := by
  unfold y_Model_multiply_153
  repeat' first | with_reducible refine th_ite ?_ ?_ | with_reducible refine th_it2 ?_ ?_
  all_goals first | with_reducible rfl | (simp only [th_memory, th_r, th_spsr, th_faults, th_lines, th_cpsr, th_steps, th_here, th_length, th_fault, th_jumps, th_carry, th_over, thr_put, thr_setFlags]; done)
set_option maxHeartbeats 1000000 in
theorem thr_multiply_87 (σ : MS) (v0 : Int32) : m_thrown (y_Model_multiply_87 σ v0) = m_thrown σ := by
  unfold y_Model_multiply_87
  repeat' first | with_reducible refine th_ite ?_ ?_ | with_reducible refine th_it2 ?_ ?_
  all_goals first | with_reducible rfl | (simp only [th_memory, th_r, th_spsr, th_faults, th_lines, th_cpsr, th_steps, th_here, th_length, th_fault, th_jumps, th_carry, th_over, thr_multiply_153, thr_multiply_202]; done)
set_option maxHeartbeats 1000000 in
theorem thr_multiply (σ : MS) (v0 : Int32) : m_thrown (y_Model_multiply σ v0) = m_thrown σ := by
  unfold y_Model_multiply
  repeat' first | with_reducible refine th_ite ?_ ?_ | with_reducible refine th_it2 ?_ ?_
  all_goals first | with_reducible rfl | (simp only [th_memory, th_r, th_spsr, th_faults, th_lines, th_cpsr, th_steps, th_here, th_length, th_fault, th_jumps, th_carry, th_over, thr_multiply_87, thr_undefined]; done)
set_option maxHeartbeats 1000000 in
theorem thr_swap_82 (σ : MS) (v0 : Int32) (k0_82 : Int32) : m_thrown (y_Model_swap_82 σ v0 k0_82) = m_thrown σ := by
  unfold y_Model_swap_82
  repeat' first | with_reducible refine th_ite ?_ ?_ | with_reducible refine th_it2 ?_ ?_
  all_goals first | with_reducible rfl | (simp only [th_memory, th_r, th_spsr, th_faults, th_lines, th_cpsr, th_steps, th_here, th_length, th_fault, th_jumps, th_carry, th_over, thr_put, thr_storeAt]; done)
set_option maxHeartbeats 1000000 in
theorem thr_swap (σ : MS) (v0 : Int32) : m_thrown (y_Model_swap σ v0) = m_thrown σ := by
  unfold y_Model_swap
  repeat' first | with_reducible refine th_ite ?_ ?_ | with_reducible refine th_it2 ?_ ?_
  all_goals first | with_reducible rfl | (simp only [th_memory, th_r, th_spsr, th_faults, th_lines, th_cpsr, th_steps, th_here, th_length, th_fault, th_jumps, th_carry, th_over, thr_swap_82, thr_undefined]; done)
set_option maxHeartbeats 1000000 in
theorem thr_indexed_115 (σ : MS) (v0 : Int32) (v1 : Int32) (v2 : Int32) (k0_55 : Int32) (k0_77 : Bool) (k0_115 : Int32) : m_thrown (y_Model_indexed_115 σ v0 v1 v2 k0_55 k0_77 k0_115) = m_thrown σ := by
  unfold y_Model_indexed_115
  repeat' first | with_reducible refine th_ite ?_ ?_ | with_reducible refine th_it2 ?_ ?_
  all_goals first | with_reducible rfl | (simp only [th_memory, th_r, th_spsr, th_faults, th_lines, th_cpsr, th_steps, th_here, th_length, th_fault, th_jumps, th_carry, th_over, thr_transfer]; done)
set_option maxHeartbeats 1000000 in
theorem thr_indexed_77 (σ : MS) (v0 : Int32) (v1 : Int32) (v2 : Int32) (k0_55 : Int32) (k0_77 : Bool) : m_thrown (y_Model_indexed_77 σ v0 v1 v2 k0_55 k0_77) = m_thrown σ := by
  unfold y_Model_indexed_77
  repeat' first | with_reducible refine th_ite ?_ ?_ | with_reducible refine th_it2 ?_ ?_
  all_goals first | with_reducible rfl | (simp only [th_memory, th_r, th_spsr, th_faults, th_lines, th_cpsr, th_steps, th_here, th_length, th_fault, th_jumps, th_carry, th_over, thr_indexed_115]; done)
set_option maxHeartbeats 1000000 in
theorem thr_indexed_72 (σ : MS) (v0 : Int32) (v1 : Int32) (v2 : Int32) (k0_55 : Int32) : m_thrown (y_Model_indexed_72 σ v0 v1 v2 k0_55) = m_thrown σ := by
  unfold y_Model_indexed_72
  repeat' first | with_reducible refine th_ite ?_ ?_ | with_reducible refine th_it2 ?_ ?_
  all_goals first | with_reducible rfl | (simp only [th_memory, th_r, th_spsr, th_faults, th_lines, th_cpsr, th_steps, th_here, th_length, th_fault, th_jumps, th_carry, th_over, thr_indexed_77]; done)
set_option maxHeartbeats 1000000 in
theorem thr_indexed_55 (σ : MS) (v0 : Int32) (v1 : Int32) (v2 : Int32) (k0_55 : Int32) : m_thrown (y_Model_indexed_55 σ v0 v1 v2 k0_55) = m_thrown σ := by
  unfold y_Model_indexed_55
  repeat' first | with_reducible refine th_ite ?_ ?_ | with_reducible refine th_it2 ?_ ?_
  all_goals first | with_reducible rfl | (simp only [th_memory, th_r, th_spsr, th_faults, th_lines, th_cpsr, th_steps, th_here, th_length, th_fault, th_jumps, th_carry, th_over, thr_indexed_72, thr_indexed_77]; done)
set_option maxHeartbeats 1000000 in
theorem thr_indexed (σ : MS) (v0 : Int32) (v1 : Int32) (v2 : Int32) : m_thrown (y_Model_indexed σ v0 v1 v2) = m_thrown σ := by
  unfold y_Model_indexed
  repeat' first | with_reducible refine th_ite ?_ ?_ | with_reducible refine th_it2 ?_ ?_
  all_goals first | with_reducible rfl | (simp only [th_memory, th_r, th_spsr, th_faults, th_lines, th_cpsr, th_steps, th_here, th_length, th_fault, th_jumps, th_carry, th_over, thr_indexed_55]; done)
set_option maxHeartbeats 1000000 in
theorem thr_halves_69 (σ : MS) (v0 : Int32) (k0_69 : Int32) : m_thrown (y_Model_halves_69 σ v0 k0_69) = m_thrown σ := by
  unfold y_Model_halves_69
  repeat' first | with_reducible refine th_ite ?_ ?_ | with_reducible refine th_it2 ?_ ?_
  all_goals first | with_reducible rfl | (simp only [th_memory, th_r, th_spsr, th_faults, th_lines, th_cpsr, th_steps, th_here, th_length, th_fault, th_jumps, th_carry, th_over, thr_indexed]; done)
set_option maxHeartbeats 1000000 in
theorem thr_halves_36 (σ : MS) (v0 : Int32) : m_thrown (y_Model_halves_36 σ v0) = m_thrown σ := by
  unfold y_Model_halves_36
  repeat' first | with_reducible refine th_ite ?_ ?_ | with_reducible refine th_it2 ?_ ?_
  all_goals first | with_reducible rfl | (simp only [th_memory, th_r, th_spsr, th_faults, th_lines, th_cpsr, th_steps, th_here, th_length, th_fault, th_jumps, th_carry, th_over, thr_halves_69]; done)
set_option maxHeartbeats 1000000 in
theorem thr_halves (σ : MS) (v0 : Int32) : m_thrown (y_Model_halves σ v0) = m_thrown σ := by
  unfold y_Model_halves
  repeat' first | with_reducible refine th_ite ?_ ?_ | with_reducible refine th_it2 ?_ ?_
  all_goals first | with_reducible rfl | (simp only [th_memory, th_r, th_spsr, th_faults, th_lines, th_cpsr, th_steps, th_here, th_length, th_fault, th_jumps, th_carry, th_over, thr_halves_36, thr_undefined]; done)
set_option maxHeartbeats 1000000 in
theorem thr_turnedNumber (σ : MS) (v0 : Int32) : m_thrown (y_Model_turnedNumber σ v0).2 = m_thrown σ := by
  unfold y_Model_turnedNumber
  repeat' first | with_reducible refine th_ite ?_ ?_ | with_reducible refine th_it2 ?_ ?_
  all_goals first | with_reducible rfl | (simp only [th_memory, th_r, th_spsr, th_faults, th_lines, th_cpsr, th_steps, th_here, th_length, th_fault, th_jumps, th_carry, th_over, thr_shift]; done)
set_option maxHeartbeats 1000000 in
theorem thr_toStatus_141 (σ : MS) (v0 : Int32) (k0_26 : Int32) (τ_26 : MS) (k0_141 : Int32) (hs : m_thrown σ = m_thrown τ_26) : m_thrown (y_Model_toStatus_141 σ v0 k0_26 τ_26 k0_141) = m_thrown τ_26 := by
  unfold y_Model_toStatus_141
  repeat' first | with_reducible refine th_ite ?_ ?_ | with_reducible refine th_it2 ?_ ?_
  all_goals first | with_reducible rfl | (simp only [th_memory, th_r, th_spsr, th_faults, th_lines, th_cpsr, th_steps, th_here, th_length, th_fault, th_jumps, th_carry, th_over, thr_putStatus, hs]; done)
set_option maxHeartbeats 1000000 in
theorem thr_toStatus_76 (σ : MS) (v0 : Int32) (k0_26 : Int32) (k0_59 : Int32) (τ_26 : MS) (k0_76 : Int32) (hs : m_thrown σ = m_thrown τ_26) : m_thrown (y_Model_toStatus_76 σ v0 k0_26 k0_59 τ_26 k0_76) = m_thrown τ_26 := by
  unfold y_Model_toStatus_76
  repeat' first | with_reducible refine th_ite ?_ ?_ | with_reducible refine th_it2 ?_ ?_
  all_goals first | with_reducible rfl | (simp only [th_memory, th_r, th_spsr, th_faults, th_lines, th_cpsr, th_steps, th_here, th_length, th_fault, th_jumps, th_carry, th_over, thr_toStatus_141, hs]; done) | (rw [thr_toStatus_141 (hs := by simp only [th_memory, th_r, th_spsr, th_faults, th_lines, th_cpsr, th_steps, th_here, th_length, th_fault, th_jumps, th_carry, th_over, thr_toStatus_141, hs])] <;> simp only [th_memory, th_r, th_spsr, th_faults, th_lines, th_cpsr, th_steps, th_here, th_length, th_fault, th_jumps, th_carry, th_over, thr_toStatus_141, hs])
set_option maxHeartbeats 1000000 in
theorem thr_toStatus_59 (σ : MS) (v0 : Int32) (k0_26 : Int32) (τ_26 : MS) (k0_59 : Int32) (hs : m_thrown σ = m_thrown τ_26) : m_thrown (y_Model_toStatus_59 σ v0 k0_26 τ_26 k0_59) = m_thrown τ_26 := by
  unfold y_Model_toStatus_59
  repeat' first | with_reducible refine th_ite ?_ ?_ | with_reducible refine th_it2 ?_ ?_
  all_goals first | with_reducible rfl | (simp only [th_memory, th_r, th_spsr, th_faults, th_lines, th_cpsr, th_steps, th_here, th_length, th_fault, th_jumps, th_carry, th_over, thr_toStatus_76, hs]; done) | (rw [thr_toStatus_76 (hs := by simp only [th_memory, th_r, th_spsr, th_faults, th_lines, th_cpsr, th_steps, th_here, th_length, th_fault, th_jumps, th_carry, th_over, thr_toStatus_76, hs])] <;> simp only [th_memory, th_r, th_spsr, th_faults, th_lines, th_cpsr, th_steps, th_here, th_length, th_fault, th_jumps, th_carry, th_over, thr_toStatus_76, hs])
set_option maxHeartbeats 1000000 in
theorem thr_toStatus_26 (σ : MS) (v0 : Int32) (k0_26 : Int32) (τ_26 : MS) (hs : m_thrown σ = m_thrown τ_26) : m_thrown (y_Model_toStatus_26 σ v0 k0_26 τ_26) = m_thrown τ_26 := by
  unfold y_Model_toStatus_26
  repeat' first | with_reducible refine th_ite ?_ ?_ | with_reducible refine th_it2 ?_ ?_
  all_goals first | with_reducible rfl | (simp only [th_memory, th_r, th_spsr, th_faults, th_lines, th_cpsr, th_steps, th_here, th_length, th_fault, th_jumps, th_carry, th_over, thr_toStatus_59, hs]; done) | (rw [thr_toStatus_59 (hs := by simp only [th_memory, th_r, th_spsr, th_faults, th_lines, th_cpsr, th_steps, th_here, th_length, th_fault, th_jumps, th_carry, th_over, thr_toStatus_59, hs])] <;> simp only [th_memory, th_r, th_spsr, th_faults, th_lines, th_cpsr, th_steps, th_here, th_length, th_fault, th_jumps, th_carry, th_over, thr_toStatus_59, hs])
set_option maxHeartbeats 1000000 in
theorem thr_toStatus (σ : MS) (v0 : Int32) : m_thrown (y_Model_toStatus σ v0) = m_thrown σ := by
  unfold y_Model_toStatus
  repeat' first | with_reducible refine th_ite ?_ ?_ | with_reducible refine th_it2 ?_ ?_
  all_goals first | with_reducible rfl | (simp only [th_memory, th_r, th_spsr, th_faults, th_lines, th_cpsr, th_steps, th_here, th_length, th_fault, th_jumps, th_carry, th_over, thr_toStatus_26, thr_turnedNumber]; done) | (rw [thr_toStatus_26 (hs := by simp only [th_memory, th_r, th_spsr, th_faults, th_lines, th_cpsr, th_steps, th_here, th_length, th_fault, th_jumps, th_carry, th_over, thr_toStatus_26, thr_turnedNumber])] <;> simp only [th_memory, th_r, th_spsr, th_faults, th_lines, th_cpsr, th_steps, th_here, th_length, th_fault, th_jumps, th_carry, th_over, thr_toStatus_26, thr_turnedNumber])
set_option maxHeartbeats 1000000 in
theorem thr_data_279 (σ : MS) (v0 : Int32) (k0_203 : Int32) (τ_203 : MS) (k0_109 : Int32) (hs : m_thrown σ = m_thrown τ_203) : m_thrown (y_Model_data_279 σ v0 k0_203 τ_203 k0_109) = m_thrown τ_203 := by
  unfold y_Model_data_279
  repeat' first | with_reducible refine th_ite ?_ ?_ | with_reducible refine th_it2 ?_ ?_
  all_goals first | with_reducible rfl | (simp only [th_memory, th_r, th_spsr, th_faults, th_lines, th_cpsr, th_steps, th_here, th_length, th_fault, th_jumps, th_carry, th_over, thr_finish, hs]; done)
set_option maxHeartbeats 1000000 in
theorem thr_data_203 (σ : MS) (v0 : Int32) (k0_109 : Int32) (k0_203 : Int32) (τ_203 : MS) (hs : m_thrown σ = m_thrown τ_203) : m_thrown (y_Model_data_203 σ v0 k0_109 k0_203 τ_203) = m_thrown τ_203 := by
  unfold y_Model_data_203
  repeat' first | with_reducible refine th_ite ?_ ?_ | with_reducible refine th_it2 ?_ ?_
  all_goals first | with_reducible rfl | (simp only [th_memory, th_r, th_spsr, th_faults, th_lines, th_cpsr, th_steps, th_here, th_length, th_fault, th_jumps, th_carry, th_over, thr_data_279, thr_operate, thr_put, thr_putStatus, hs]; done) | (rw [thr_data_279 (hs := by simp only [th_memory, th_r, th_spsr, th_faults, th_lines, th_cpsr, th_steps, th_here, th_length, th_fault, th_jumps, th_carry, th_over, thr_data_279, thr_operate, thr_put, thr_putStatus, hs])] <;> simp only [th_memory, th_r, th_spsr, th_faults, th_lines, th_cpsr, th_steps, th_here, th_length, th_fault, th_jumps, th_carry, th_over, thr_data_279, thr_operate, thr_put, thr_putStatus, hs])
set_option maxHeartbeats 1000000 in
theorem thr_data_109 (σ : MS) (v0 : Int32) (k0_60 : Bool) (k0_109 : Int32) : m_thrown (y_Model_data_109 σ v0 k0_60 k0_109) = m_thrown σ := by
  unfold y_Model_data_109
  repeat' first | with_reducible refine th_ite ?_ ?_ | with_reducible refine th_it2 ?_ ?_
  all_goals first | with_reducible rfl | (simp only [th_memory, th_r, th_spsr, th_faults, th_lines, th_cpsr, th_steps, th_here, th_length, th_fault, th_jumps, th_carry, th_over, thr_data_203, thr_shift, thr_shiftBy, thr_turnedNumber]; done) | (rw [thr_data_203 (hs := by simp only [th_memory, th_r, th_spsr, th_faults, th_lines, th_cpsr, th_steps, th_here, th_length, th_fault, th_jumps, th_carry, th_over, thr_data_203, thr_shift, thr_shiftBy, thr_turnedNumber])] <;> simp only [th_memory, th_r, th_spsr, th_faults, th_lines, th_cpsr, th_steps, th_here, th_length, th_fault, th_jumps, th_carry, th_over, thr_data_203, thr_shift, thr_shiftBy, thr_turnedNumber])
set_option maxHeartbeats 1000000 in
theorem thr_data_97 (σ : MS) (v0 : Int32) (k0_60 : Bool) : m_thrown (y_Model_data_97 σ v0 k0_60) = m_thrown σ := by
  unfold y_Model_data_97
  repeat' first | with_reducible refine th_ite ?_ ?_ | with_reducible refine th_it2 ?_ ?_
  all_goals first | with_reducible rfl | (simp only [th_memory, th_r, th_spsr, th_faults, th_lines, th_cpsr, th_steps, th_here, th_length, th_fault, th_jumps, th_carry, th_over, thr_data_109]; done)
set_option maxHeartbeats 1000000 in
theorem thr_data_77 (σ : MS) (v0 : Int32) (k0_60 : Bool) : m_thrown (y_Model_data_77 σ v0 k0_60) = m_thrown σ := by
  unfold y_Model_data_77
  repeat' first | with_reducible refine th_ite ?_ ?_ | with_reducible refine th_it2 ?_ ?_
  all_goals first | with_reducible rfl | (simp only [th_memory, th_r, th_spsr, th_faults, th_lines, th_cpsr, th_steps, th_here, th_length, th_fault, th_jumps, th_carry, th_over, thr_data_97, thr_undefined]; done)
set_option maxHeartbeats 1000000 in
theorem thr_data_60 (σ : MS) (v0 : Int32) (k0_60 : Bool) : m_thrown (y_Model_data_60 σ v0 k0_60) = m_thrown σ := by
  unfold y_Model_data_60
  repeat' first | with_reducible refine th_ite ?_ ?_ | with_reducible refine th_it2 ?_ ?_
  all_goals first | with_reducible rfl | (simp only [th_memory, th_r, th_spsr, th_faults, th_lines, th_cpsr, th_steps, th_here, th_length, th_fault, th_jumps, th_carry, th_over, thr_data_77, thr_undefined]; done)
set_option maxHeartbeats 1000000 in
theorem thr_data_59 (σ : MS) (v0 : Int32) : m_thrown (y_Model_data_59 σ v0) = m_thrown σ := by
  unfold y_Model_data_59
  repeat' first | with_reducible refine th_ite ?_ ?_ | with_reducible refine th_it2 ?_ ?_
  all_goals first | with_reducible rfl | (simp only [th_memory, th_r, th_spsr, th_faults, th_lines, th_cpsr, th_steps, th_here, th_length, th_fault, th_jumps, th_carry, th_over, thr_data_60]; done)
set_option maxHeartbeats 1000000 in
theorem thr_data (σ : MS) (v0 : Int32) : m_thrown (y_Model_data σ v0) = m_thrown σ := by
  unfold y_Model_data
  repeat' first | with_reducible refine th_ite ?_ ?_ | with_reducible refine th_it2 ?_ ?_
  all_goals first | with_reducible rfl | (simp only [th_memory, th_r, th_spsr, th_faults, th_lines, th_cpsr, th_steps, th_here, th_length, th_fault, th_jumps, th_carry, th_over, thr_data_59, thr_data_60]; done)
set_option maxHeartbeats 1000000 in
theorem thr_single_51 (σ : MS) (v0 : Int32) (k0_51 : Int32) : m_thrown (y_Model_single_51 σ v0 k0_51) = m_thrown σ := by
  unfold y_Model_single_51
  repeat' first | with_reducible refine th_ite ?_ ?_ | with_reducible refine th_it2 ?_ ?_
  all_goals first | with_reducible rfl | (simp only [th_memory, th_r, th_spsr, th_faults, th_lines, th_cpsr, th_steps, th_here, th_length, th_fault, th_jumps, th_carry, th_over, thr_indexed, thr_shiftBy]; done)
set_option maxHeartbeats 1000000 in
theorem thr_single_34 (σ : MS) (v0 : Int32) : m_thrown (y_Model_single_34 σ v0) = m_thrown σ := by
  unfold y_Model_single_34
  repeat' first | with_reducible refine th_ite ?_ ?_ | with_reducible refine th_it2 ?_ ?_
  all_goals first | with_reducible rfl | (simp only [th_memory, th_r, th_spsr, th_faults, th_lines, th_cpsr, th_steps, th_here, th_length, th_fault, th_jumps, th_carry, th_over, thr_single_51]; done)
set_option maxHeartbeats 1000000 in
theorem thr_single (σ : MS) (v0 : Int32) : m_thrown (y_Model_single σ v0) = m_thrown σ := by
  unfold y_Model_single
  repeat' first | with_reducible refine th_ite ?_ ?_ | with_reducible refine th_it2 ?_ ?_
  all_goals first | with_reducible rfl | (simp only [th_memory, th_r, th_spsr, th_faults, th_lines, th_cpsr, th_steps, th_here, th_length, th_fault, th_jumps, th_carry, th_over, thr_single_34, thr_undefined]; done)
set_option maxHeartbeats 1000000 in
theorem thr_branch_22 (σ : MS) (v0 : Int32) (τ_22 : MS) (hs : m_thrown σ = m_thrown τ_22) : m_thrown (y_Model_branch_22 σ v0 τ_22) = m_thrown τ_22 := by
  unfold y_Model_branch_22
  repeat' first | with_reducible refine th_ite ?_ ?_ | with_reducible refine th_it2 ?_ ?_
  all_goals first | with_reducible rfl | (simp only [th_memory, th_r, th_spsr, th_faults, th_lines, th_cpsr, th_steps, th_here, th_length, th_fault, th_jumps, th_carry, th_over, thr_put, hs]; done)
set_option maxHeartbeats 1000000 in
theorem thr_branch (σ : MS) (v0 : Int32) : m_thrown (y_Model_branch σ v0) = m_thrown σ := by
  unfold y_Model_branch
  repeat' first | with_reducible refine th_ite ?_ ?_ | with_reducible refine th_it2 ?_ ?_
  all_goals first | with_reducible rfl | (simp only [th_memory, th_r, th_spsr, th_faults, th_lines, th_cpsr, th_steps, th_here, th_length, th_fault, th_jumps, th_carry, th_over, thr_branch_22, thr_put]; done) | (rw [thr_branch_22 (hs := by simp only [th_memory, th_r, th_spsr, th_faults, th_lines, th_cpsr, th_steps, th_here, th_length, th_fault, th_jumps, th_carry, th_over, thr_branch_22, thr_put])] <;> simp only [th_memory, th_r, th_spsr, th_faults, th_lines, th_cpsr, th_steps, th_here, th_length, th_fault, th_jumps, th_carry, th_over, thr_branch_22, thr_put])
set_option maxHeartbeats 1000000 in
theorem thr_arm_225 (σ : MS) (v0 : Int32) : m_thrown (y_Model_arm_225 σ v0) = m_thrown σ := by
  unfold y_Model_arm_225
  repeat' first | with_reducible refine th_ite ?_ ?_ | with_reducible refine th_it2 ?_ ?_
  all_goals first | with_reducible rfl | (simp only [th_memory, th_r, th_spsr, th_faults, th_lines, th_cpsr, th_steps, th_here, th_length, th_fault, th_jumps, th_carry, th_over, thr_branch, thr_data, thr_many, thr_single, thr_toStatus, thr_undefined]; done)
set_option maxHeartbeats 1000000 in
theorem thr_arm_159 (σ : MS) (v0 : Int32) : m_thrown (y_Model_arm_159 σ v0) = m_thrown σ := by
  unfold y_Model_arm_159
  repeat' first | with_reducible refine th_ite ?_ ?_ | with_reducible refine th_it2 ?_ ?_
  all_goals first | with_reducible rfl | (simp only [th_memory, th_r, th_spsr, th_faults, th_lines, th_cpsr, th_steps, th_here, th_length, th_fault, th_jumps, th_carry, th_over, thr_arm_225, thr_put]; done)
set_option maxHeartbeats 1000000 in
theorem thr_arm_128 (σ : MS) (v0 : Int32) : m_thrown (y_Model_arm_128 σ v0) = m_thrown σ := by
  unfold y_Model_arm_128
  repeat' first | with_reducible refine th_ite ?_ ?_ | with_reducible refine th_it2 ?_ ?_
  all_goals first | with_reducible rfl | (simp only [th_memory, th_r, th_spsr, th_faults, th_lines, th_cpsr, th_steps, th_here, th_length, th_fault, th_jumps, th_carry, th_over, thr_arm_159, thr_halves]; done)
set_option maxHeartbeats 1000000 in
theorem thr_arm_88 (σ : MS) (v0 : Int32) : m_thrown (y_Model_arm_88 σ v0) = m_thrown σ := by
  unfold y_Model_arm_88
  repeat' first | with_reducible refine th_ite ?_ ?_ | with_reducible refine th_it2 ?_ ?_
  all_goals first | with_reducible rfl | (simp only [th_memory, th_r, th_spsr, th_faults, th_lines, th_cpsr, th_steps, th_here, th_length, th_fault, th_jumps, th_carry, th_over, thr_arm_128, thr_swap]; done)
set_option maxHeartbeats 1000000 in
theorem thr_arm (σ : MS) (v0 : Int32) : m_thrown (y_Model_arm σ v0) = m_thrown σ := by
  unfold y_Model_arm
  repeat' first | with_reducible refine th_ite ?_ ?_ | with_reducible refine th_it2 ?_ ?_
  all_goals first | with_reducible rfl | (simp only [th_memory, th_r, th_spsr, th_faults, th_lines, th_cpsr, th_steps, th_here, th_length, th_fault, th_jumps, th_carry, th_over, thr_arm_88, thr_exchange, thr_multiply, thr_undefined]; done)
set_option maxHeartbeats 1000000 in
theorem thr_go_182 (σ : MS) (τ_182 : MS) (hs : m_thrown σ = m_thrown τ_182) : m_thrown (y_Model_go_182 σ τ_182).2 = m_thrown τ_182 := by
  unfold y_Model_go_182
  repeat' first | with_reducible refine th_ite ?_ ?_ | with_reducible refine th_it2 ?_ ?_
  all_goals first | with_reducible rfl | (simp only [th_memory, th_r, th_spsr, th_faults, th_lines, th_cpsr, th_steps, th_here, th_length, th_fault, th_jumps, th_carry, th_over, thr_enter, hs]; done)
set_option maxHeartbeats 1000000 in
theorem thr_go_97 (σ : MS) (k0_97 : Int32) : m_thrown (y_Model_go_97 σ k0_97).2 = m_thrown σ := by
  unfold y_Model_go_97
  repeat' first | with_reducible refine th_ite ?_ ?_ | with_reducible refine th_it2 ?_ ?_
  all_goals first | with_reducible rfl | (simp only [th_memory, th_r, th_spsr, th_faults, th_lines, th_cpsr, th_steps, th_here, th_length, th_fault, th_jumps, th_carry, th_over, thr_arm, thr_go_182, thr_thumb]; done) | (rw [thr_go_182 (hs := by simp only [th_memory, th_r, th_spsr, th_faults, th_lines, th_cpsr, th_steps, th_here, th_length, th_fault, th_jumps, th_carry, th_over, thr_arm, thr_go_182, thr_thumb])] <;> simp only [th_memory, th_r, th_spsr, th_faults, th_lines, th_cpsr, th_steps, th_here, th_length, th_fault, th_jumps, th_carry, th_over, thr_arm, thr_go_182, thr_thumb])
set_option maxHeartbeats 1000000 in
theorem thr_go_84 (σ : MS) : m_thrown (y_Model_go_84 σ).2 = m_thrown σ := by
  unfold y_Model_go_84
  repeat' first | with_reducible refine th_ite ?_ ?_ | with_reducible refine th_it2 ?_ ?_
  all_goals first | with_reducible rfl | (simp only [th_memory, th_r, th_spsr, th_faults, th_lines, th_cpsr, th_steps, th_here, th_length, th_fault, th_jumps, th_carry, th_over, thr_go_97]; done)
set_option maxHeartbeats 1000000 in
theorem thr_go_70 (σ : MS) (k0_70 : Int32) : m_thrown (y_Model_go_70 σ k0_70).2 = m_thrown σ := by
  unfold y_Model_go_70
  repeat' first | with_reducible refine th_ite ?_ ?_ | with_reducible refine th_it2 ?_ ?_
  all_goals first | with_reducible rfl | (simp only [th_memory, th_r, th_spsr, th_faults, th_lines, th_cpsr, th_steps, th_here, th_length, th_fault, th_jumps, th_carry, th_over, thr_enter]; done)
set_option maxHeartbeats 1000000 in
theorem thr_go_69 (σ : MS) : m_thrown (y_Model_go_69 σ).2 = m_thrown σ := by
  unfold y_Model_go_69
  repeat' first | with_reducible refine th_ite ?_ ?_ | with_reducible refine th_it2 ?_ ?_
  all_goals first | with_reducible rfl | (simp only [th_memory, th_r, th_spsr, th_faults, th_lines, th_cpsr, th_steps, th_here, th_length, th_fault, th_jumps, th_carry, th_over, thr_go_70]; done)
set_option maxHeartbeats 1000000 in
theorem thr_go_46 (σ : MS) : m_thrown (y_Model_go_46 σ).2 = m_thrown σ := by
  unfold y_Model_go_46
  repeat' first | with_reducible refine th_ite ?_ ?_ | with_reducible refine th_it2 ?_ ?_
  all_goals first | with_reducible rfl | (simp only [th_memory, th_r, th_spsr, th_faults, th_lines, th_cpsr, th_steps, th_here, th_length, th_fault, th_jumps, th_carry, th_over, thr_go_69, thr_go_70]; done)
set_option maxHeartbeats 1000000 in
theorem thr_go_28 (σ : MS) : m_thrown (y_Model_go_28 σ).2 = m_thrown σ := by
  unfold y_Model_go_28
  repeat' first | with_reducible refine th_ite ?_ ?_ | with_reducible refine th_it2 ?_ ?_
  all_goals first | with_reducible rfl | (simp only [th_memory, th_r, th_spsr, th_faults, th_lines, th_cpsr, th_steps, th_here, th_length, th_fault, th_jumps, th_carry, th_over, thr_go_46, thr_go_84]; done)
set_option maxHeartbeats 1000000 in
theorem thr_go (σ : MS) : m_thrown (y_Model_go σ).2 = m_thrown σ := by
  unfold y_Model_go
  repeat' first | with_reducible refine th_ite ?_ ?_ | with_reducible refine th_it2 ?_ ?_
  all_goals first | with_reducible rfl | (simp only [th_memory, th_r, th_spsr, th_faults, th_lines, th_cpsr, th_steps, th_here, th_length, th_fault, th_jumps, th_carry, th_over, thr_go_28, thr_go_46]; done)
