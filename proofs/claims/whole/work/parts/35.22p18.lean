section R
variable {σ : CS} {τ : MS}
set_option maxHeartbeats 1000000 in
theorem al_m2 {x : Int32} (h : x &&& 1 = 0) : x &&& (-2) = x := by
  apply ext32; intro i hi
  by_cases h0 : i = 0
  · subst h0
    rw [and1_0] at h
    rw [bt_and, h]; rfl
  · rw [bt_and, (by decide : ∀ i, i < 32 → ¬ i = 0 → bt (-2) i = true) i hi h0, Bool.and_true]
set_option maxHeartbeats 1000000 in
theorem al_m4 {x : Int32} (h : x &&& 3 = 0) : x &&& (-4) = x := by
  apply ext32; intro i hi
  by_cases h0 : i < 2
  · have := congrArg (fun z => bt z i) h
    simp only [bt_and, bt_zero] at this
    rw [(by decide : ∀ i, i < 2 → bt 3 i = true) i h0, Bool.and_true] at this
    rw [bt_and, this]; rfl
  · rw [bt_and, (by decide : ∀ i, i < 32 → ¬ i < 2 → bt (-4) i = true) i hi h0, Bool.and_true]
set_option maxHeartbeats 1000000 in
theorem al_n2 {x : Int32} (h : x &&& 1 = 0) : (x + 2) &&& 1 = 0 := by
  apply ext_nat
  have e : un (x &&& 1) = 0 := by rw [h]; rfl
  show un ((x + 2) &&& 1) = 0
  rw [un_and] at e ⊢
  show (x + 2).toBitVec.toNat &&& 1 = 0
  have e : x.toBitVec.toNat &&& 1 = 0 := e
  rw [show (1 : Nat) = 2^1 - 1 from rfl, Nat.and_two_pow_sub_one_eq_mod] at e ⊢
  rw [Int32.toBitVec_add, BitVec.toNat_add]
  show (x.toBitVec.toNat + 2) % 2^32 % 2^1 = 0
  omega
set_option maxHeartbeats 1000000 in
theorem al_n4 {x : Int32} (h : x &&& 3 = 0) : (x + 4) &&& 3 = 0 := by
  apply ext_nat
  have e : un (x &&& 3) = 0 := by rw [h]; rfl
  show un ((x + 4) &&& 3) = 0
  rw [un_and] at e ⊢
  show (x + 4).toBitVec.toNat &&& 3 = 0
  have e : x.toBitVec.toNat &&& 3 = 0 := e
  rw [show (3 : Nat) = 2^2 - 1 from rfl, Nat.and_two_pow_sub_one_eq_mod] at e ⊢
  rw [Int32.toBitVec_add, BitVec.toNat_add]
  show (x.toBitVec.toNat + 4) % 2^32 % 2^2 = 0
  omega
abbrev beg (σ : CS) : CS := x_Registers_begin (s_steps σ ((c_steps σ) + 1))
abbrev mbg (τ : MS) (L : Int32) : MS := t_jumps (t_fault (t_here (t_length (t_steps τ ((m_steps τ) + 1)) L) ((m_r τ 15) &&& (-L))) (-1)) false
set_option maxHeartbeats 1000000 in
theorem go_mk {σ1 : CS} {τ1 : MS} {L : Int32} (h : RB σ τ) (hL : (if x_Registers_thumb σ = true then (2 : Int32) else 4) = L)
    (em1 : m_jumps τ1 = false) (em2 : m_r τ1 = m_r τ) (em3 : m_here τ1 = (m_r τ 15) &&& (-L)) (em4 : m_length τ1 = L) (em5 : m_fault τ1 = -1) (f1 : m_memory τ1 = m_memory τ) (f2 : m_faults τ1 = m_faults τ) (f3 : m_steps τ1 = m_steps τ + 1) (f4 : m_lines τ1 = m_lines τ) (f5 : m_spsr τ1 = m_spsr τ) (f6 : m_raw τ1 = m_raw τ)
    (es1 : c_held σ1 = upd (c_held σ) 15 (c_held σ 15 + L)) (es2 : c_here σ1 = c_held σ 15) (es3 : c_cpsr σ1 = c_cpsr σ) (es4 : c_bank σ1 = c_bank σ) (es5 : c_words σ1 = c_words σ) (es6 : c_faults σ1 = c_faults σ) (es7 : c_steps σ1 = c_steps σ + 1) (es8 : c_irq σ1 = c_irq σ) (es9 : c_fiq σ1 = c_fiq σ) (es0 : c_spsrs σ1 = c_spsrs σ) (est : x_Registers_thumb σ1 = x_Registers_thumb σ) : Go σ1 τ1 := by
  obtain ⟨⟨⟨hA1, hA2, hA3, hA4, hA5⟩, hC, hD⟩, hH, hal⟩ := h
  have hhere : (m_r τ 15) &&& (-L) = c_held σ 15 := by
    unfold Al at hal
    rw [← hH, ← hL]
    by_cases ht : x_Registers_thumb σ = true
    · rw [if_pos ht] at hal ⊢
      exact al_m2 hal
    · rw [if_neg ht] at hal ⊢
      exact al_m4 hal
  have hal2 : if x_Registers_thumb σ = true then (c_held σ 15 + L) &&& 1 = 0 else (c_held σ 15 + L) &&& 3 = 0 := by
    unfold Al at hal
    by_cases ht : x_Registers_thumb σ = true
    · rw [if_pos ht] at hal hL ⊢
      rw [← hL]; exact al_n2 hal
    · rw [if_neg ht] at hal hL ⊢
      rw [← hL]; exact al_n4 hal
  refine ⟨⟨⟨⟨?_, ?_, ?_, ?_, ?_⟩, ⟨?_, ?_⟩, ⟨?_, ?_⟩, ⟨?_, ?_, ?_, ?_⟩, em5⟩, ?_⟩, em1, ?_⟩
  · rw [es5, f1]; exact hA1
  · rw [es6, f2]; exact hA2
  · rw [es7, f3, hA3]
  · rw [es8, f4]; exact hA4
  · rw [es9, f4]; exact hA5
  · rw [em1, em2, em3, em4, es1, hhere, if_neg (by decide), hH]
  · rw [es2, em3, hhere]
  · rw [es0, f5]; exact hC.1
  · rw [f5]; exact hC.2
  · rw [f6, es3]; exact hD.1
  · rw [es3]; exact hD.2.1
  · rw [es3]; exact hD.2.2.1
  · rw [es3, es4]; exact hD.2.2.2
  · unfold Al
    rw [est, es1]
    have eu : upd (c_held σ) 15 (c_held σ 15 + L) 15 = c_held σ 15 + L := if_pos rfl
    rw [eu]
    exact hal2
  · rw [em4, est]; exact hL.symm
set_option maxHeartbeats 1000000 in
theorem beg_h (σ : CS) : c_held (beg σ) = upd (c_held σ) 15 (c_held σ 15 + (if x_Registers_thumb σ = true then 2 else 4)) := by
  have hbe : x_Registers_behind (s_here (s_steps σ ((c_steps σ) + 1)) (c_held σ 15)) = c_held σ 15 + (if x_Registers_thumb σ = true then 2 else 4) := by
    unfold x_Registers_behind
    show (if x_Registers_thumb σ = true then c_held σ 15 + 2 else c_held σ 15 + 4) = _
    split <;> rfl
  rw [← hbe]
  unfold beg x_Registers_begin
  rw [n15]
  rfl
set_option maxHeartbeats 1000000 in
theorem q_jumps_jumps (τ : MS) (v : Bool) : m_jumps (t_jumps τ v) = v := rfl
set_option maxHeartbeats 1000000 in
theorem q_jumps_fault (τ : MS) (v : Int32) : m_jumps (t_fault τ v) = m_jumps τ := rfl
set_option maxHeartbeats 1000000 in
theorem q_jumps_here (τ : MS) (v : Int32) : m_jumps (t_here τ v) = m_jumps τ := rfl
set_option maxHeartbeats 1000000 in
theorem q_jumps_length (τ : MS) (v : Int32) : m_jumps (t_length τ v) = m_jumps τ := rfl
set_option maxHeartbeats 1000000 in
theorem q_jumps_steps (τ : MS) (v : Int32) : m_jumps (t_steps τ v) = m_jumps τ := rfl
set_option maxHeartbeats 1000000 in
theorem q_r_jumps (τ : MS) (v : Bool) : m_r (t_jumps τ v) = m_r τ := rfl
set_option maxHeartbeats 1000000 in
theorem q_r_fault (τ : MS) (v : Int32) : m_r (t_fault τ v) = m_r τ := rfl
set_option maxHeartbeats 1000000 in
theorem q_r_here (τ : MS) (v : Int32) : m_r (t_here τ v) = m_r τ := rfl
set_option maxHeartbeats 1000000 in
theorem q_r_length (τ : MS) (v : Int32) : m_r (t_length τ v) = m_r τ := rfl
set_option maxHeartbeats 1000000 in
theorem q_r_steps (τ : MS) (v : Int32) : m_r (t_steps τ v) = m_r τ := rfl
set_option maxHeartbeats 1000000 in
theorem q_here_jumps (τ : MS) (v : Bool) : m_here (t_jumps τ v) = m_here τ := rfl
set_option maxHeartbeats 1000000 in
theorem q_here_fault (τ : MS) (v : Int32) : m_here (t_fault τ v) = m_here τ := rfl
set_option maxHeartbeats 1000000 in
theorem q_here_here (τ : MS) (v : Int32) : m_here (t_here τ v) = v := rfl
set_option maxHeartbeats 1000000 in
theorem q_here_length (τ : MS) (v : Int32) : m_here (t_length τ v) = m_here τ := rfl
set_option maxHeartbeats 1000000 in
theorem q_here_steps (τ : MS) (v : Int32) : m_here (t_steps τ v) = m_here τ := rfl
set_option maxHeartbeats 1000000 in
theorem q_length_jumps (τ : MS) (v : Bool) : m_length (t_jumps τ v) = m_length τ := rfl
set_option maxHeartbeats 1000000 in
theorem q_length_fault (τ : MS) (v : Int32) : m_length (t_fault τ v) = m_length τ := rfl
set_option maxHeartbeats 1000000 in
theorem q_length_here (τ : MS) (v : Int32) : m_length (t_here τ v) = m_length τ := rfl
set_option maxHeartbeats 1000000 in
theorem q_length_length (τ : MS) (v : Int32) : m_length (t_length τ v) = v := rfl
set_option maxHeartbeats 1000000 in
theorem q_length_steps (τ : MS) (v : Int32) : m_length (t_steps τ v) = m_length τ := rfl
set_option maxHeartbeats 1000000 in
theorem q_fault_jumps (τ : MS) (v : Bool) : m_fault (t_jumps τ v) = m_fault τ := rfl
set_option maxHeartbeats 1000000 in
theorem q_fault_fault (τ : MS) (v : Int32) : m_fault (t_fault τ v) = fixF v := rfl
set_option maxHeartbeats 1000000 in
theorem q_fault_here (τ : MS) (v : Int32) : m_fault (t_here τ v) = m_fault τ := rfl
set_option maxHeartbeats 1000000 in
theorem q_fault_length (τ : MS) (v : Int32) : m_fault (t_length τ v) = m_fault τ := rfl
set_option maxHeartbeats 1000000 in
theorem q_fault_steps (τ : MS) (v : Int32) : m_fault (t_steps τ v) = m_fault τ := rfl
set_option maxHeartbeats 1000000 in
theorem q_memory_jumps (τ : MS) (v : Bool) : m_memory (t_jumps τ v) = m_memory τ := rfl
set_option maxHeartbeats 1000000 in
theorem q_memory_fault (τ : MS) (v : Int32) : m_memory (t_fault τ v) = m_memory τ := rfl
set_option maxHeartbeats 1000000 in
theorem q_memory_here (τ : MS) (v : Int32) : m_memory (t_here τ v) = m_memory τ := rfl
set_option maxHeartbeats 1000000 in
theorem q_memory_length (τ : MS) (v : Int32) : m_memory (t_length τ v) = m_memory τ := rfl
set_option maxHeartbeats 1000000 in
theorem q_memory_steps (τ : MS) (v : Int32) : m_memory (t_steps τ v) = m_memory τ := rfl
set_option maxHeartbeats 1000000 in
theorem q_faults_jumps (τ : MS) (v : Bool) : m_faults (t_jumps τ v) = m_faults τ := rfl
set_option maxHeartbeats 1000000 in
theorem q_faults_fault (τ : MS) (v : Int32) : m_faults (t_fault τ v) = m_faults τ := rfl
set_option maxHeartbeats 1000000 in
theorem q_faults_here (τ : MS) (v : Int32) : m_faults (t_here τ v) = m_faults τ := rfl
set_option maxHeartbeats 1000000 in
theorem q_faults_length (τ : MS) (v : Int32) : m_faults (t_length τ v) = m_faults τ := rfl
set_option maxHeartbeats 1000000 in
theorem q_faults_steps (τ : MS) (v : Int32) : m_faults (t_steps τ v) = m_faults τ := rfl
set_option maxHeartbeats 1000000 in
theorem q_steps_jumps (τ : MS) (v : Bool) : m_steps (t_jumps τ v) = m_steps τ := rfl
set_option maxHeartbeats 1000000 in
theorem q_steps_fault (τ : MS) (v : Int32) : m_steps (t_fault τ v) = m_steps τ := rfl
set_option maxHeartbeats 1000000 in
theorem q_steps_here (τ : MS) (v : Int32) : m_steps (t_here τ v) = m_steps τ := rfl
set_option maxHeartbeats 1000000 in
theorem q_steps_length (τ : MS) (v : Int32) : m_steps (t_length τ v) = m_steps τ := rfl
set_option maxHeartbeats 1000000 in
theorem q_steps_steps (τ : MS) (v : Int32) : m_steps (t_steps τ v) = v := rfl
set_option maxHeartbeats 1000000 in
theorem q_lines_jumps (τ : MS) (v : Bool) : m_lines (t_jumps τ v) = m_lines τ := rfl
set_option maxHeartbeats 1000000 in
theorem q_lines_fault (τ : MS) (v : Int32) : m_lines (t_fault τ v) = m_lines τ := rfl
set_option maxHeartbeats 1000000 in
theorem q_lines_here (τ : MS) (v : Int32) : m_lines (t_here τ v) = m_lines τ := rfl
set_option maxHeartbeats 1000000 in
theorem q_lines_length (τ : MS) (v : Int32) : m_lines (t_length τ v) = m_lines τ := rfl
set_option maxHeartbeats 1000000 in
theorem q_lines_steps (τ : MS) (v : Int32) : m_lines (t_steps τ v) = m_lines τ := rfl
set_option maxHeartbeats 1000000 in
theorem q_spsr_jumps (τ : MS) (v : Bool) : m_spsr (t_jumps τ v) = m_spsr τ := rfl
set_option maxHeartbeats 1000000 in
theorem q_spsr_fault (τ : MS) (v : Int32) : m_spsr (t_fault τ v) = m_spsr τ := rfl
set_option maxHeartbeats 1000000 in
theorem q_spsr_here (τ : MS) (v : Int32) : m_spsr (t_here τ v) = m_spsr τ := rfl
set_option maxHeartbeats 1000000 in
theorem q_spsr_length (τ : MS) (v : Int32) : m_spsr (t_length τ v) = m_spsr τ := rfl
set_option maxHeartbeats 1000000 in
theorem q_spsr_steps (τ : MS) (v : Int32) : m_spsr (t_steps τ v) = m_spsr τ := rfl
set_option maxHeartbeats 1000000 in
theorem q_raw_jumps (τ : MS) (v : Bool) : m_raw (t_jumps τ v) = m_raw τ := rfl
set_option maxHeartbeats 1000000 in
theorem q_raw_fault (τ : MS) (v : Int32) : m_raw (t_fault τ v) = m_raw τ := rfl
set_option maxHeartbeats 1000000 in
theorem q_raw_here (τ : MS) (v : Int32) : m_raw (t_here τ v) = m_raw τ := rfl
set_option maxHeartbeats 1000000 in
theorem q_raw_length (τ : MS) (v : Int32) : m_raw (t_length τ v) = m_raw τ := rfl
set_option maxHeartbeats 1000000 in
theorem q_raw_steps (τ : MS) (v : Int32) : m_raw (t_steps τ v) = m_raw τ := rfl
set_option maxHeartbeats 1000000 in
theorem bg_em1 (τ : MS) (L : Int32) : m_jumps (mbg τ L) = false := by
  unfold mbg
  rw [q_jumps_jumps]
set_option maxHeartbeats 1000000 in
theorem bg_em2 (τ : MS) (L : Int32) : m_r (mbg τ L) = m_r τ := by
  unfold mbg
  rw [q_r_jumps, q_r_fault, q_r_here, q_r_length, q_r_steps]
set_option maxHeartbeats 1000000 in
theorem bg_em3 (τ : MS) (L : Int32) : m_here (mbg τ L) = (m_r τ 15) &&& (-L) := by
  unfold mbg
  rw [q_here_jumps, q_here_fault, q_here_here]
set_option maxHeartbeats 1000000 in
theorem bg_em4 (τ : MS) (L : Int32) : m_length (mbg τ L) = L := by
  unfold mbg
  rw [q_length_jumps, q_length_fault, q_length_here, q_length_length]
set_option maxHeartbeats 1000000 in
theorem bg_em5 (τ : MS) (L : Int32) : m_fault (mbg τ L) = -1 := by
  unfold mbg
  rw [q_fault_jumps, q_fault_fault]; decide
set_option maxHeartbeats 1000000 in
theorem bg_f1 (τ : MS) (L : Int32) : m_memory (mbg τ L) = m_memory τ := by
  unfold mbg
  rw [q_memory_jumps, q_memory_fault, q_memory_here, q_memory_length, q_memory_steps]
set_option maxHeartbeats 1000000 in
theorem bg_f2 (τ : MS) (L : Int32) : m_faults (mbg τ L) = m_faults τ := by
  unfold mbg
  rw [q_faults_jumps, q_faults_fault, q_faults_here, q_faults_length, q_faults_steps]
set_option maxHeartbeats 1000000 in
theorem bg_f3 (τ : MS) (L : Int32) : m_steps (mbg τ L) = m_steps τ + 1 := by
  unfold mbg
  rw [q_steps_jumps, q_steps_fault, q_steps_here, q_steps_length, q_steps_steps]
set_option maxHeartbeats 1000000 in
theorem bg_f4 (τ : MS) (L : Int32) : m_lines (mbg τ L) = m_lines τ := by
  unfold mbg
  rw [q_lines_jumps, q_lines_fault, q_lines_here, q_lines_length, q_lines_steps]
set_option maxHeartbeats 1000000 in
theorem bg_f5 (τ : MS) (L : Int32) : m_spsr (mbg τ L) = m_spsr τ := by
  unfold mbg
  rw [q_spsr_jumps, q_spsr_fault, q_spsr_here, q_spsr_length, q_spsr_steps]
set_option maxHeartbeats 1000000 in
theorem bg_f6 (τ : MS) (L : Int32) : m_raw (mbg τ L) = m_raw τ := by
  unfold mbg
  rw [q_raw_jumps, q_raw_fault, q_raw_here, q_raw_length, q_raw_steps]
set_option maxHeartbeats 1000000 in
theorem bg_es2 (σ : CS) : c_here (beg σ) = c_held σ 15 := by
  exact rfl
set_option maxHeartbeats 1000000 in
theorem bg_es3 (σ : CS) : c_cpsr (beg σ) = c_cpsr σ := by
  exact rfl
set_option maxHeartbeats 1000000 in
theorem bg_es4 (σ : CS) : c_bank (beg σ) = c_bank σ := by
  exact rfl
set_option maxHeartbeats 1000000 in
theorem bg_es5 (σ : CS) : c_words (beg σ) = c_words σ := by
  exact rfl
set_option maxHeartbeats 1000000 in
theorem bg_es6 (σ : CS) : c_faults (beg σ) = c_faults σ := by
  exact rfl
set_option maxHeartbeats 1000000 in
theorem bg_es7 (σ : CS) : c_steps (beg σ) = c_steps σ + 1 := by
  exact rfl
set_option maxHeartbeats 1000000 in
theorem bg_es8 (σ : CS) : c_irq (beg σ) = c_irq σ := by
  exact rfl
set_option maxHeartbeats 1000000 in
theorem bg_es9 (σ : CS) : c_fiq (beg σ) = c_fiq σ := by
  exact rfl
set_option maxHeartbeats 1000000 in
theorem bg_es0 (σ : CS) : c_spsrs (beg σ) = c_spsrs σ := by
  exact rfl
set_option maxHeartbeats 1000000 in
theorem bg_est (σ : CS) : x_Registers_thumb (beg σ) = x_Registers_thumb σ := by
  exact rfl
set_option maxHeartbeats 1000000 in
theorem beg_Go (h : RB σ τ) : Go (beg σ) (mbg τ (if x_Registers_thumb σ = true then 2 else 4)) :=
  go_mk h rfl (bg_em1 τ _) (bg_em2 τ _) (bg_em3 τ _) (bg_em4 τ _) (bg_em5 τ _) (bg_f1 τ _) (bg_f2 τ _) (bg_f3 τ _) (bg_f4 τ _) (bg_f5 τ _) (bg_f6 τ _) (beg_h σ) (bg_es2 σ) (bg_es3 σ) (bg_es4 σ) (bg_es5 σ) (bg_es6 σ) (bg_es7 σ) (bg_es8 σ) (bg_es9 σ) (bg_es0 σ) (bg_est σ)
def StpP (q : Int32 × CS) (g : Bool × MS) : Prop := (q.1 = -1 ∧ g.1 = false ∧ RB q.2 g.2) ∨ (¬ q.1 = -1 ∧ g.1 = true ∧ RB (x_Processor_take q.2 q.1) g.2)
set_option maxHeartbeats 1000000 in
theorem go182 {q : Int32 × CS} {τ' : MS} (h : Pst q τ') (τ0 : MS) : StpP q (y_Model_go_182 τ0 τ') := by
  obtain ⟨q1, q2⟩ := q
  rcases h with ⟨h1, hR⟩ | ⟨τ1, h1, h2, hG⟩
  · have h1 : q1 = -1 := h1
    have hR : R1 q2 τ' := hR
    left
    unfold y_Model_go_182
    rw [hR.1.2.2.2.2, if_neg (show ¬ (0 : Int32) ≤ -1 by decide)]
    cases hj : m_jumps τ'
    · rw [if_neg (by decide : ¬ false = true)]
      refine ⟨h1, rfl, ⟨hR.1.1, hR.1.2.2.1, hR.1.2.2.2.1⟩, ?_, hR.2⟩
      show c_held q2 = upd (m_r τ') (15 : Int32).toNatClampNeg (m_here τ' + m_length τ')
      rw [hR.1.2.1.1, hj, if_neg (by decide), n15]
    · rw [if_pos rfl]
      refine ⟨h1, rfl, ⟨hR.1.1, hR.1.2.2.1, hR.1.2.2.2.1⟩, ?_, hR.2⟩
      show c_held q2 = m_r τ'
      rw [hR.1.2.1.1, hj, if_pos rfl]
  · have h1 : τ' = t_fault τ1 q1 := h1
    have h2 : q1 = 0 ∨ q1 = 1 ∨ q1 = 2 ∨ q1 = 3 := h2
    have hG : Go q2 τ1 := hG
    subst h1
    have hC : RC q2 (t_fault τ1 q1) := ⟨hG.1.1.1, hG.1.1.2.2.1, hG.1.1.2.2.2.1⟩
    have hh : ∀ p, ¬ p = 15 → c_held q2 p = m_r (t_fault τ1 q1) p := fun p hp => hG.1.1.heldp hp
    have hbe : x_Registers_behind q2 = m_here τ1 + m_length τ1 := by
      unfold x_Registers_behind
      rw [hG.2.2, hG.1.1.here]
      split <;> rfl
    have hfx : m_fault (t_fault τ1 q1) = q1 := by
      show fixF q1 = q1
      unfold fixF; rw [if_pos h2]
    right
    unfold y_Model_go_182
    rw [hfx]
    have e4 : ∀ z : Int32, z = m_here τ1 → True := fun _ _ => trivial
    rcases h2 with rfl | rfl | rfl | rfl
    · rw [if_pos (by decide), if_neg (by decide)]
      exact ⟨(by decide : ¬ (0 : Int32) = -1), rfl, ent_P hC hh (Or.inl rfl) (by unfold x_Registers_linkOf; rw [if_pos rfl, hbe]; rfl)⟩
    · rw [if_pos (by decide), if_neg (by decide)]
      exact ⟨(by decide : ¬ (1 : Int32) = -1), rfl, ent_P hC hh (Or.inr (Or.inl rfl)) (by unfold x_Registers_linkOf; rw [if_neg (by decide), if_pos rfl, hbe]; rfl)⟩
    · rw [if_pos (by decide), if_pos (by decide), if_pos rfl]
      exact ⟨(by decide : ¬ (2 : Int32) = -1), rfl, ent_P hC hh (Or.inr (Or.inr (Or.inl rfl))) (by unfold x_Registers_linkOf; rw [if_neg (by decide), if_neg (by decide), if_neg (by decide), hG.1.1.here]; rfl)⟩
    · rw [if_pos (by decide), if_pos (by decide), if_neg (by decide)]
      exact ⟨(by decide : ¬ (3 : Int32) = -1), rfl, ent_P hC hh (Or.inr (Or.inr (Or.inr (Or.inl rfl)))) (by unfold x_Registers_linkOf; rw [if_neg (by decide), if_neg (by decide), if_pos rfl, hG.1.1.here]; rfl)⟩
set_option maxHeartbeats 1000000 in
theorem go84 (h : RB σ τ) : StpP (x_Processor_advance_55 σ) (y_Model_go_84 τ) := by
  have hG := beg_Go h
  have hth : y_Model_isThumb (t_steps τ ((m_steps τ) + 1)) = x_Registers_thumb σ := by
    unfold y_Model_isThumb x_Registers_thumb
    rw [show m_cpsr (t_steps τ ((m_steps τ) + 1)) = c_cpsr σ from h.1.cpsr]
  have key : y_Model_go_84 τ = y_Model_go_97 τ (if x_Registers_thumb σ = true then 2 else 4) := by
    unfold y_Model_go_84
    rw [hth]
    split <;> rfl
  rw [key]
  generalize (if x_Registers_thumb σ = true then (2 : Int32) else 4) = L at *
  have e97 : y_Model_go_97 τ L = (if (y_Model_isThere (m_here (mbg τ L))) = true then (if (y_Model_isThumb (mbg τ L)) = true then y_Model_go_182 τ (y_Model_thumb (mbg τ L) (y_Model_halfAt (mbg τ L) (m_here (mbg τ L)))) else y_Model_go_182 τ (y_Model_arm (mbg τ L) (m_memory (mbg τ L) ((m_here (mbg τ L)) / 4).toNatClampNeg))) else y_Model_go_182 τ (t_fault (mbg τ L) 2)) := rfl
  rw [e97]
  unfold x_Processor_advance_55
  show StpP (if (x_Memory_holds (beg σ) (x_Registers_here (beg σ))) = true then (if (x_Registers_thumb (beg σ)) = true then (x_ThumbSet_perform (beg σ) (x_Memory_half (beg σ) (x_Registers_here (beg σ)))) else (x_ArmSet_perform (beg σ) (x_Memory_word (beg σ) (x_Registers_here (beg σ))))) else (2, beg σ)) _
  generalize mbg τ L = τ1 at *
  generalize beg σ = σ1 at *
  have eh : x_Registers_here σ1 = m_here τ1 := hG.1.1.here
  rw [eh, holds_E, hG.1.1.thumb]
  cases ha : y_Model_isThere (m_here τ1)
  · rw [if_neg (by decide), if_neg (by decide)]
    exact go182 (Pst.pab hG) τ
  · rw [if_pos rfl, if_pos rfl]
    cases ht : x_Registers_thumb σ1
    · rw [if_neg (by decide), if_neg (by decide), word_E hG.1.1 ha]
      exact go182 (arm_P hG ht _) τ
    · rw [if_pos rfl, if_pos rfl, half_E hG.1.1 ha]
      refine go182 (thumb_P hG ht _ ?_) τ
      unfold x_Memory_half
      obtain ⟨k, hk, e⟩ := andN (iu (x_Memory_word σ1 (m_here τ1)) (8 * (m_here τ1 &&& 2))) 65535
      exact ⟨k, Nat.lt_succ_of_le hk, e⟩
set_option maxHeartbeats 1000000 in
theorem go70 (h : RB σ τ) {f : Int32} (hf : f = 4 ∨ f = 5) : StpP (f, beg σ) (y_Model_go_70 τ f) := by
  right
  have hG := beg_Go h
  have hC : RC (beg σ) (t_steps τ ((m_steps τ) + 1)) := by
    obtain ⟨⟨⟨hA1, hA2, hA3, hA4, hA5⟩, ⟨hC1, hC2⟩, hD1, hD2, hD3, hD4⟩, -, -⟩ := h
    refine ⟨⟨?_, ?_, ?_, ?_, ?_⟩, ⟨?_, ?_⟩, ?_, ?_, ?_, ?_⟩
    · rw [bg_es5, q_memory_steps]; exact hA1
    · rw [bg_es6, q_faults_steps]; exact hA2
    · rw [bg_es7, q_steps_steps, hA3]
    · rw [bg_es8, q_lines_steps]; exact hA4
    · rw [bg_es9, q_lines_steps]; exact hA5
    · rw [bg_es0, q_spsr_steps]; exact hC1
    · rw [q_spsr_steps]; exact hC2
    · rw [q_raw_steps, bg_es3]; exact hD1
    · rw [bg_es3]; exact hD2
    · rw [bg_es3]; exact hD3
    · rw [bg_es3, bg_es4]; exact hD4
  have ne : ¬ f = -1 := by rcases hf with rfl | rfl <;> decide
  have e : c_here (beg σ) = m_r τ (15 : Int32).toNatClampNeg := by
    show c_held σ (15 : Int32).toNatClampNeg = _
    rw [h.2.1]
  have hlk : x_Registers_linkOf (beg σ) f = m_r τ (15 : Int32).toNatClampNeg + 4 := by
    unfold x_Registers_linkOf
    rw [e]
    rcases hf with rfl | rfl
    · rw [if_neg (show ¬ (4 : Int32) = 0 by decide), if_neg (show ¬ (4 : Int32) = 1 by decide), if_neg (show ¬ (4 : Int32) = 3 by decide)]
    · rw [if_neg (show ¬ (5 : Int32) = 0 by decide), if_neg (show ¬ (5 : Int32) = 1 by decide), if_neg (show ¬ (5 : Int32) = 3 by decide)]
  have hf6 : f = 0 ∨ f = 1 ∨ f = 2 ∨ f = 3 ∨ f = 4 ∨ f = 5 := by
    rcases hf with h | h
    · exact Or.inr (Or.inr (Or.inr (Or.inr (Or.inl h))))
    · exact Or.inr (Or.inr (Or.inr (Or.inr (Or.inr h))))
  have main : RB (x_Processor_take (beg σ) f) (y_Model_enter (t_steps τ ((m_steps τ) + 1)) f (m_r τ (15 : Int32).toNatClampNeg + 4)) := by
    refine ent_P hC ?_ hf6 hlk
    intro p hp
    rw [beg_h, q_r_steps]
    unfold upd
    rw [if_neg hp, h.2.1]
  exact ⟨ne, rfl, main⟩
set_option maxHeartbeats 1000000 in
theorem go_P (h : RB σ τ) : StpP (x_Processor_advance σ) (y_Model_go τ) := by
  have hG := beg_Go h
  have bit0 : ∀ (x : Int32) (m : Int32) (j : Nat), j < 32 → (∀ i, i < 32 → bt m i = decide (i = j)) → (x &&& m = 0 ↔ bt x j = false) := by
    intro x m j hj hm
    constructor
    · intro e
      have := congrArg (fun z => bt z j) e
      simp only [bt_and, bt_zero] at this
      rw [hm j hj, decide_eq_true rfl, Bool.and_true] at this
      exact this
    · intro e
      apply ext32; intro i hi
      rw [bt_and, bt_zero, hm i hi]
      by_cases hij : i = j
      · subst hij; rw [e]; rfl
      · rw [decide_eq_false hij, Bool.and_false]
  have i6 : y_Model_is (t_steps τ ((m_steps τ) + 1)) 6 = bt (c_cpsr σ) 6 := by
    unfold y_Model_is
    rw [show m_cpsr (t_steps τ ((m_steps τ) + 1)) = c_cpsr σ from h.1.cpsr]
    simp only [fld1_1]
    show (if bt (c_cpsr σ) 6 = true then true else false) = _
    cases bt (c_cpsr σ) 6 <;> rfl
  have i7 : y_Model_is (t_steps τ ((m_steps τ) + 1)) 7 = bt (c_cpsr σ) 7 := by
    unfold y_Model_is
    rw [show m_cpsr (t_steps τ ((m_steps τ) + 1)) = c_cpsr σ from h.1.cpsr]
    simp only [fld1_1]
    show (if bt (c_cpsr σ) 7 = true then true else false) = _
    cases bt (c_cpsr σ) 7 <;> rfl
  have fa : x_Registers_fiqAllowed (beg σ) = !bt (c_cpsr σ) 6 := by
    unfold x_Registers_fiqAllowed
    show (if (c_cpsr σ &&& 64) = 0 then true else false) = _
    cases hb : bt (c_cpsr σ) 6
    · rw [if_pos ((bit0 (c_cpsr σ) 64 6 (by decide) (by decide)).mpr hb)]; rfl
    · rw [if_neg (fun e => by have := (bit0 (c_cpsr σ) 64 6 (by decide) (by decide)).mp e; rw [hb] at this; exact absurd this (by decide))]; rfl
  have ia : x_Registers_irqAllowed (beg σ) = !bt (c_cpsr σ) 7 := by
    unfold x_Registers_irqAllowed
    show (if (c_cpsr σ &&& 128) = 0 then true else false) = _
    cases hb : bt (c_cpsr σ) 7
    · rw [if_pos ((bit0 (c_cpsr σ) 128 7 (by decide) (by decide)).mpr hb)]; rfl
    · rw [if_neg (fun e => by have := (bit0 (c_cpsr σ) 128 7 (by decide) (by decide)).mp e; rw [hb] at this; exact absurd this (by decide))]; rfl
  have cf : c_fiq (beg σ) = m_lines τ 1 := h.1.1.2.2.2.2
  have ci : c_irq (beg σ) = m_lines τ 0 := h.1.1.2.2.2.1
  have g84 := go84 h
  have g4 := go70 h (f := 4) (Or.inl rfl)
  have g5 := go70 h (f := 5) (Or.inr rfl)
  have l1 : m_lines (t_steps τ ((m_steps τ) + 1)) (1 : Int32).toNatClampNeg = m_lines τ 1 := rfl
  have l0 : m_lines (t_steps τ ((m_steps τ) + 1)) (0 : Int32).toNatClampNeg = m_lines τ 0 := rfl
  unfold x_Processor_advance x_Processor_advance_36 y_Model_go y_Model_go_28 y_Model_go_46 y_Model_go_69
  rw [cf, ci, fa, ia, i6, i7, l1, l0]
  cases m_lines τ 1 <;> cases m_lines τ 0 <;> cases bt (c_cpsr σ) 6 <;> cases bt (c_cpsr σ) 7 <;> simp only [Bool.false_eq_true, if_false, if_true, Bool.not_true, Bool.not_false] <;>
    first
    | with_reducible exact g84
    | with_reducible exact g4
    | with_reducible exact g5
set_option maxHeartbeats 1000000 in
theorem step_P : ∀ (n : Nat) (v a i : Int32) (σ0 σ : CS) (τ0 τ : MS), RB σ τ → 0 < n → (∃ j, i = nI j ∧ j + n = 20001) → (∃ w, v = nI w ∧ w ≤ 20000) → (x_Top_step_26 σ0 v n a i σ).2.1 = (y_Model_step_26 τ0 v n a i τ).1 ∧ RB (x_Top_step_26 σ0 v n a i σ).2.2 (y_Model_step_26 τ0 v n a i τ).2 := by
  intro n
  induction n with
  | zero => intro v a i σ0 σ τ0 τ _ h0; exact absurd h0 (by decide)
  | succ n ih =>
    intro v a i σ0 σ τ0 τ h _ hi hv
    obtain ⟨j, rfl, hj⟩ := hi
    obtain ⟨w, rfl, hw⟩ := hv
    have hle : nI w ≤ nI j ↔ w ≤ j := by rw [Int32.le_iff_toInt_le, nI_int (by omega), nI_int (by omega)]; omega
    show ((if nI w ≤ nI j then (0, a, σ) else (if ((x_Processor_advance σ).1) = (-1) then x_Top_step_26 σ0 (nI w) n a (nI j + 1) ((x_Processor_advance σ).2) else x_Top_step_26 σ0 (nI w) n (a + 1) (nI j + 1) (x_Processor_take ((x_Processor_advance σ).2) ((x_Processor_advance σ).1)))) : Nat × Int32 × CS).2.1 = (if nI w ≤ nI j then (a, τ) else y_Model_step_26 τ0 (nI w) n (a + (b01 (decide (((y_Model_go τ).1) = true)))) (nI j + 1) ((y_Model_go τ).2)).1 ∧ RB ((if nI w ≤ nI j then (0, a, σ) else (if ((x_Processor_advance σ).1) = (-1) then x_Top_step_26 σ0 (nI w) n a (nI j + 1) ((x_Processor_advance σ).2) else x_Top_step_26 σ0 (nI w) n (a + 1) (nI j + 1) (x_Processor_take ((x_Processor_advance σ).2) ((x_Processor_advance σ).1)))) : Nat × Int32 × CS).2.2 (if nI w ≤ nI j then (a, τ) else y_Model_step_26 τ0 (nI w) n (a + (b01 (decide (((y_Model_go τ).1) = true)))) (nI j + 1) ((y_Model_go τ).2)).2
    by_cases hwj : nI w ≤ nI j
    · rw [if_pos hwj, if_pos hwj]; exact ⟨rfl, h⟩
    · rw [if_neg hwj, if_neg hwj]
      have hlt : j < w := Nat.lt_of_not_le (fun e => hwj (hle.mpr e))
      rw [show nI j + 1 = nI (j + 1) from nI_addP j 1]
      rcases go_P h with ⟨g1, g2, g3⟩ | ⟨g1, g2, g3⟩
      · rw [if_pos g1, g2]
        have e0 : a + b01 (decide (false = true)) = a := Int32.add_zero a
        rw [e0]
        exact ih _ _ _ _ _ _ _ g3 (by omega) ⟨j + 1, rfl, by omega⟩ ⟨w, rfl, hw⟩
      · rw [if_neg g1, g2]
        have e1 : a + b01 (decide (true = true)) = a + 1 := rfl
        rw [e1]
        exact ih _ _ _ _ _ _ _ g3 (by omega) ⟨j + 1, rfl, by omega⟩ ⟨w, rfl, hw⟩
end R
