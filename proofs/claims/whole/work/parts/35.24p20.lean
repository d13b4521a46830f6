set_option maxHeartbeats 1000000 in
theorem t4_nat {x : Int32} : (x &&& 3 = 0) ↔ x.toBitVec.toNat % 4 = 0 := by
  have e : (x &&& 3).toBitVec.toNat = x.toBitVec.toNat % 4 := by
    rw [Int32.toBitVec_and, BitVec.toNat_and]
    show x.toBitVec.toNat &&& 3 = _
    rw [show (3 : Nat) = 2^2 - 1 from rfl, Nat.and_two_pow_sub_one_eq_mod]
  constructor
  · intro h; rw [← e, h]; rfl
  · intro h; apply ext_nat; rw [e, h]; rfl
set_option maxHeartbeats 1000000 in
theorem t4_int (x : Int32) : (x.toBitVec.toNat : Int) = x.toInt ∨ (x.toBitVec.toNat : Int) = x.toInt + 4294967296 := by
  have : x.toInt = x.toBitVec.toInt := rfl
  rw [this, BitVec.toInt_eq_toNat_cond]
  have := x.toBitVec.isLt
  split
  · left; rfl
  · right; omega
set_option maxHeartbeats 1000000 in
theorem t4_rng (x : Int32) : -2147483648 ≤ x.toInt ∧ x.toInt < 2147483648 := ⟨Int32.le_toInt x, Int32.toInt_lt x⟩
set_option maxHeartbeats 1000000 in
theorem t4_tdiv (x : Int) : ∃ q, x.tdiv 4 = q ∧ (0 ≤ x → q = x / 4) ∧ (x < 0 → q = -((-x) / 4)) := by
  refine ⟨_, rfl, ?_, ?_⟩
  · intro h; exact Int.tdiv_eq_ediv_of_nonneg h
  · intro h
    have := Int.tdiv_eq_ediv_of_nonneg (a := -x) (b := 4) (by omega)
    rw [Int.neg_tdiv] at this
    omega
set_option maxHeartbeats 1000000 in
theorem t4_E (v : Int32) : v - v / 4 * 4 = 0 ↔ v &&& 3 = 0 := by
  have hr := t4_rng v
  obtain ⟨q, hq, hq1, hq2⟩ := t4_tdiv v.toInt
  have e : (v / 4 * 4).toInt = q * 4 := by
    rw [Int32.toInt_mul, Int32.toInt_div_of_ne_right _ _ (by decide)]
    show (v.toInt.tdiv 4 * 4).bmod 4294967296 = _
    rw [hq]
    have : -2147483648 ≤ q * 4 ∧ q * 4 < 2147483648 := by
      by_cases h : 0 ≤ v.toInt
      · have := hq1 h; omega
      · have := hq2 (by omega); omega
    rw [Int.bmod_eq_of_le] <;> omega
  have e2 : v - v / 4 * 4 = 0 ↔ v.toInt = q * 4 := by
    rw [← e]
    constructor
    · intro h
      have : v = (v - v / 4 * 4) + v / 4 * 4 := (Int32.sub_add_cancel v (v / 4 * 4)).symm
      rw [h, Int32.zero_add] at this
      exact congrArg Int32.toInt this
    · intro h
      rw [← Int32.toInt_inj.mp h, Int32.sub_self]
  rw [e2, t4_nat]
  have := t4_int v
  by_cases h : 0 ≤ v.toInt
  · have := hq1 h; omega
  · have := hq2 (by omega); omega
section R
variable {σ : CS} {τ : MS}
set_option maxHeartbeats 1000000 in
theorem RC.mode (h : RC σ τ) : y_Model_mode τ = c_cpsr σ &&& 31 := by unfold y_Model_mode; rw [h.cpsr]
set_option maxHeartbeats 1000000 in
theorem RC.thumb (h : RC σ τ) : y_Model_isThumb τ = x_Registers_thumb σ := by unfold y_Model_isThumb x_Registers_thumb; rw [h.cpsr]
set_option maxHeartbeats 1000000 in
theorem RB.thr (h : RB σ τ) (k : Int32) : RB σ (t_thrown τ k) := ⟨⟨h.1.1, h.1.2.1, h.1.2.2⟩, h.2.1, h.2.2⟩
set_option maxHeartbeats 1000000 in
theorem chg_RC (h : RC σ τ) (v : Int32) : RC (x_Registers_changeCpsr σ v) (y_Model_putStatus τ v) := by
  unfold x_Registers_changeCpsr y_Model_putStatus y_Model_putStatus_21
  rcases bank_casesP (v &&& 31) with ⟨hm, h1, h2⟩ | ⟨h1, h2⟩
  · rw [if_neg h1, if_pos h2]
    have e1 : ((v &&& (-268435201)) &&& (-32)) ||| (v &&& 31) = v &&& (-268435201) := by
      apply ext32; intro i hi; simp only [bt_and, bt_or]; generalize bt v i = b; revert b i; decide
    have e2 : (v &&& (-268435201)) &&& 31 = v &&& 31 := and_and32 _ _ _
    rw [e1]
    obtain ⟨hA, hC, -⟩ := h
    refine ⟨hA, hC, ⟨rfl, ?_, ?_, ?_⟩⟩
    · show okM (v &&& (-268435201))
      unfold okM; rw [e2]; exact hm
    · show (v &&& (-268435201)) &&& (-268435201) = _
      rw [and_and32]; rfl
    · show nI ((x_Registers_bankOf (v &&& 31)).toNatClampNeg % 6) = x_Registers_bankOf ((v &&& (-268435201)) &&& 31)
      rw [e2]
      rcases hm with e | e | e | e | e | e | e <;> rw [e] <;> decide
  · rw [if_pos h1, if_neg (by rw [h2]; decide), h.mode]
    obtain ⟨hA, hC, ⟨hD1, hD2, hD3, hD4⟩⟩ := h
    have e2 : (((v &&& (-268435201)) &&& (-32)) ||| (c_cpsr σ &&& 31)) &&& 31 = c_cpsr σ &&& 31 := by
      apply ext32; intro i hi; simp only [bt_and, bt_or]; generalize bt v i = b; generalize bt (c_cpsr σ) i = b2; revert b b2 i; decide
    have e3 : (((v &&& (-268435201)) &&& (-32)) ||| (c_cpsr σ &&& 31)) &&& (-268435201) = (((v &&& (-268435201)) &&& (-32)) ||| (c_cpsr σ &&& 31)) := by
      apply ext32; intro i hi; simp only [bt_and, bt_or]; generalize bt v i = b; generalize bt (c_cpsr σ) i = b2; revert b b2 i; decide
    refine ⟨hA, hC, ⟨rfl, ?_, e3, ?_⟩⟩
    · show okM (((v &&& (-268435201)) &&& (-32)) ||| (c_cpsr σ &&& 31))
      unfold okM; rw [e2]; exact hD2
    · show c_bank σ = x_Registers_bankOf ((((v &&& (-268435201)) &&& (-32)) ||| (c_cpsr σ &&& 31)) &&& 31)
      rw [e2]; exact hD4
set_option maxHeartbeats 1000000 in
theorem ps_r (τ : MS) (v : Int32) : m_r (y_Model_putStatus τ v) = m_r τ := by
  unfold y_Model_putStatus y_Model_putStatus_21
  split <;> rfl
set_option maxHeartbeats 1000000 in
theorem jump_RB (h : RC σ τ) (hh : c_held σ = m_r τ) (v : Int32) : RB (x_Registers_jump σ v) (t_r τ (upd (m_r τ) 15 (y_Model_trimmed τ v))) := by
  refine ⟨⟨?_, ?_, ?_⟩, ?_, jump_Al σ v⟩
  · have := h.1
    unfold x_Registers_jump
    split <;> exact this
  · have := h.2.1
    unfold x_Registers_jump
    split <;> exact this
  · have := h.2.2
    unfold x_Registers_jump
    split <;> exact this
  · unfold x_Registers_jump y_Model_trimmed
    rw [h.thumb, ← hh]
    cases x_Registers_thumb σ <;> rfl
def Res (σ : CS) (q : Nat × Int32 × CS) (p : Int32 × MS) (k : Int32) : Prop := (q.1 = 0 ∧ m_thrown p.2 = 0 ∧ q.2.1 = p.1 ∧ RB q.2.2 p.2) ∨ (¬ q.1 = 0 ∧ ¬ k = 0 ∧ m_thrown p.2 = k ∧ RB σ p.2)
def ResV (σ : CS) (q : Nat × CS) (p : MS) (k : Int32) : Prop := (q.1 = 0 ∧ m_thrown p = 0 ∧ RB q.2 p) ∨ (¬ q.1 = 0 ∧ ¬ k = 0 ∧ m_thrown p = k ∧ RB σ p)
def ResZ (σ : CS) (q : Nat × Bool × CS) (p : Bool × MS) (k : Int32) : Prop := (q.1 = 0 ∧ m_thrown p.2 = 0 ∧ q.2.1 = p.1 ∧ RB q.2.2 p.2) ∨ (¬ q.1 = 0 ∧ ¬ k = 0 ∧ m_thrown p.2 = k ∧ RB σ p.2)
set_option maxHeartbeats 1000000 in
theorem RB.word (h : RB σ τ) {a : Int32} (ha : y_Model_isThere a = true) : m_memory τ (a / 4).toNatClampNeg = x_Memory_word σ a := by
  obtain ⟨n, hn, rfl⟩ := there_nat ha
  unfold x_Memory_word
  rw [ix_c hn, ix_m hn, h.1.1.1]
set_option maxHeartbeats 1000000 in
theorem RB.putw (h : RB σ τ) {a : Int32} (ha : y_Model_isThere a = true) (v : Int32) : RB (x_Memory_putWord σ a v) (t_memory τ (upd (m_memory τ) (a / 4).toNatClampNeg v)) := by
  obtain ⟨n, hn, rfl⟩ := there_nat ha
  unfold x_Memory_putWord
  rw [ix_c hn, ix_m hn]
  refine ⟨⟨⟨?_, h.1.1.2⟩, h.1.2.1, h.1.2.2⟩, h.2.1, h.2.2⟩
  show upd (c_words σ) (n / 4) v = upd (m_memory τ) (n / 4) v
  rw [h.1.1.1]
set_option maxHeartbeats 1000000 in
theorem poke_T (h : RB σ τ) (a v : Int32) : Res σ (x_Top_poke σ a v) (y_Model_poke τ a v) (nI (x_Top_poke σ a v).1) := by
  unfold x_Top_poke x_Top_refuseAddress y_Model_poke y_Model_fail
  rw [holds_E]
  by_cases h3 : a &&& 3 = 0
  · rw [if_pos ((t4_E a).mpr h3)]
    simp only [if_pos h3]
    change Res σ _ (if y_Model_isThere a = true then _ else _) _
    cases ht : y_Model_isThere a
    · simp (decide := true) only [if_true, if_false]
      exact Or.inr ⟨(by decide : ¬ 2 = 0), (by decide : ¬ nI 2 = 0), rfl, (h.thr 0).thr 2⟩
    · simp (decide := true) only [if_true, if_false]
      exact Or.inl ⟨rfl, rfl, ((h.thr 0).word ht).symm, (h.thr 0).putw ht v⟩
  · rw [if_neg (fun e => h3 ((t4_E a).mp e))]
    simp only [if_neg h3]
    simp (decide := true) only [if_true, if_false]
    exact Or.inr ⟨(by decide : ¬ 1 = 0), (by decide : ¬ nI 1 = 0), rfl, (h.thr 0).thr 1⟩
set_option maxHeartbeats 1000000 in
theorem peek_T (h : RB σ τ) (a : Int32) : Res σ (x_Top_peek σ a) (y_Model_peek τ a) (nI (x_Top_peek σ a).1) := by
  unfold x_Top_peek x_Top_refuseAddress y_Model_peek y_Model_fail
  rw [holds_E]
  by_cases h3 : a &&& 3 = 0
  · rw [if_pos ((t4_E a).mpr h3)]
    simp only [if_pos h3]
    change Res σ _ (if y_Model_isThere a = true then _ else _) _
    cases ht : y_Model_isThere a
    · simp (decide := true) only [if_true, if_false]
      exact Or.inr ⟨(by decide : ¬ 2 = 0), (by decide : ¬ nI 2 = 0), rfl, (h.thr 0).thr 2⟩
    · simp (decide := true) only [if_true, if_false]
      exact Or.inl ⟨rfl, rfl, ((h.thr 0).word ht).symm, (h.thr 0)⟩
  · rw [if_neg (fun e => h3 ((t4_E a).mp e))]
    simp only [if_neg h3]
    simp (decide := true) only [if_true, if_false]
    exact Or.inr ⟨(by decide : ¬ 1 = 0), (by decide : ¬ nI 1 = 0), rfl, (h.thr 0).thr 1⟩
set_option maxHeartbeats 1000000 in
theorem win_E (x : Int32) (b : Int32) : (if x < 0 then (2 : Nat) else (if x ≤ b then 0 else 2)) = (if y_Model_within x 0 b = true then 0 else 2) := by
  unfold y_Model_within
  by_cases h : x < 0
  · rw [if_pos h, if_pos h, if_neg (by decide)]
  · rw [if_neg h, if_neg h]
    have : x ≤ b ↔ ¬ b < x := by rw [Int32.le_iff_toInt_le, Int32.lt_iff_toInt_lt]; omega
    by_cases h2 : b < x
    · rw [if_neg (fun e => this.mp e h2), if_pos h2, if_neg (by decide)]
    · rw [if_pos (this.mpr h2), if_neg h2, if_pos rfl]
set_option maxHeartbeats 1000000 in
theorem win_rg {x : Int32} (h : y_Model_within x 0 15 = true) : rg x := by
  unfold y_Model_within at h
  split at h
  · exact absurd h (by decide)
  · split at h
    · exact absurd h (by decide)
    · rename_i h1 h2
      have h1' : ¬ x.toInt < 0 := fun e => h1 (Int32.lt_iff_toInt_lt.mpr e)
      have h2' : ¬ (15 : Int) < x.toInt := fun e => h2 (Int32.lt_iff_toInt_lt.mpr e)
      refine ⟨x.toInt.toNat, by omega, ?_⟩
      apply Int32.toInt_inj.mp
      show _ = (Int32.ofNat _).toInt
      rw [Int32.toInt_ofNat_of_lt (by omega)]
      omega
set_option maxHeartbeats 1000000 in
theorem RB.hold (h : RB σ τ) {m : Int32} (hm : m = 17 ∨ m = 18 ∨ m = 19 ∨ m = 23 ∨ m = 27 ∨ m = 16 ∨ m = 31) {i : Int32} (hi : rg i) (h15 : ¬ i = 15) (v : Int32) : RB (x_Registers_hold σ (x_Registers_bankOf m) i v) (t_r τ (upd (m_r τ) (y_Model_placeOf m i).toNatClampNeg v)) := by
  have hn := fun e => h15 ((pl_15 hm hi).mp e)
  unfold x_Registers_hold
  rw [pl_eq hm hi]
  refine ⟨⟨h.1.1, h.1.2.1, h.1.2.2⟩, ?_, ?_⟩
  · show upd (c_held σ) _ v = upd (m_r τ) _ v
    rw [h.2.1]
  · have := h.2.2
    unfold Al at this ⊢
    show if x_Registers_thumb σ = true then (upd (c_held σ) (y_Model_placeOf m i).toNatClampNeg v 15) &&& 1 = 0 else (upd (c_held σ) (y_Model_placeOf m i).toNatClampNeg v 15) &&& 3 = 0
    have e : upd (c_held σ) (y_Model_placeOf m i).toNatClampNeg v 15 = c_held σ 15 := by
      unfold upd; exact if_neg (fun e => hn e.symm)
    rw [e]; exact this
set_option maxHeartbeats 1000000 in
theorem set_T (h : RB σ τ) (m i v : Int32) : ResV σ (x_Top_set σ m i v) (y_Model_set τ m i v) (nI (x_Top_set σ m i v).1) := by
  unfold x_Top_set x_Top_refuseRegister y_Model_set
  rcases bank_casesP m with ⟨hm, h1, h2⟩ | ⟨h1, h2⟩
  · simp only [if_neg h1, if_pos h2, win_E]
    cases hw : y_Model_within i 0 15
    · simp (decide := true) only [if_true, if_false]
      exact Or.inr ⟨(by decide : ¬ 2 = 0), (by decide : ¬ nI 2 = 0), rfl, (h.thr 0).thr 2⟩
    · simp (decide := true) only [if_true, if_false]
      by_cases h15 : i = 15
      · simp only [if_pos h15]
        have e15 : (y_Model_placeOf m i).toNatClampNeg = 15 := (pl_15 hm (win_rg hw)).mpr h15
        rw [e15]
        exact Or.inl ⟨rfl, rfl, jump_RB (h.thr 0).1 (h.thr 0).2.1 v⟩
      · simp only [if_neg h15]
        exact Or.inl ⟨rfl, rfl, (h.thr 0).hold hm (win_rg hw) h15 v⟩
  · have hb : ¬ (0 : Int32) ≤ y_Model_bank m := by rw [h2]; decide
    simp only [if_pos h1, if_neg hb]
    simp (decide := true) only [if_true, if_false]
    exact Or.inr ⟨(by decide : ¬ 1 = 0), (by decide : ¬ nI 1 = 0), rfl, (h.thr 0).thr 1⟩
set_option maxHeartbeats 1000000 in
theorem get_T (h : RB σ τ) (m i : Int32) : Res σ (x_Top_get σ m i) (y_Model_get τ m i) (nI (x_Top_get σ m i).1) := by
  unfold x_Top_get x_Top_refuseRegister y_Model_get y_Model_fail
  rcases bank_casesP m with ⟨hm, h1, h2⟩ | ⟨h1, h2⟩
  · simp only [if_neg h1, if_pos h2, win_E]
    cases hw : y_Model_within i 0 15
    · simp (decide := true) only [if_true, if_false]
      exact Or.inr ⟨(by decide : ¬ 2 = 0), (by decide : ¬ nI 2 = 0), rfl, (h.thr 0).thr 2⟩
    · simp (decide := true) only [if_true, if_false]
      refine Or.inl ⟨rfl, rfl, ?_, h.thr 0⟩
      show x_Registers_heldIn σ (x_Registers_bankOf m) i = m_r τ _
      unfold x_Registers_heldIn
      rw [pl_eq hm (win_rg hw), h.2.1]
  · have hb : ¬ (0 : Int32) ≤ y_Model_bank m := by rw [h2]; decide
    simp only [if_pos h1, if_neg hb]
    simp (decide := true) only [if_true, if_false]
    exact Or.inr ⟨(by decide : ¬ 1 = 0), (by decide : ¬ nI 1 = 0), rfl, (h.thr 0).thr 1⟩
set_option maxHeartbeats 1000000 in
theorem status_T (h : RB σ τ) (v : Int32) : (x_Top_status σ v).1 = (y_Model_status τ v).1 ∧ RB (x_Top_status σ v).2 (y_Model_status τ v).2 := by
  have hC := chg_RC (h.thr 0).1 v
  have hh : c_held (x_Registers_changeCpsr σ v) = m_r (y_Model_putStatus (t_thrown τ 0) v) := by
    rw [chg_held, ps_r]; exact h.2.1
  refine ⟨?_, ?_⟩
  · exact ((h.thr 0).1.cpsr).symm
  · unfold x_Top_status y_Model_status
    rw [n15]
    have e : x_Registers_next (x_Registers_changeCpsr σ v) = m_r (y_Model_putStatus (t_thrown τ 0) v) 15 := by
      unfold x_Registers_next
      rw [n15, hh]
    rw [e]
    exact jump_RB hC hh _
set_option maxHeartbeats 1000000 in
theorem saved_T (h : RB σ τ) (m v : Int32) : Res σ (x_Top_saved σ m v) (y_Model_saved τ m v) 1 := by
  unfold x_Top_saved y_Model_saved y_Model_fail x_Registers_spsr x_Registers_changeSpsr
  have go : ∀ b : Nat, b < 5 → x_Registers_bankOf m = nI (b + 1) → y_Model_bank m = nI b →
      Res σ (if (x_Registers_bankOf m) = (-1) then (1, 0, σ) else (if (x_Registers_bankOf m) = 0 then (1, 0, σ) else (0, c_spsrs σ (x_Registers_bankOf m).toNatClampNeg, s_spsrs σ (upd (c_spsrs σ) (x_Registers_bankOf m).toNatClampNeg (v &&& (-268435201)))))) (if (y_Model_within (y_Model_bank m) 0 4) = true then (m_spsr (t_thrown τ 0) (y_Model_bank m).toNatClampNeg, t_spsr (t_thrown τ 0) (upd (m_spsr (t_thrown τ 0)) (y_Model_bank m).toNatClampNeg (v &&& (-268435201)))) else (0, t_thrown (t_thrown τ 0) 1)) 1 := by
    intro b hb e1 e2
    rw [e1, e2, if_neg ((by decide : ∀ b, b < 5 → ¬ nI (b + 1) = -1) b hb), if_neg ((by decide : ∀ b, b < 5 → ¬ nI (b + 1) = 0) b hb), if_pos ((by decide : ∀ b, b < 5 → y_Model_within (nI b) 0 4 = true) b hb), nI_toNat (by omega), nI_toNat (by omega)]
    obtain ⟨⟨hA, ⟨hC1, hC2⟩, hD⟩, hH, hal⟩ := h
    refine Or.inl ⟨rfl, rfl, hC1 b hb, ⟨hA, ⟨?_, ?_⟩, hD⟩, hH, hal⟩
    · intro k hk
      show upd (c_spsrs σ) (b + 1) (v &&& (-268435201)) (k + 1) = upd (m_spsr τ) b (v &&& (-268435201)) k
      unfold upd
      by_cases hkb : k = b
      · rw [if_pos (by omega), if_pos hkb]
      · rw [if_neg (by omega), if_neg hkb]; exact hC1 k hk
    · intro k hk
      show upd (m_spsr τ) b (v &&& (-268435201)) k &&& (-268435201) = upd (m_spsr τ) b (v &&& (-268435201)) k
      unfold upd
      by_cases hkb : k = b
      · rw [if_pos hkb, and_and32]; rfl
      · rw [if_neg hkb]; exact hC2 k hk
  have bad : ∀ c d : Int32, x_Registers_bankOf m = c → y_Model_bank m = d → (c = -1 ∨ c = 0) → y_Model_within d 0 4 = false →
      Res σ (if (x_Registers_bankOf m) = (-1) then (1, 0, σ) else (if (x_Registers_bankOf m) = 0 then (1, 0, σ) else (0, c_spsrs σ (x_Registers_bankOf m).toNatClampNeg, s_spsrs σ (upd (c_spsrs σ) (x_Registers_bankOf m).toNatClampNeg (v &&& (-268435201)))))) (if (y_Model_within (y_Model_bank m) 0 4) = true then (m_spsr (t_thrown τ 0) (y_Model_bank m).toNatClampNeg, t_spsr (t_thrown τ 0) (upd (m_spsr (t_thrown τ 0)) (y_Model_bank m).toNatClampNeg (v &&& (-268435201)))) else (0, t_thrown (t_thrown τ 0) 1)) 1 := by
    intro c d e1 e2 hc hd
    rw [e1, e2, hd, if_neg (by decide : ¬ false = true)]
    rcases hc with rfl | rfl
    · rw [if_pos rfl]
      exact Or.inr ⟨(by decide : ¬ 1 = 0), by decide, rfl, (h.thr 0).thr 1⟩
    · rw [if_neg (by decide), if_pos rfl]
      exact Or.inr ⟨(by decide : ¬ 1 = 0), by decide, rfl, (h.thr 0).thr 1⟩
  rcases bank_casesP m with ⟨hm, h1, h2⟩ | ⟨h1, h2⟩
  · rcases hm with rfl | rfl | rfl | rfl | rfl | rfl | rfl
    · exact go 0 (by decide) rfl rfl
    · exact go 1 (by decide) rfl rfl
    · exact go 2 (by decide) rfl rfl
    · exact go 3 (by decide) rfl rfl
    · exact go 4 (by decide) rfl rfl
    · exact bad 0 5 rfl rfl (Or.inr rfl) (by decide)
    · exact bad 0 5 rfl rfl (Or.inr rfl) (by decide)
  · exact bad (-1) (-1) h1 h2 (Or.inl rfl) (by decide)
set_option maxHeartbeats 1000000 in
theorem line_T (h : RB σ τ) (i : Int32) (v : Bool) : ResZ σ (x_Top_line σ i v) (y_Model_line τ i v) 1 := by
  unfold x_Top_line x_Top_line_19 y_Model_line y_Model_fail x_Processor_switchFiq x_Processor_switchIrq
  obtain ⟨⟨⟨hA1, hA2, hA3, hA4, hA5⟩, hC, hD⟩, hH, hal⟩ := h
  by_cases h0 : i = 0
  · subst h0
    rw [if_pos rfl, if_neg (by decide), if_pos (by decide)]
    exact Or.inl ⟨rfl, rfl, hA4, ⟨⟨hA1, hA2, hA3, rfl, hA5⟩, hC, hD⟩, hH, hal⟩
  · by_cases h1 : i = 1
    · subst h1
      rw [if_neg (by decide), if_pos rfl, if_pos rfl, if_pos (by decide)]
      exact Or.inl ⟨rfl, rfl, hA5, ⟨⟨hA1, hA2, hA3, hA4, rfl⟩, hC, hD⟩, hH, hal⟩
    · rw [if_neg h0, if_neg h1, if_neg, if_pos (show (0 : Int32) ≤ 0 by decide)]
      · exact Or.inr ⟨(by decide : ¬ 2 = 0), by decide, rfl, ⟨⟨hA1, hA2, hA3, hA4, hA5⟩, hC, hD⟩, hH, hal⟩
      · intro e
        unfold y_Model_within at e
        split at e
        · exact absurd e (by decide)
        · split at e
          · exact absurd e (by decide)
          · rename_i q1 q2
            have h1' : ¬ i.toInt < 0 := fun e => q1 (Int32.lt_iff_toInt_lt.mpr e)
            have h2' : ¬ (1 : Int) < i.toInt := fun e => q2 (Int32.lt_iff_toInt_lt.mpr e)
            have h0' : ¬ i.toInt = 0 := fun e => h0 (Int32.toInt_inj.mp e)
            have h1'' : ¬ i.toInt = 1 := fun e => h1 (Int32.toInt_inj.mp e)
            omega
set_option maxHeartbeats 1000000 in
theorem stp_x : ∀ (n : Nat) (v a i : Int32) (σ0 σ : CS), (x_Top_step_26 σ0 v n a i σ).1 = 0 := by
  intro n
  induction n with
  | zero => intro v a i σ0 σ; rfl
  | succ n ih =>
    intro v a i σ0 σ
    unfold x_Top_step_26
    split
    · rfl
    · split
      · exact ih _ _ _ _ _
      · exact ih _ _ _ _ _
set_option maxHeartbeats 1000000 in
theorem stp_y : ∀ (n : Nat) (v a i : Int32) (τ0 τ : MS), 0 < n → (∃ j, i = nI j ∧ j + n = 20001) → (∃ w, v = nI w ∧ w ≤ 20000) → m_thrown (y_Model_step_26 τ0 v n a i τ).2 = m_thrown τ := by
  intro n
  induction n with
  | zero => intro v a i τ0 τ h0; exact absurd h0 (by decide)
  | succ n ih =>
    intro v a i τ0 τ _ hi hv
    obtain ⟨j, rfl, hj⟩ := hi
    obtain ⟨w, rfl, hw⟩ := hv
    have hle : nI w ≤ nI j ↔ w ≤ j := by rw [Int32.le_iff_toInt_le, nI_int (by omega), nI_int (by omega)]; omega
    unfold y_Model_step_26
    by_cases hwj : nI w ≤ nI j
    · rw [if_pos hwj]
    · rw [if_neg hwj]
      have hlt : j < w := Nat.lt_of_not_le (fun e => hwj (hle.mpr e))
      rw [show nI j + 1 = nI (j + 1) from nI_addP j 1, ih _ _ _ _ _ (by omega) ⟨j + 1, rfl, by omega⟩ ⟨w, rfl, hw⟩]
      exact thr_go τ
set_option maxHeartbeats 1000000 in
theorem step_T (h : RB σ τ) (v : Int32) : Res σ (x_Top_step σ v) (y_Model_step τ v) 1 := by
  unfold x_Top_step y_Model_step y_Model_fail y_Model_within
  by_cases h1 : v < 1
  · rw [if_pos h1, if_pos h1, if_neg (by decide)]
    exact Or.inr ⟨(by decide : ¬ 1 = 0), (by decide : ¬ nI 1 = 0), rfl, (h.thr 0).thr 1⟩
  · rw [if_neg h1, if_neg h1]
    have : v ≤ 20000 ↔ ¬ 20000 < v := by rw [Int32.le_iff_toInt_le, Int32.lt_iff_toInt_lt]; omega
    by_cases h2 : 20000 < v
    · rw [if_neg (fun e => this.mp e h2), if_pos h2, if_neg (by decide)]
      exact Or.inr ⟨(by decide : ¬ 1 = 0), (by decide : ¬ nI 1 = 0), rfl, (h.thr 0).thr 1⟩
    · rw [if_pos (this.mpr h2), if_neg h2, if_pos rfl]
      have hv : ∃ w, v = nI w ∧ w ≤ 20000 := by
        have h1' : ¬ v.toInt < 1 := fun e => h1 (Int32.lt_iff_toInt_lt.mpr e)
        have h2' : ¬ (20000 : Int) < v.toInt := fun e => h2 (Int32.lt_iff_toInt_lt.mpr e)
        refine ⟨v.toInt.toNat, ?_, by omega⟩
        apply Int32.toInt_inj.mp
        show _ = (Int32.ofNat _).toInt
        rw [Int32.toInt_ofNat_of_lt (by omega)]
        omega
      obtain ⟨e1, e2⟩ := step_P 20001 v 0 0 σ σ τ (t_thrown τ 0) (h.thr 0) (by decide) ⟨0, rfl, rfl⟩ hv
      exact Or.inl ⟨stp_x 20001 v 0 0 σ σ, stp_y 20001 v 0 0 τ (t_thrown τ 0) (by decide) ⟨0, rfl, rfl⟩ hv, e1, e2⟩
set_option maxHeartbeats 1000000 in
theorem count_T (h : RB σ τ) (v : Int32) : Res σ (x_Top_count σ v) (y_Model_count τ v) 1 := by
  unfold x_Top_count y_Model_count y_Model_fail y_Model_within
  by_cases h1 : v < 0
  · rw [if_pos h1, if_pos h1, if_neg (by decide)]
    exact Or.inr ⟨(by decide : ¬ 2 = 0), (by decide : ¬ nI 1 = 0), rfl, (h.thr 0).thr 1⟩
  · rw [if_neg h1, if_neg h1]
    have : v ≤ 7 ↔ ¬ 7 < v := by rw [Int32.le_iff_toInt_le, Int32.lt_iff_toInt_lt]; omega
    by_cases h2 : 7 < v
    · rw [if_neg (fun e => this.mp e h2), if_pos h2, if_neg (by decide)]
      exact Or.inr ⟨(by decide : ¬ 2 = 0), (by decide : ¬ nI 1 = 0), rfl, (h.thr 0).thr 1⟩
    · rw [if_pos (this.mpr h2), if_neg h2, if_pos rfl]
      have h1' : ¬ v.toInt < 0 := fun e => h1 (Int32.lt_iff_toInt_lt.mpr e)
      have h2' : ¬ (7 : Int) < v.toInt := fun e => h2 (Int32.lt_iff_toInt_lt.mpr e)
      by_cases h7 : v = 7
      · subst h7
        rw [if_pos rfl, if_pos (by decide), if_neg (by decide)]
        exact Or.inl ⟨rfl, rfl, ((h.thr 0).1.cpsr).symm, h.thr 0⟩
      · rw [if_neg h7]
        have h7' : ¬ v.toInt = 7 := fun e => h7 (Int32.toInt_inj.mp e)
        by_cases h6 : v = 6
        · subst h6
          rw [if_pos rfl, if_pos (by decide), if_pos rfl]
          exact Or.inl ⟨rfl, rfl, h.1.1.2.2.1, h.thr 0⟩
        · rw [if_neg h6]
          have h6' : ¬ v.toInt = 6 := fun e => h6 (Int32.toInt_inj.mp e)
          have a1 : ¬ (6 : Int32) ≤ v := by
            rw [Int32.le_iff_toInt_le]
            show ¬ (6 : Int) ≤ v.toInt
            omega
          rw [if_neg a1]
          refine Or.inl ⟨rfl, rfl, ?_, h.thr 0⟩
          show x_Processor_faultsOf σ v = m_faults τ v.toNatClampNeg
          unfold x_Processor_faultsOf x_Fault_isKind
          rw [if_neg h1, if_neg a1, if_pos rfl, h.1.1.2.1]
end R
set_option maxHeartbeats 1000000 in
theorem RB0 (σ : CS) (τ : MS) (a1 : ∀ k, c_words σ k = 0) (a2 : ∀ k, m_memory τ k = 0) (a3 : ∀ k, c_faults σ k = 0) (a4 : ∀ k, m_faults τ k = 0) (a5 : ∀ k, c_held σ k = 0) (a6 : ∀ k, m_r τ k = 0) (a7 : ∀ k, c_spsrs σ k = 0) (a8 : ∀ k, m_spsr τ k = 0) (b1 : c_cpsr σ = 211) (b2 : m_raw τ = 211) (b3 : c_bank σ = 3) (b4 : c_steps σ = 0) (b5 : m_steps τ = 0) (b6 : c_irq σ = false) (b7 : c_fiq σ = false) (b8 : ∀ k, m_lines τ k = false) : RB σ τ := by
  have e1 : c_held σ = m_r τ := funext fun k => by rw [a5, a6]
  refine ⟨⟨⟨?_, ?_, ?_, ?_, ?_⟩, ⟨?_, ?_⟩, ?_, ?_, ?_, ?_⟩, e1, ?_⟩
  · exact funext fun k => by rw [a1, a2]
  · exact funext fun k => by rw [a3, a4]
  · rw [b4, b5]
  · rw [b6, b8]
  · rw [b7, b8]
  · intro k hk; rw [a7, a8]
  · intro k hk; rw [a8]; decide
  · rw [b2, b1]
  · rw [b1]; decide
  · rw [b1]; decide
  · rw [b1, b3]; decide
  · unfold Al
    rw [a5]
    split <;> decide
