set_option maxHeartbeats 1000000 in
theorem fl_logic (cp r : Int32) (c : Bool) : (flE (decide (¬ 0 ≤ r)) (decide (r = 0)) (b01 c) (b01 (bt cp 28)) &&& (-268435456)) ||| (cp &&& 268435455) = cyE (nzE cp r) c := by
  have e : ovE (cyE (nzE cp r) c) (bt cp 28) = cyE (nzE cp r) c := by
    have h28 : bt (cyE (nzE cp r) c) 28 = bt cp 28 := by
      unfold cyE nzE
      by_cases h1 : 0 ≤ r <;> by_cases h2 : r = 0 <;> simp only [h1, h2, if_true, if_false] <;> cases c <;> simp only [bt_and, bt_or] <;> generalize bt cp 28 = b <;> revert b <;> decide
    rw [← h28]
    generalize cyE (nzE cp r) c = x
    unfold ovE
    cases hb : bt x 28
    · apply ext32; intro i hi
      by_cases h : i = 28
      · subst h; rw [hb]; simp only [bt_and, bt_or, hb]; decide
      · simp only [bt_and, bt_or]; generalize bt x i = b; revert b i; decide
    · apply ext32; intro i hi
      by_cases h : i = 28
      · subst h; rw [hb]; simp only [bt_and, bt_or, hb]; decide
      · simp only [bt_and, bt_or]; generalize bt x i = b; revert b i; decide
  rw [fl_sum, e]
set_option maxHeartbeats 1000000 in
theorem lo64 (a : Int32) : (a.toInt64 &&& 4294967295).toBitVec = a.toBitVec.setWidth 64 := by
  rw [Int64.toBitVec_and, Int32.toBitVec_toInt64]
  apply BitVec.eq_of_getLsbD_eq
  intro i hi
  rw [BitVec.getLsbD_and, BitVec.getLsbD_signExtend, BitVec.getLsbD_setWidth]
  by_cases h : i < 32
  · rw [if_pos h, show (Int64.toBitVec 4294967295).getLsbD i = true by revert i; decide]
    simp [hi]
  · rw [show (Int64.toBitVec 4294967295).getLsbD i = false by revert i; decide, BitVec.getLsbD_of_ge _ _ (by omega : 32 ≤ i)]
    simp
set_option maxHeartbeats 1000000 in
theorem b01_64 (c : Bool) : ((b01 c).toInt64).toBitVec.toNat = c.toNat := by cases c <;> decide
set_option maxHeartbeats 1000000 in
theorem W_nat (a b : Int32) (c : Bool) : ((((a.toInt64 &&& 4294967295) + (b.toInt64 &&& 4294967295)) + (b01 c).toInt64)).toBitVec.toNat = a.toBitVec.toNat + b.toBitVec.toNat + c.toNat := by
  have ha := a.toBitVec.isLt
  have hb := b.toBitVec.isLt
  have hc : c.toNat ≤ 1 := by cases c <;> decide
  rw [Int64.toBitVec_add, Int64.toBitVec_add, BitVec.toNat_add, BitVec.toNat_add, lo64, lo64, b01_64, BitVec.toNat_setWidth, BitVec.toNat_setWidth]
  omega
set_option maxHeartbeats 1000000 in
theorem lg_gt (x y : Int64) : (¬ lg_cmp x y ≤ 0) ↔ x > y := by
  unfold lg_cmp
  split
  · rename_i h; exact ⟨fun _ => h, fun _ => by decide⟩
  · rename_i h
    refine ⟨fun h2 => ?_, fun h2 => absurd h2 h⟩
    split at h2 <;> exact absurd (by decide) h2
set_option maxHeartbeats 1000000 in
theorem lg_eq (x y : Int64) : lg_cmp x y = 0 ↔ x = y := by
  unfold lg_cmp
  split
  · rename_i h
    refine ⟨fun h2 => absurd h2 (by decide), fun h2 => ?_⟩
    subst h2; exact absurd h (Int64.lt_irrefl)
  · split
    · rename_i h; exact ⟨fun _ => h, fun _ => rfl⟩
    · rename_i h; exact ⟨fun h2 => absurd h2 (by decide), fun h2 => absurd h2 h⟩
set_option maxHeartbeats 1000000 in
theorem sum_c (a b : Int32) (c : Bool) : (lu (((a.toInt64 &&& 4294967295) + (b.toInt64 &&& 4294967295)) + (b01 c).toInt64) 32).toInt32 = b01 (decide (¬ (lg_cmp (((a.toInt64 &&& 4294967295) + (b.toInt64 &&& 4294967295)) + (b01 c).toInt64) 4294967295) ≤ 0)) := by
  have hW := W_nat a b c
  generalize (((a.toInt64 &&& 4294967295) + (b.toInt64 &&& 4294967295)) + (b01 c).toInt64) = W at *
  have ha := a.toBitVec.isLt
  have hb := b.toBitVec.isLt
  have hc : c.toNat ≤ 1 := by cases c <;> decide
  have e1 : (lu W 32).toBitVec = W.toBitVec >>> 32 := by
    unfold lu
    rw [UInt64.toBitVec_toInt64, UInt64.toBitVec_shiftRight]
    rfl
  have hI : W.toInt = W.toBitVec.toNat := by
    show W.toBitVec.toInt = _
    rw [BitVec.toInt_eq_toNat_of_lt]; omega
  have e2 : (¬ (lg_cmp W 4294967295) ≤ 0) ↔ 4294967296 ≤ W.toBitVec.toNat := by
    rw [lg_gt]
    show (4294967295 : Int64) < W ↔ _
    rw [Int64.lt_iff_toInt_lt, hI]
    show (4294967295 : Int) < _ ↔ _
    omega
  apply Int32.toBitVec_inj.mp
  rw [Int64.toBitVec_toInt32, e1, BitVec.signExtend_eq_setWidth_of_le _ (by decide : 32 ≤ 64)]
  apply BitVec.eq_of_toNat_eq
  rw [BitVec.toNat_setWidth, BitVec.toNat_ushiftRight, Nat.shiftRight_eq_div_pow]
  by_cases h : 4294967296 ≤ W.toBitVec.toNat
  · rw [decide_eq_true (e2.mpr h)]
    show _ = 1
    omega
  · rw [decide_eq_false (fun h2 => h (e2.mp h2))]
    show _ = 0
    omega
set_option maxHeartbeats 1000000 in
theorem bt31 (a : Int32) : bt a 31 = decide (2147483648 ≤ a.toBitVec.toNat) := by
  unfold bt
  rw [← show a.toBitVec.msb = a.toBitVec.getLsbD 31 from BitVec.msb_eq_getLsbD_last _, BitVec.msb_eq_decide]
set_option maxHeartbeats 1000000 in
theorem iu31 (a : Int32) : iu a 31 = b01 (bt a 31) := by
  apply ext32; intro i hi
  rw [bt_iu]
  by_cases h : i = 0
  · subst h; show bt a (31 + 0) = _; cases bt a 31 <;> rfl
  · rw [bt_ge a (show 32 ≤ sh 31 + i by show 32 ≤ 31 + i; omega)]
    cases bt a 31
    · exact (bt_zero i).symm
    · show _ = bt 1 i; revert i; decide
set_option maxHeartbeats 1000000 in
theorem sum_v (a b : Int32) (c : Bool) : iu ((a ^^^ ((((a.toInt64 &&& 4294967295) + (b.toInt64 &&& 4294967295)) + (b01 c).toInt64).toInt32)) &&& (b ^^^ ((((a.toInt64 &&& 4294967295) + (b.toInt64 &&& 4294967295)) + (b01 c).toInt64).toInt32))) 31 = b01 (decide (¬ (lg_cmp ((a.toInt64 + b.toInt64) + (b01 c).toInt64) ((((a.toInt64 + b.toInt64) + (b01 c).toInt64).toInt32).toInt64)) = 0)) := by
  have hW := W_nat a b c
  have ha := a.toBitVec.isLt
  have hb := b.toBitVec.isLt
  have hc : c.toNat ≤ 1 := by cases c <;> decide
  have hr : ((((a.toInt64 &&& 4294967295) + (b.toInt64 &&& 4294967295)) + (b01 c).toInt64).toInt32).toBitVec.toNat = (a.toBitVec.toNat + b.toBitVec.toNat + c.toNat) % 4294967296 := by
    rw [Int64.toBitVec_toInt32, BitVec.signExtend_eq_setWidth_of_le _ (by decide : 32 ≤ 64), BitVec.toNat_setWidth, hW]
  generalize ((((a.toInt64 &&& 4294967295) + (b.toInt64 &&& 4294967295)) + (b01 c).toInt64).toInt32) = r at *
  have eA : a.toInt = if 2147483648 ≤ a.toBitVec.toNat then (a.toBitVec.toNat : Int) - 4294967296 else a.toBitVec.toNat := by
    show a.toBitVec.toInt = _
    rw [BitVec.toInt_eq_toNat_cond]
    split <;> split <;> omega
  have eB : b.toInt = if 2147483648 ≤ b.toBitVec.toNat then (b.toBitVec.toNat : Int) - 4294967296 else b.toBitVec.toNat := by
    show b.toBitVec.toInt = _
    rw [BitVec.toInt_eq_toNat_cond]
    split <;> split <;> omega
  have eC : ((b01 c).toInt64).toInt = c.toNat := by cases c <;> decide
  have eS : ((a.toInt64 + b.toInt64) + (b01 c).toInt64).toInt = a.toInt + b.toInt + c.toNat := by
    rw [Int64.toInt_add, Int64.toInt_add, Int32.toInt_toInt64, Int32.toInt_toInt64, eC]
    rw [Int.bmod_add_bmod]
    apply Int.bmod_eq_of_le
    · split at eA <;> split at eB <;> omega
    · split at eA <;> split at eB <;> omega
  generalize ((a.toInt64 + b.toInt64) + (b01 c).toInt64) = S at *
  have e2 : (lg_cmp S (S.toInt32.toInt64) = 0) ↔ (-2147483648 ≤ S.toInt ∧ S.toInt < 2147483648) := by
    rw [lg_eq, ← Int64.toInt_inj, Int32.toInt_toInt64, Int64.toInt_toInt32]
    constructor
    · intro h
      have h1 := Int.bmod_lt (x := S.toInt) (m := 2^32) (by decide)
      have h2 := Int.le_bmod (x := S.toInt) (m := 2^32) (by decide)
      omega
    · intro h
      exact (Int.bmod_eq_of_le (by omega) (by omega)).symm
  rw [iu31]
  congr 1
  rw [bt_and, bt_xor, bt_xor, bt31, bt31, bt31, hr]
  rw [Bool.eq_iff_iff]
  simp only [Bool.and_eq_true, bne_iff_ne, ne_eq, decide_eq_decide, decide_eq_true_eq]
  rw [e2, eS]
  split at eA <;> split at eB <;> omega
set_option maxHeartbeats 1000000 in
theorem sum_E (σ : CS) (τ : MS) (a b : Int32) (c : Bool) : ∃ (r : Int32) (cy ov : Bool), x_Alu_sum σ a b (b01 c) = (r, s_flags σ (flE (decide (¬ 0 ≤ r)) (decide (r = 0)) (b01 cy) (b01 ov))) ∧ y_Model_sum τ a b (b01 c) = (r, t_over (t_carry τ cy) ov) := by
  refine ⟨(((a.toInt64 &&& 4294967295) + (b.toInt64 &&& 4294967295)) + (b01 c).toInt64).toInt32, decide (¬ (lg_cmp (((a.toInt64 &&& 4294967295) + (b.toInt64 &&& 4294967295)) + (b01 c).toInt64) 4294967295) ≤ 0), decide (¬ (lg_cmp ((a.toInt64 + b.toInt64) + (b01 c).toInt64) ((((a.toInt64 + b.toInt64) + (b01 c).toInt64).toInt32).toInt64)) = 0), ?_, rfl⟩
  unfold x_Alu_sum
  rw [keep_E, sum_c, sum_v]
section R
variable {σ : CS} {τ : MS}
set_option maxHeartbeats 1000000 in
theorem logic_E (σ : CS) (r : Int32) (c : Bool) : x_Alu_logic σ r (b01 c) = (r, s_flags σ (flE (decide (¬ 0 ≤ r)) (decide (r = 0)) (b01 c) (b01 (bt (c_cpsr σ) 28)))) := by
  unfold x_Alu_logic
  rw [keep_E, over_bt]
set_option maxHeartbeats 1000000 in
theorem R0.cin (h : R0 σ τ) : y_Model_carryIn τ = b01 (bt (c_cpsr σ) 29) := by
  unfold y_Model_carryIn; rw [h.is]; rfl
def logicP (σ : CS) (τ : MS) (c : Bool) (p : Int32 × CS) (q : Int32 × MS) : Prop := ∃ r : Int32, p = (r, s_flags σ (flE (decide (¬ 0 ≤ r)) (decide (r = 0)) (b01 c) (b01 (bt (c_cpsr σ) 28)))) ∧ q = (r, τ)
def sumP (σ : CS) (τ : MS) (p : Int32 × CS) (q : Int32 × MS) : Prop := ∃ (r : Int32) (cy ov : Bool), p = (r, s_flags σ (flE (decide (¬ 0 ≤ r)) (decide (r = 0)) (b01 cy) (b01 ov))) ∧ q = (r, t_over (t_carry τ cy) ov)
set_option maxHeartbeats 1000000 in
theorem op_E (h : R0 σ τ) {op : Int32} (ho : rg op) (a b : Int32) (c : Bool) : (y_Model_isSum op = true ∧ sumP σ τ (x_Alu_compute σ op a b (b01 c)) (y_Model_operate τ op a b)) ∨ (y_Model_isSum op = false ∧ logicP σ τ c (x_Alu_compute σ op a b (b01 c)) (y_Model_operate τ op a b)) := by
  obtain ⟨k, hk, rfl⟩ := ho
  have hc : x_Registers_carry σ = b01 (bt (c_cpsr σ) 29) := carry_bt σ
  have hi := h.cin
  have L : ∀ r, logicP σ τ c (x_Alu_logic σ r (b01 c)) (r, τ) := fun r => ⟨r, logic_E σ r c, rfl⟩
  have S0 : ∀ a b, sumP σ τ (x_Alu_sum σ a b 0) (y_Model_sum τ a b 0) := fun a b => sum_E σ τ a b false
  have S1 : ∀ a b, sumP σ τ (x_Alu_sum σ a b 1) (y_Model_sum τ a b 1) := fun a b => sum_E σ τ a b true
  have S2 : ∀ a b, sumP σ τ (x_Alu_sum σ a b (x_Registers_carry σ)) (y_Model_sum τ a b (y_Model_carryIn τ)) := fun a b => by rw [hc, hi]; exact sum_E σ τ a b _
  rcases (show k = 0 ∨ k = 1 ∨ k = 2 ∨ k = 3 ∨ k = 4 ∨ k = 5 ∨ k = 6 ∨ k = 7 ∨ k = 8 ∨ k = 9 ∨ k = 10 ∨ k = 11 ∨ k = 12 ∨ k = 13 ∨ k = 14 ∨ k = 15 by omega) with rfl | rfl | rfl | rfl | rfl | rfl | rfl | rfl | rfl | rfl | rfl | rfl | rfl | rfl | rfl | rfl
  · exact Or.inr ⟨rfl, L _⟩
  · exact Or.inr ⟨rfl, L _⟩
  · exact Or.inl ⟨rfl, S1 _ _⟩
  · exact Or.inl ⟨rfl, S1 _ _⟩
  · exact Or.inl ⟨rfl, S0 _ _⟩
  · exact Or.inl ⟨rfl, S2 _ _⟩
  · exact Or.inl ⟨rfl, S2 _ _⟩
  · exact Or.inl ⟨rfl, S2 _ _⟩
  · exact Or.inr ⟨rfl, L _⟩
  · exact Or.inr ⟨rfl, L _⟩
  · exact Or.inl ⟨rfl, S1 _ _⟩
  · exact Or.inl ⟨rfl, S0 _ _⟩
  · exact Or.inr ⟨rfl, L _⟩
  · exact Or.inr ⟨rfl, L _⟩
  · exact Or.inr ⟨rfl, L _⟩
  · exact Or.inr ⟨rfl, L _⟩
set_option maxHeartbeats 1000000 in
theorem test_E {op : Int32} (ho : rg op) : x_Alu_isTest op = (if op < 8 then false else if op ≤ 11 then true else false) := by
  obtain ⟨k, hk, rfl⟩ := ho
  revert k; decide
set_option maxHeartbeats 1000000 in
theorem within_T {op : Int32} (ho : rg op) : y_Model_within op 8 11 = x_Alu_isTest op := by
  obtain ⟨k, hk, rfl⟩ := ho
  revert k; decide
set_option maxHeartbeats 1000000 in
theorem fin_R1 (h : R1 σ τ) {op d : Int32} (ho : rg op) (hd : rg d) (a b : Int32) {c : Bool} (hc : m_carry τ = c) (σ' : CS) (hσ : σ' = x_Registers_changeFlags ((x_Alu_compute σ op a b (b01 c)).2) (c_flags ((x_Alu_compute σ op a b (b01 c)).2))) : R1 (if (x_Alu_isTest op) = true then σ' else x_Registers_write σ' d ((x_Alu_compute σ op a b (b01 c)).1)) (y_Model_finish τ op d a b true) := by
  have key : ∃ τ', R1 σ' τ' ∧ y_Model_finish τ op d a b true = y_Model_finish_44 τ op d a b true τ' ∧ (x_Alu_compute σ op a b (b01 c)).1 = (y_Model_operate τ op a b).1 := by
    have hP := h.1.2.2.2.1.2.2.1
    have hm : ∀ (X : Int32), X &&& 63 = c_cpsr σ &&& 63 → fixM X = X := by
      intro X hX
      refine (fixM_ok ?_).symm
      have e31 : X &&& 31 = c_cpsr σ &&& 31 := by
        have := congrArg (fun z => z &&& 31) hX
        simp only [and_and32] at this
        exact this
      unfold okM; rw [e31]; exact h.1.okM
    rcases op_E h.1 ho a b c with ⟨hs, r, cy, ov, hp, hq⟩ | ⟨hs, r, hp, hq⟩
    · refine ⟨t_cpsr (t_over (t_carry τ cy) ov) (ovE (cyE (nzE (c_cpsr σ) r) cy) ov), ?_, ?_, by rw [hp, hq]⟩
      · rw [hσ, hp]
        show R1 (s_cpsr (s_flags σ _) _) _
        show R1 (s_cpsr (s_flags σ (flE (decide (¬ 0 ≤ r)) (decide (r = 0)) (b01 cy) (b01 ov))) ((flE (decide (¬ 0 ≤ r)) (decide (r = 0)) (b01 cy) (b01 ov) &&& (-268435456)) ||| (c_cpsr σ &&& 268435455))) _
        rw [fl_sum]
        exact R1.cp (σ := s_flags σ _) (τ := t_over (t_carry τ cy) ov) h (by rw [ovE63, cyE63, nzE63]; rfl) (ovEP (cyEP (nzEP hP r) cy) ov)
      · unfold y_Model_finish
        rw [if_pos rfl, if_pos hs, hq]
        simp only [setFlags_E, setCarry_E, setOver_E]
        have e1 : m_cpsr (t_over (t_carry τ cy) ov) = c_cpsr σ := h.1.cpsr
        have e2 : m_cpsr (t_cpsr (t_over (t_carry τ cy) ov) (nzE (c_cpsr σ) r)) = nzE (c_cpsr σ) r := hm _ (nzE63 _ _)
        have e3 : m_cpsr (t_cpsr (t_cpsr (t_over (t_carry τ cy) ov) (nzE (c_cpsr σ) r)) (cyE (nzE (c_cpsr σ) r) cy)) = cyE (nzE (c_cpsr σ) r) cy := hm (cyE (nzE (c_cpsr σ) r) cy) (by rw [cyE63, nzE63])
        simp only [e1, e2]
        rw [show m_carry (t_cpsr (t_over (t_carry τ cy) ov) (nzE (c_cpsr σ) r)) = cy from rfl, e3]
        rfl
    · refine ⟨t_cpsr τ (cyE (nzE (c_cpsr σ) r) c), ?_, ?_, by rw [hp, hq]⟩
      · rw [hσ, hp]
        show R1 (s_cpsr (s_flags σ (flE (decide (¬ 0 ≤ r)) (decide (r = 0)) (b01 c) (b01 (bt (c_cpsr σ) 28)))) ((flE (decide (¬ 0 ≤ r)) (decide (r = 0)) (b01 c) (b01 (bt (c_cpsr σ) 28)) &&& (-268435456)) ||| (c_cpsr σ &&& 268435455))) _
        rw [fl_logic]
        exact R1.cp (σ := s_flags σ _) (τ := τ) h (by rw [cyE63, nzE63]; rfl) (cyEP (nzEP hP r) c)
      · unfold y_Model_finish
        rw [if_pos rfl, if_neg (by rw [hs]; decide), hq]
        simp only [setFlags_E, setCarry_E]
        have e1 : m_cpsr τ = c_cpsr σ := h.1.cpsr
        have e2 : m_cpsr (t_cpsr τ (nzE (c_cpsr σ) r)) = nzE (c_cpsr σ) r := hm _ (nzE63 _ _)
        simp only [e1, e2]
        rw [show m_carry (t_cpsr τ (nzE (c_cpsr σ) r)) = c from hc]
        rfl
  obtain ⟨τ', hR, hf, hr⟩ := key
  rw [hf, hr]
  unfold y_Model_finish_44
  rw [test_E ho]
  by_cases h1 : op < 8
  · rw [if_pos h1, if_pos h1, if_neg (by decide)]; exact hR.write hd _
  · rw [if_neg h1, if_neg h1]
    by_cases h2 : op ≤ 11
    · rw [if_pos h2, if_pos h2, if_pos rfl]; exact hR
    · rw [if_neg h2, if_neg h2, if_neg (by decide)]; exact hR.write hd _
set_option maxHeartbeats 1000000 in
theorem fin0_R1 (h : R1 σ τ) {op d : Int32} (ho : rg op) (hd : rg d) (a b : Int32) (c : Bool) : R1 (if (x_Alu_isTest op) = true then (x_Alu_compute σ op a b (b01 c)).2 else x_Registers_write ((x_Alu_compute σ op a b (b01 c)).2) d ((x_Alu_compute σ op a b (b01 c)).1)) (y_Model_finish τ op d a b false) := by
  have key : R1 (x_Alu_compute σ op a b (b01 c)).2 (y_Model_operate τ op a b).2 ∧ (x_Alu_compute σ op a b (b01 c)).1 = (y_Model_operate τ op a b).1 := by
    rcases op_E h.1 ho a b c with ⟨hs, r, cy, ov, hp, hq⟩ | ⟨hs, r, hp, hq⟩
    · rw [hp, hq]; exact ⟨h, rfl⟩
    · rw [hp, hq]; exact ⟨h, rfl⟩
  obtain ⟨hR, hr⟩ := key
  rw [show y_Model_finish τ op d a b false = y_Model_finish_44 τ op d a b false (y_Model_operate τ op a b).2 from rfl, hr]
  unfold y_Model_finish_44
  rw [test_E ho]
  by_cases h1 : op < 8
  · rw [if_pos h1, if_pos h1, if_neg (by decide)]; exact hR.write hd _
  · rw [if_neg h1, if_neg h1]
    by_cases h2 : op ≤ 11
    · rw [if_pos h2, if_pos h2, if_pos rfl]; exact hR
    · rw [if_neg h2, if_neg h2, if_neg (by decide)]; exact hR.write hd _
end R
