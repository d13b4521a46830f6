set_option maxHeartbeats 1000000 in
theorem f4 (v k : Int32) (hk : sh k ≤ 28) : (v >>> (k &&& 31)) &&& 15 = x_Bits_four v k := by
  refine fld v k 15 ?_
  intro i hi h
  exact (by decide : ∀ i, i < 32 → 4 ≤ i → bt 15 i = false) i hi (by omega)
set_option maxHeartbeats 1000000 in
theorem f3 (v k : Int32) (hk : sh k ≤ 29) : (v >>> (k &&& 31)) &&& 7 = x_Bits_three v k := by
  refine fld v k 7 ?_
  intro i hi h
  exact (by decide : ∀ i, i < 32 → 3 ≤ i → bt 7 i = false) i hi (by omega)
set_option maxHeartbeats 1000000 in
theorem f5 (v k : Int32) (hk : sh k ≤ 27) : (v >>> (k &&& 31)) &&& 31 = x_Bits_five v k := by
  refine fld v k 31 ?_
  intro i hi h
  exact (by decide : ∀ i, i < 32 → 5 ≤ i → bt 31 i = false) i hi (by omega)
set_option maxHeartbeats 1000000 in
theorem f2 (v k : Int32) (hk : sh k ≤ 30) : (v >>> (k &&& 31)) &&& 3 = (iu v k) &&& 3 := by
  refine fld v k 3 ?_
  intro i hi h
  exact (by decide : ∀ i, i < 32 → 2 ≤ i → bt 3 i = false) i hi (by omega)
set_option maxHeartbeats 1000000 in
theorem f4_16 (v : Int32) : (v >>> ((16 : Int32) &&& 31)) &&& 15 = x_Bits_four v 16 := f4 v 16 (by decide)
set_option maxHeartbeats 1000000 in
theorem f4_12 (v : Int32) : (v >>> ((12 : Int32) &&& 31)) &&& 15 = x_Bits_four v 12 := f4 v 12 (by decide)
set_option maxHeartbeats 1000000 in
theorem f4_8 (v : Int32) : (v >>> ((8 : Int32) &&& 31)) &&& 15 = x_Bits_four v 8 := f4 v 8 (by decide)
set_option maxHeartbeats 1000000 in
theorem f4_0 (v : Int32) : v &&& 15 = x_Bits_four v 0 := by unfold x_Bits_four; rw [iu0]
set_option maxHeartbeats 1000000 in
theorem f3_0 (v : Int32) : v &&& 7 = x_Bits_three v 0 := by unfold x_Bits_three; rw [iu0]
set_option maxHeartbeats 1000000 in
theorem rg4 (v k : Int32) : rg (x_Bits_four v k) := rg_and _
set_option maxHeartbeats 1000000 in
theorem rg3 (v k : Int32) : rg (x_Bits_three v k) := rg_and7 _
set_option maxHeartbeats 1000000 in
theorem ne3 (v k : Int32) : ¬ x_Bits_three v k = 15 := and7_ne _
section R
variable {σ : CS} {τ : MS}
def wbm (τ : MS) (n w : Int32) : MS := if n < 0 then τ else if n = 15 then τ else y_Model_put τ n w
set_option maxHeartbeats 1000000 in
theorem tl_E (τ : MS) {a : Int32} (ha : y_Model_isThere a = true) (K d n w : Int32) : y_Model_transfer τ true K d a n w = y_Model_put (wbm τ n w) d (y_Model_loaded τ a K) := by
  unfold y_Model_transfer
  rw [if_pos ha, if_pos rfl]
  unfold y_Model_transfer_46
  rw [if_pos rfl]
  unfold y_Model_transfer_70 y_Model_transfer_90 wbm
  split
  · rfl
  · split <;> rfl
set_option maxHeartbeats 1000000 in
theorem ts_E (τ : MS) {a : Int32} (ha : y_Model_isThere a = true) {k : Int32} (hk : k = 0 ∨ k = 1 ∨ k = 2) (d n w : Int32) : y_Model_transfer τ false (kd k) d a n w = wbm (y_Model_storeAt τ a (kd k) (y_Model_operand τ d (if y_Model_isThumb τ = true then 4 else 12))) n w := by
  have h0 : 0 ≤ kd k := by rcases hk with rfl | rfl | rfl <;> decide
  unfold y_Model_transfer
  rw [if_pos ha, if_neg (by decide)]
  have e : ∀ x, y_Model_transfer_43 τ false (kd k) d a n w x = wbm (y_Model_storeAt τ a (kd k) (y_Model_operand τ d x)) n w := by
    intro x
    unfold y_Model_transfer_43 y_Model_transfer_46
    rw [if_neg (by decide), if_pos h0]
    unfold y_Model_transfer_65 y_Model_transfer_70 y_Model_transfer_90 wbm
    split
    · rfl
    · split <;> rfl
  split <;> exact e _
set_option maxHeartbeats 1000000 in
theorem tf_E (τ : MS) {a : Int32} (ha : y_Model_isThere a = false) (l : Bool) (K d n w : Int32) : y_Model_transfer τ l K d a n w = t_fault τ 3 := by
  unfold y_Model_transfer
  rw [if_neg (by rw [ha]; decide)]
set_option maxHeartbeats 1000000 in
theorem rg_nn {i : Int32} (h : rg i) : ¬ i < 0 := by
  obtain ⟨k, hk, rfl⟩ := h
  revert k; decide
set_option maxHeartbeats 1000000 in
theorem st_wr (σ : CS) {k : Int32} (hk : k = 0 ∨ k = 1 ∨ k = 2) (a v n w : Int32) (h15 : ¬ n = 15) : x_Memory_store (x_Registers_write σ n w) k a v = x_Registers_write (x_Memory_store σ k a v) n w := by
  unfold x_Registers_write
  rw [if_neg h15, if_neg h15]
  rcases hk with rfl | rfl | rfl <;> rfl
set_option maxHeartbeats 1000000 in
theorem wb_R1 (h : R1 σ τ) {n : Int32} (hn : rg n) (w : Int32) : R1 (if n = 15 then σ else x_Registers_write σ n w) (wbm τ n w) := by
  unfold wbm
  rw [if_neg (rg_nn hn)]
  split
  · exact h
  · exact h.write hn w
set_option maxHeartbeats 1000000 in
theorem core_P (h : Go σ τ) (ht : x_Registers_thumb σ = false) {k d n : Int32} (hd : rg d) (hn : rg n) (l : Bool) (hk : k = 0 ∨ k = 1 ∨ k = 2 ∨ k = 3 ∨ k = 4) (hs : l = false → k = 0 ∨ k = 1 ∨ k = 2) (a w : Int32) (wb : Bool) :
    Pst (if (x_Memory_holds σ a) = true then (if l = true then (-1, x_Registers_write (if n = 15 then σ else if wb = true then x_Registers_write σ n w else σ) d (x_Memory_load σ k a)) else (-1, x_Memory_store (if n = 15 then σ else if wb = true then x_Registers_write σ n w else σ) k a (x_Registers_readLate σ d))) else (3, σ)) (y_Model_transfer τ l (kd k) d a (if wb = true then n else (-1)) w) := by
  rw [holds_E]
  cases ha : y_Model_isThere a
  · rw [if_neg (by decide), tf_E τ ha]
    exact Pst.dab h
  · rw [if_pos rfl]
    have hw : R1 (if n = 15 then σ else if wb = true then x_Registers_write σ n w else σ) (wbm τ (if wb = true then n else (-1)) w) := by
      cases wb
      · have e : (if n = 15 then σ else if false = true then x_Registers_write σ n w else σ) = σ := by split <;> rfl
        rw [e]; exact h.1
      · exact wb_R1 h.1 hn w
    cases l
    · have e12 : (if y_Model_isThumb τ = true then (4 : Int32) else 12) = 12 := by rw [h.1.1.thumb, ht]; rfl
      rw [if_neg (by decide : ¬ false = true), ts_E τ ha (hs rfl), e12, h.1.1.late hd]
      refine Pst.ok ?_
      have hst := store_R1 h.1 ha (hs rfl) (x_Registers_readLate σ d)
      cases wb
      · have e : (if n = 15 then σ else if false = true then x_Registers_write σ n w else σ) = σ := by split <;> rfl
        rw [e]; exact hst
      · have e : x_Memory_store (if n = 15 then σ else if true = true then x_Registers_write σ n w else σ) k a (x_Registers_readLate σ d) = (if n = 15 then (x_Memory_store σ k a (x_Registers_readLate σ d)) else x_Registers_write (x_Memory_store σ k a (x_Registers_readLate σ d)) n w) := by
          by_cases h15 : n = 15
          · rw [if_pos h15, if_pos h15]
          · rw [if_neg h15, if_neg h15, if_pos rfl, st_wr σ (hs rfl) _ _ _ _ h15]
        rw [e]
        exact wb_R1 hst hn w
    · rw [if_pos rfl, tl_E τ ha, load_E h.1.1 ha hk]
      exact Pst.ok (hw.write hd _)
set_option maxHeartbeats 1000000 in
theorem idx_P (h : Go σ τ) (ht : x_Registers_thumb σ = false) (i : Int32) {k : Int32} (hk : k = 0 ∨ k = 1 ∨ k = 2 ∨ k = 3 ∨ k = 4) (hs : bt i (sh 20) = false → k = 0 ∨ k = 1 ∨ k = 2) (off : Int32) : Pst (x_Transfers_indexed σ i k off) (y_Model_indexed τ i (kd k) off) := by
  have hv := h.1.1.value (rg4 i 16)
  have core := core_P h ht (rg4 i 12) (rg4 i 16) (bt i (sh 20)) hk hs
  unfold x_Transfers_indexed x_Transfers_indexed_39 x_Transfers_indexed_61 x_Transfers_indexed_120 x_Transfers_indexed_143 x_Transfers_indexed_154 y_Model_indexed y_Model_indexed_55 y_Model_indexed_72 y_Model_indexed_77 y_Model_indexed_115
  simp only [on_bt, fld1_1, Bool.decide_eq_true, f4_16, f4_12, hv]
  generalize x_Bits_four i 16 = n at *
  generalize x_Bits_four i 12 = d at *
  have nrm : ∀ (a w : Int32) (wb : Bool) (q : Int32 × CS), q = (if (x_Memory_holds σ a) = true then (if bt i (sh 20) = true then (-1, x_Registers_write (if n = 15 then σ else if wb = true then x_Registers_write σ n w else σ) d (x_Memory_load σ k a)) else (-1, x_Memory_store (if n = 15 then σ else if wb = true then x_Registers_write σ n w else σ) k a (x_Registers_readLate σ d))) else (3, σ)) → Pst q (y_Model_transfer τ (bt i (sh 20)) (kd k) d a (if wb = true then n else (-1)) w) := fun a w wb q e => e ▸ core a w wb
  cases bt i (sh 23) <;> cases bt i (sh 24) <;> cases bt i (sh 21) <;> simp only [Bool.false_eq_true, if_false, if_true]
  · refine nrm (x_Registers_read σ n) (x_Registers_read σ n - off) true _ ?_
    by_cases h15 : n = 15 <;> cases bt i (sh 20) <;> simp only [h15, if_true, if_false, reduceCtorEq, Bool.false_eq_true]
  · refine nrm (x_Registers_read σ n) (x_Registers_read σ n - off) true _ ?_
    by_cases h15 : n = 15 <;> cases bt i (sh 20) <;> simp only [h15, if_true, if_false, reduceCtorEq, Bool.false_eq_true]
  · refine nrm (x_Registers_read σ n - off) (x_Registers_read σ n - off) false _ ?_
    by_cases h15 : n = 15 <;> cases bt i (sh 20) <;> simp only [h15, if_true, if_false, reduceCtorEq, Bool.false_eq_true]
  · refine nrm (x_Registers_read σ n - off) (x_Registers_read σ n - off) true _ ?_
    by_cases h15 : n = 15 <;> cases bt i (sh 20) <;> simp only [h15, if_true, if_false, reduceCtorEq, Bool.false_eq_true]
  · refine nrm (x_Registers_read σ n) (x_Registers_read σ n + off) true _ ?_
    by_cases h15 : n = 15 <;> cases bt i (sh 20) <;> simp only [h15, if_true, if_false, reduceCtorEq, Bool.false_eq_true]
  · refine nrm (x_Registers_read σ n) (x_Registers_read σ n + off) true _ ?_
    by_cases h15 : n = 15 <;> cases bt i (sh 20) <;> simp only [h15, if_true, if_false, reduceCtorEq, Bool.false_eq_true]
  · refine nrm (x_Registers_read σ n + off) (x_Registers_read σ n + off) false _ ?_
    by_cases h15 : n = 15 <;> cases bt i (sh 20) <;> simp only [h15, if_true, if_false, reduceCtorEq, Bool.false_eq_true]
  · refine nrm (x_Registers_read σ n + off) (x_Registers_read σ n + off) true _ ?_
    by_cases h15 : n = 15 <;> cases bt i (sh 20) <;> simp only [h15, if_true, if_false, reduceCtorEq, Bool.false_eq_true]
set_option maxHeartbeats 1000000 in
theorem plain_P (h : Go σ τ) {k d : Int32} (hd : rg d) (h15 : ¬ d = 15) (l : Bool) (hk : k = 0 ∨ k = 1 ∨ k = 2 ∨ k = 3 ∨ k = 4) (hs : l = false → k = 0 ∨ k = 1 ∨ k = 2) (a : Int32) : Pst (x_Transfers_plain σ l k d a) (y_Model_transfer τ l (kd k) d a (-1) 0) := by
  unfold x_Transfers_plain
  rw [holds_E]
  cases ha : y_Model_isThere a
  · rw [if_neg (by decide), tf_E τ ha]
    exact Pst.dab h
  · rw [if_pos rfl]
    cases l
    · rw [if_neg (by decide), ts_E τ ha (hs rfl)]
      refine Pst.ok ?_
      have e : ∀ x, y_Model_operand τ d x = x_Registers_read σ d := by
        intro x; unfold y_Model_operand; rw [if_neg h15, h.1.1.at' hd h15]
      rw [e]
      exact store_R1 h.1 ha (hs rfl) _
    · rw [if_pos rfl, tl_E τ ha, load_E h.1.1 ha hk]
      exact Pst.ok (R1.write (τ := wbm τ (-1) 0) h.1 hd _)
set_option maxHeartbeats 1000000 in
theorem swap_P (h : Go σ τ) (i : Int32) : Pst (x_ArmSet_swap σ i) (y_Model_swap τ i) := by
  unfold x_ArmSet_swap y_Model_swap y_Model_undefined y_Model_swap_82
  simp only [f4_16, f4_12, f4_0 i, fld1_1, on_bt, Bool.decide_eq_true]
  have hn := rg4 i 16
  have hd := rg4 i 12
  have hm := rg4 i 0
  generalize x_Bits_four i 16 = n at *
  generalize x_Bits_four i 12 = d at *
  generalize x_Bits_four i 0 = m at *
  by_cases n15 : n = 15
  · rw [if_pos n15, if_pos n15]; exact Pst.und h
  rw [if_neg n15, if_neg n15]
  by_cases d15 : d = 15
  · rw [if_pos d15, if_pos d15]; exact Pst.und h
  rw [if_neg d15, if_neg d15]
  by_cases m15 : m = 15
  · rw [if_pos m15, if_pos m15]; exact Pst.und h
  rw [if_neg m15, if_neg m15, h.1.1.at' hn n15, h.1.1.at' hm m15]
  unfold x_Transfers_swap
  rw [holds_E]
  cases ha : y_Model_isThere (x_Registers_read σ n)
  · rw [if_neg (by decide), if_neg (by decide)]; exact Pst.dab h
  · rw [if_pos rfl, if_pos rfl]
    cases bt i (sh 22)
    · have hs := store_R1 h.1 ha (k := 0) (Or.inl rfl) (x_Registers_read σ m)
      have hl := load_E h.1.1 ha (k := 0) (Or.inl rfl)
      refine Pst.ok ?_
      show R1 (x_Registers_write (x_Memory_store σ 0 (x_Registers_read σ n) (x_Registers_read σ m)) d (x_Memory_load σ 0 (x_Registers_read σ n))) (y_Model_put (y_Model_storeAt τ (x_Registers_read σ n) (kd 0) (x_Registers_read σ m)) d (y_Model_loaded τ (x_Registers_read σ n) (kd 0)))
      rw [hl]; exact hs.write hd _
    · have hs := store_R1 h.1 ha (k := 1) (Or.inr (Or.inl rfl)) (x_Registers_read σ m)
      have hl := load_E h.1.1 ha (k := 1) (Or.inr (Or.inl rfl))
      refine Pst.ok ?_
      show R1 (x_Registers_write (x_Memory_store σ 1 (x_Registers_read σ n) (x_Registers_read σ m)) d (x_Memory_load σ 1 (x_Registers_read σ n))) (y_Model_put (y_Model_storeAt τ (x_Registers_read σ n) (kd 1) (x_Registers_read σ m)) d (y_Model_loaded τ (x_Registers_read σ n) (kd 1)))
      rw [hl]; exact hs.write hd _
end R
