section R
variable {σ : CS} {τ : MS}
set_option maxHeartbeats 1000000 in
theorem okm16 : (16 : Int32) = 17 ∨ (16 : Int32) = 18 ∨ (16 : Int32) = 19 ∨ (16 : Int32) = 23 ∨ (16 : Int32) = 27 ∨ (16 : Int32) = 16 ∨ (16 : Int32) = 31 := by decide
set_option maxHeartbeats 1000000 in
theorem many_core (h : Go σ τ) {w n l : Int32} {loads up before writes special : Bool} (hl16 : w &&& 65535 = l) (hl0 : ¬ l = 0) (hwn : x_Bits_four w 16 = n) (h20 : bt w (sh 20) = loads) (h21 : bt w (sh 21) = writes) (h22 : bt w (sh 22) = special) (L mv : Int32)
    (hmv : mv = if up = true then y_Model_value τ n + 4 * y_Model_countOf l else y_Model_value τ n - 4 * y_Model_countOf l) : Pst (x_Transfers_many_86 σ w mv L) (y_Model_many_63 τ loads n l up before writes special L) := by
  have hn : rg n := hwn ▸ rg4 w 16
  have hl : ∀ j, j < 16 → bt w j = bt l j := by
    intro j hj
    rw [← hl16, bt_and, (by decide : ∀ j, j < 16 → bt 65535 j = true) j hj, Bool.and_true]
  have hlk : ∃ k, k < 65536 ∧ l = nI k := by
    obtain ⟨k, hk, e⟩ := andN w 65535
    exact ⟨k, Nat.lt_succ_of_le hk, hl16 ▸ e⟩
  have hK16 : cb l 16 ≤ 16 := cb_le l 16
  have hK0 : 0 < cb l 16 := Nat.pos_of_ne_zero (fun e => hl0 ((cb_0 l hlk).mp e))
  have hS : 4 * x_Integer_bitCount (w &&& 65535) = nI (4 * cb l 16) := by rw [bc_E, hl16, nI_mul4]
  have hbk : x_Registers_bank σ = x_Registers_bankOf (y_Model_mode τ) := by rw [h.1.1.mode]; exact h.1.1.bank
  have hokm := h.1.1.okM
  have hokmode : y_Model_mode τ = 17 ∨ y_Model_mode τ = 18 ∨ y_Model_mode τ = 19 ∨ y_Model_mode τ = 23 ∨ y_Model_mode τ = 27 ∨ y_Model_mode τ = 16 ∨ y_Model_mode τ = 31 := by rw [h.1.1.mode]; exact hokm
  have hL0 : L + nI (4 * cb l 0) = L := Int32.add_zero L
  have hA0 : (L &&& (-4)) + nI (4 * cb l 0) = L &&& (-4) := Int32.add_zero _
  have s15 : sh (15 : Int32) = 15 := by decide
  have e17 : 17 - cb l 0 = 17 := rfl
  have hz0 : nI (4 * cb l 0) = 0 := rfl
  have hn0 : nI 0 = 0 := rfl
  unfold x_Transfers_many_86
  rw [on_bt, h20]
  cases loads
  · rw [if_neg (by decide)]
    have sl : ∀ m, (m = 17 ∨ m = 18 ∨ m = 19 ∨ m = 23 ∨ m = 27 ∨ m = 16 ∨ m = 31) → Pst (x_Transfers_storeMany_20 σ w L mv (x_Registers_bankOf m)) (y_Model_many_110 τ false n l up before writes special L false m) := by
      intro m hm
      have := sto_loop hm σ τ w L mv L n l up before writes special hn hwn h21 hl hmv 16 0 σ τ rfl h
      rw [hL0, e17, hz0, hn0] at this
      unfold x_Transfers_storeMany_20 y_Model_many_110
      with_reducible exact this
    show Pst (x_Transfers_storeMany σ w L mv) (y_Model_many_89 τ false n l up before writes special L false)
    unfold x_Transfers_storeMany y_Model_many_89 y_Model_many_106
    rw [on_bt, h22, hbk]
    have sl16 : Pst (x_Transfers_storeMany_20 σ w L mv 0) (y_Model_many_110 τ false n l up before writes special L false 16) := sl 16 okm16
    cases special
    · simp only [Bool.false_eq_true, if_false]
      with_reducible exact sl _ hokmode
    · simp only [Bool.false_eq_true, if_false, if_true]
      with_reducible exact sl16
  · rw [if_pos rfl, hS]
    have e4 : (L + nI (4 * cb l 16)) - 4 = L + nI (4 * (cb l 16 - 1)) := by
      have : nI (4 * cb l 16) = nI (4 * (cb l 16 - 1)) + 4 := by
        rw [show (4 : Int32) = nI 4 from rfl, nI_addP]; congr 1; omega
      rw [this, ← Int32.add_assoc, Int32.add_sub_cancel]
    rw [e4]
    have look : ∀ m back, y_Model_many_110 τ true n l up before writes special L back m = @ite MS (∀ e, 0 ≤ e → e < cb l 16 → y_Model_isThere ((L &&& (-4)) + nI (4 * e)) = true) (Classical.propDecidable _) (y_Model_many_188 τ true n l up before writes special L back m τ) (t_fault τ 3) := by
      intro m back
      have := lod_look τ L n l m up before writes special back h.1.1.2.2.2.2 (cb l 16) 0 17 (by omega) (by omega)
      unfold y_Model_many_110
      rw [show nI (4 * 0) = 0 from rfl] at this
      with_reducible exact this
    have mod : y_Model_many_63 τ true n l up before writes special L = y_Model_many_110 τ true n l up before writes special L (special && bt l 15) (if (special && !bt l 15) = true then 16 else y_Model_mode τ) := by
      unfold y_Model_many_63 y_Model_many_88 y_Model_many_89 y_Model_many_106
      simp only [fld1_1, s15]
      cases special <;> cases bt l 15 <;> simp only [Bool.false_eq_true, if_false, if_true, Bool.not_true, Bool.not_false, Bool.true_and, Bool.false_and, Bool.and_true, Bool.and_false, Bool.and_self]
    rw [mod, look]
    have th : ∀ e, e < cb l 16 → y_Model_isThere ((L &&& (-4)) + nI (4 * e)) = y_Model_isThere (L + nI (4 * e)) := by
      intro e he
      rw [m4_add L (by omega), there_m4]
    unfold x_Transfers_loadMany
    rw [holds_E, holds_E]
    cases ha : y_Model_isThere L
    · rw [if_neg (by decide), if_neg]
      · exact Pst.dab h
      · intro hall
        have := hall 0 (Nat.le_refl 0) hK0
        rw [th 0 hK0] at this
        rw [show L + nI (4 * 0) = L from Int32.add_zero L, ha] at this
        exact absurd this (by decide)
    · rw [if_pos rfl]
      cases hz : y_Model_isThere (L + nI (4 * (cb l 16 - 1)))
      · rw [if_neg (by decide), if_neg]
        · exact Pst.dab h
        · intro hall
          have := hall (cb l 16 - 1) (Nat.zero_le _) (by omega)
          rw [th _ (by omega), hz] at this
          exact absurd this (by decide)
      · have hall : ∀ c, c < cb l 16 → y_Model_isThere (L + nI (4 * c)) = true := fun c hc => all_there L hK16 ha hz hc
        rw [if_pos rfl, if_pos (fun e _ he => by rw [th e he]; exact hall e he), hwn, on_bt, h21]
        -- the loads themselves, from any state
        have ld : ∀ (σ1 : CS) (τ1 : MS), R1 σ1 τ1 → x_Registers_bank σ1 = x_Registers_bankOf (y_Model_mode τ) → Pst (x_Transfers_loadMany_66 σ w L mv (L + nI (4 * (cb l 16 - 1))) σ1) (y_Model_loadAll τ1 (L &&& (-4)) l (if (special && !bt l 15) = true then 16 else y_Model_mode τ) (special && bt l 15)) := by
          intro σ1 τ1 h1 hb1
          have ll : ∀ m, (m = 17 ∨ m = 18 ∨ m = 19 ∨ m = 23 ∨ m = 27 ∨ m = 16 ∨ m = 31) → Pst (x_Transfers_loadMany_103 σ w L mv (L + nI (4 * (cb l 16 - 1))) σ1 (x_Registers_bankOf m)) (y_Model_loadAll τ1 (L &&& (-4)) l m (special && bt l 15)) := by
            intro m hm
            have := lod_loop hm σ τ1 w L mv (L + nI (4 * (cb l 16 - 1))) L l (L &&& (-4)) (special && bt l 15) special h22 hl rfl hall 15 0 σ1 τ1 rfl h1
            rw [hL0, hA0, hn0] at this
            unfold x_Transfers_loadMany_103 y_Model_loadAll
            with_reducible exact this
          unfold x_Transfers_loadMany_66 x_Transfers_loadMany_96
          rw [on_bt, on_bt, h22, s15, hl 15 (by decide), hb1]
          have ll16 : Pst (x_Transfers_loadMany_103 σ w L mv (L + nI (4 * (cb l 16 - 1))) σ1 0) (y_Model_loadAll τ1 (L &&& (-4)) l 16 (special && bt l 15)) := ll 16 okm16
          have llm := ll _ hokmode
          clear ll
          generalize bt l 15 = b15 at ll16 llm ⊢
          cases special <;> cases b15 <;> simp only [Bool.false_eq_true, if_false, if_true, Bool.not_true, Bool.not_false, Bool.true_and, Bool.false_and, Bool.and_true, Bool.and_false, Bool.and_self] at ll16 llm ⊢
          · with_reducible exact llm
          · with_reducible exact llm
          · with_reducible exact ll16
          · with_reducible exact llm
        unfold y_Model_many_188 y_Model_many_227 y_Model_many_230
        rw [h.1.1.2.2.2.2, if_pos (show (-1 : Int32) < 0 by decide)]
        cases writes
        · simp only [Bool.false_eq_true, if_false, if_true]
          have e : (if n = 15 then x_Transfers_loadMany_66 σ w L mv (L + nI (4 * (cb l 16 - 1))) σ else x_Transfers_loadMany_66 σ w L mv (L + nI (4 * (cb l 16 - 1))) σ) = x_Transfers_loadMany_66 σ w L mv (L + nI (4 * (cb l 16 - 1))) σ := by split <;> rfl
          rw [e]
          exact ld σ τ h.1 hbk
        · simp only [if_true]
          by_cases h15 : n = 15
          · rw [if_pos h15, if_pos h15]
            exact ld σ τ h.1 hbk
          · rw [if_neg h15, if_neg h15]
            have hw := h.1.write hn mv
            unfold x_Registers_write at hw
            rw [if_neg h15] at hw
            have := ld _ _ hw hbk
            unfold x_Registers_bank
            rw [hmv] at this ⊢
            cases up
            · simp only [Bool.false_eq_true, if_false] at this ⊢
              with_reducible exact this
            · simp only [if_true] at this ⊢
              with_reducible exact this
set_option maxHeartbeats 1000000 in
theorem many_P (h : Go σ τ) {w n l : Int32} {loads up before writes special : Bool} (hl16 : w &&& 65535 = l) (hwn : x_Bits_four w 16 = n) (h20 : bt w (sh 20) = loads) (h21 : bt w (sh 21) = writes) (h22 : bt w (sh 22) = special) (h23 : bt w (sh 23) = up) (h24 : bt w (sh 24) = before) : Pst (x_Transfers_many σ w) (y_Model_many τ loads n l up before writes special) := by
  have hlk : ∃ k, k < 65536 ∧ l = nI k := by
    obtain ⟨k, hk, e⟩ := andN w 65535
    exact ⟨k, Nat.lt_succ_of_le hk, hl16 ▸ e⟩
  have hn : rg n := hwn ▸ rg4 w 16
  have hK16 : cb l 16 ≤ 16 := cb_le l 16
  have hS : 4 * x_Integer_bitCount l = 4 * y_Model_countOf l := by
    have := bc_E w
    rw [hl16] at this
    rw [this, count_cb]
  unfold x_Transfers_many y_Model_many
  rw [hl16]
  by_cases hl0 : l = 0
  · rw [if_pos hl0, if_pos]
    · exact Pst.ok h.1
    · rw [count_cb, (cb_0 l hlk).mpr hl0]; decide
  · have hc0 : ¬ 4 * y_Model_countOf l = 0 := by
      rw [count_cb, nI_mul4]
      intro e
      exact hl0 ((cb_0 l hlk).mp ((by decide : ∀ a, a < 17 → nI (4 * a) = 0 → a = 0) _ (by omega) e))
    rw [if_neg hl0, if_neg hc0]
    · have core := fun L mv hmv => many_core (up := up) (before := before) h hl16 hl0 hwn h20 h21 h22 L mv hmv
      unfold x_Transfers_many_57 x_Transfers_many_70
      rw [hS, hwn, on_bt, on_bt, h23, h24, h.1.1.value hn]
      rw [h.1.1.value hn] at core
      generalize x_Registers_read σ n = B at *
      have e01 : ¬ b01 false = b01 true := by decide
      have e10 : ¬ b01 true = b01 false := by decide
      cases up <;> cases before <;> simp only [Bool.false_eq_true, if_false, if_true, e01, e10] at core ⊢
      · exact core _ _ rfl
      · exact core _ _ rfl
      · exact core _ _ rfl
      · exact core _ _ rfl
end R
