section R
variable {σ : CS} {τ : MS}
set_option maxHeartbeats 1000000 in
theorem thumb_P (h : Go σ τ) (ht : x_Registers_thumb σ = true) (i : Int32) (hi : ∃ k, k < 65536 ∧ i = nI k) : Pst (x_ThumbSet_perform σ i) (y_Model_thumb τ i) := by
  obtain ⟨k, hk, ei⟩ := hi
  have h31 : bt i 31 = false := by
    rw [ei, bt_nI hk (by decide)]
    apply decide_eq_false
    rw [Nat.div_eq_of_lt (by omega)]; decide
  have e12 : iu i 12 = nI (k / 4096) := by rw [ei]; exact iu_nI hk 12
  have e10 : iu i 10 = nI (k / 1024) := by rw [ei]; exact iu_nI hk 10
  have e11 : iu i 11 = nI (k / 2048) := by rw [ei]; exact iu_nI hk 11
  have b11 : bt i (sh 11) = decide (k / 2048 % 2 = 1) := by rw [ei]; exact bt_nI hk (by decide)
  have b10 : bt i (sh 10) = decide (k / 1024 % 2 = 1) := by rw [ei]; exact bt_nI hk (by decide)
  have n16 : iu i 10 = 16 ↔ k / 1024 = 16 := by rw [e10]; exact nI_inj (b := 16) (by omega) (by decide)
  have n17 : iu i 10 = 17 ↔ k / 1024 = 17 := by rw [e10]; exact nI_inj (b := 17) (by omega) (by decide)
  have n9 : iu i 11 = 9 ↔ k / 2048 = 9 := by rw [e11]; exact nI_inj (b := 9) (by omega) (by decide)
  have hea : (k / 4096 < 2) → Pst (x_ThumbSet_perform_76 σ i) (y_Model_early τ i (x_Bits_three i 0) (x_Bits_three i 3) (x_Bits_three i 6) (x_Bits_five i 6)) := by
    intro hlt
    have := early_P h i h31 (by
      rw [e11]
      exact (by decide : ∀ z, z < 4 → nI z &&& 15 = nI z &&& 3) (k / 2048) (by omega))
    rw [f3 i 3 (by decide), f3 i 6 (by decide), f5 i 6 (by decide), f3_0 i] at this
    exact this
  have a3 := h.1.1.at' (rg3 i 3) (ne3 i 3)
  have a6 := h.1.1.at' (rg3 i 6) (ne3 i 6)
  have a13 := h.1.1.at' rg13 (by decide)
  unfold y_Model_thumb y_Model_thumb_243 y_Model_thumb_367 x_ThumbSet_perform
  simp only [fld1_1, Bool.decide_eq_true, f3 i 3 (by decide), f3 i 6 (by decide), f5 i 6 (by decide), f3 i 8 (by decide), f3 i 9 (by decide), f4 i 6 (by decide), f4 i 8 (by decide), f2 i 11 (by decide), f3_0 i, on_bt, a3, a6, a13]
  simp only [sr_nn h31]
  rw [e12]
  have hP : ∀ (q : Int32) (d a : Int32), (q = 0 ∨ q = 1 ∨ q = 2) → rg d → ¬ d = 15 → Pst (x_Transfers_plain σ (bt i (sh 11)) q d a) (y_Model_transfer τ (bt i (sh 11)) (kd q) d a (-1) 0) := by
    intro q d a hq hd hn
    refine plain_P h hd hn _ ?_ (fun _ => hq) a
    rcases hq with rfl | rfl | rfl
    · exact Or.inl rfl
    · exact Or.inr (Or.inl rfl)
    · exact Or.inr (Or.inr (Or.inl rfl))
  by_cases h4 : k / 4096 = 4
  · rw [h4]
    simp (decide := true) only [if_true, if_false]
    by_cases hb11 : k / 2048 = 9
    · have hb : bt i (sh 11) = true := by rw [b11, hb11]; decide
      rw [if_pos hb, if_neg (fun e => by have := n16.mp e; omega), if_neg (fun e => by have := n17.mp e; omega), if_pos (n9.mpr hb11)]
      exact pcl_P h ht i
    · have hb8 : k / 2048 = 8 := by omega
      have hb : bt i (sh 11) = false := by rw [b11, hb8]; decide
      rw [if_neg (by rw [hb]; decide : ¬ bt i (sh 11) = true)]
      by_cases h16 : k / 1024 = 16
      · have hb : bt i (sh 10) = false := by rw [b10, h16]; decide
        rw [if_neg (by rw [hb]; decide : ¬ bt i (sh 10) = true), if_pos (n16.mpr h16)]
        exact two_P h i
      · have h17 : k / 1024 = 17 := by omega
        have hb : bt i (sh 10) = true := by rw [b10, h17]; decide
        rw [if_pos hb, if_neg (fun e => h16 (n16.mp e)), if_pos (n17.mpr h17)]
        exact high_P h i h31
  · have m16 : ¬ iu i 10 = 16 := fun e => by have := n16.mp e; omega
    have m17 : ¬ iu i 10 = 17 := fun e => by have := n17.mp e; omega
    have m9 : ¬ iu i 11 = 9 := fun e => by have := n9.mp e; omega
    have hsm : k / 4096 < 16 := by omega
    rcases (show k / 4096 = 0 ∨ k / 4096 = 1 ∨ k / 4096 = 2 ∨ k / 4096 = 3 ∨ k / 4096 = 5 ∨ k / 4096 = 6 ∨ k / 4096 = 7 ∨ k / 4096 = 8 ∨ k / 4096 = 9 ∨ k / 4096 = 10 ∨ k / 4096 = 11 ∨ k / 4096 = 12 ∨ k / 4096 = 13 ∨ k / 4096 = 14 ∨ k / 4096 = 15 by omega) with e | e | e | e | e | e | e | e | e | e | e | e | e | e | e <;> have hh := hea <;> rw [e] at hh ⊢ <;> simp (decide := true) only [if_true, if_false, m16, m17, m9]
    · exact hh (by decide)
    · exact hh (by decide)
    · exact num_P h i
    · exact num_P h i
    · exact byr_P h i
    · unfold x_ThumbSet_byNumberOffset
      rw [on_bt, e12, e, if_pos (by decide)]
      exact hP 0 _ _ (Or.inl rfl) (rg3 i 0) (ne3 i 0)
    · unfold x_ThumbSet_byNumberOffset
      rw [on_bt, e12, e, if_neg (by decide), if_pos (by decide)]
      exact hP 1 _ _ (Or.inr (Or.inl rfl)) (rg3 i 0) (ne3 i 0)
    · unfold x_ThumbSet_byNumberOffset
      rw [on_bt, e12, e, if_neg (by decide), if_neg (by decide)]
      exact hP 2 _ _ (Or.inr (Or.inr rfl)) (rg3 i 0) (ne3 i 0)
    · unfold x_ThumbSet_besideSp
      rw [on_bt]
      exact hP 0 _ _ (Or.inl rfl) (rg3 i 8) (ne3 i 8)
    · unfold x_ThumbSet_addressOf x_ThumbSet_addressOf_25 x_ThumbSet_wordOfPc
      rw [on_bt, rd15 ht, h.1.1.here]
      cases bt i (sh 11) <;> simp only [Bool.false_eq_true, if_false, if_true]
      · exact Pst.ok (h.1.write (rg3 i 8) _)
      · exact Pst.ok (h.1.write (rg3 i 8) _)
    · exact stack_P h i h31
    · exact tmany_P h i
    · exact cond_P h ht i
    · exact far_P h ht i h31
    · exact far_P h ht i h31
end R
