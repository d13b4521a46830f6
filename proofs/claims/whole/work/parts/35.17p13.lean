set_option maxHeartbeats 1000000 in
theorem ite2 {α : Type} {A B : Prop} [Decidable A] [Decidable B] (X R : α) : (if A then (if B then X else R) else R) = (if A ∧ B then X else R) := by
  by_cases a : A <;> by_cases b : B <;> simp [a, b]
set_option maxHeartbeats 1000000 in
theorem ite3 {α : Type} {A B C : Prop} [Decidable A] [Decidable B] [Decidable C] (X R : α) : (if A then (if B then (if C then X else R) else R) else R) = (if A ∧ B ∧ C then X else R) := by
  by_cases a : A <;> by_cases b : B <;> by_cases c : C <;> simp [a, b, c]
set_option maxHeartbeats 1000000 in
theorem ifc {α : Type} {P Q : Prop} [Decidable P] [Decidable Q] {X Y Z : α} (h : P ↔ Q) (e : Y = Z) : (if P then X else Y) = (if Q then X else Z) := by
  subst e
  by_cases hp : P
  · rw [if_pos hp, if_pos (h.mp hp)]
  · rw [if_neg hp, if_neg (fun hq => hp (h.mpr hq))]
set_option maxHeartbeats 1000000 in
theorem ifn {α : Type} {P Q : Prop} [Decidable P] [Decidable Q] {X Y : α} (h : P ↔ Q) : (if P then X else Y) = (if ¬ Q then Y else X) := by
  by_cases hp : P
  · rw [if_pos hp, if_neg (fun hq => hq (h.mp hp))]
  · rw [if_neg hp, if_pos (fun hq => hp (h.mpr hq))]
set_option maxHeartbeats 1000000 in
theorem fm (x y m c M C : Int32) (hm : ∀ i, i < 32 → 32 ≤ sh y + i → bt m i = false) (hc : ∀ i, i < 32 → 32 ≤ sh y + i → bt c i = false)
    (hM : ∀ i, i < 32 → bt M i = (if i < sh y then false else bt m (i - sh y))) (hC : ∀ i, i < 32 → bt C i = (if i < sh y then false else bt c (i - sh y))) : ((x >>> (y &&& 31)) &&& m = c) ↔ x &&& M = C := by
  rw [fld x y m hm]; exact fld_mask x y m c M C hm hc hM hC
set_option maxHeartbeats 1000000 in
theorem mask_sub {x M C N : Int32} (h : x &&& M = C) (hN : M &&& N = N) : x &&& N = C &&& N := by
  rw [← h, and_and32, hN]
set_option maxHeartbeats 1000000 in
theorem a1 (i : Int32) : ((i >>> ((4 : Int32) &&& 31)) &&& 16777215 = 1245169) ↔ i &&& 268435440 = 19922704 := fm i 4 16777215 1245169 268435440 19922704 (by decide) (by decide) (by decide) (by decide)
set_option maxHeartbeats 1000000 in
theorem a2 (i : Int32) : ((i >>> ((24 : Int32) &&& 31)) &&& 15 = 0 ∧ (i >>> ((4 : Int32) &&& 31)) &&& 15 = 9) ↔ i &&& 251658480 = 144 := by
  rw [fm i 24 15 0 251658240 0 (by decide) (by decide) (by decide) (by decide), fm i 4 15 9 240 144 (by decide) (by decide) (by decide) (by decide), ← mask2 i 251658240 240 0 144 (by decide) (by decide) (by decide) (by decide)]
  exact Iff.rfl
set_option maxHeartbeats 1000000 in
theorem a23 (i : Int32) : ((i >>> ((23 : Int32) &&& 31)) &&& 31 = 2) ↔ i &&& 260046848 = 16777216 := fm i 23 31 2 260046848 16777216 (by decide) (by decide) (by decide) (by decide)
set_option maxHeartbeats 1000000 in
theorem a3 (i : Int32) : ((i >>> ((23 : Int32) &&& 31)) &&& 31 = 2 ∧ (i >>> ((20 : Int32) &&& 31)) &&& 3 = 0 ∧ (i >>> ((4 : Int32) &&& 31)) &&& 255 = 9) ↔ i &&& 263196656 = 16777360 := by
  rw [a23, fm i 20 3 0 3145728 0 (by decide) (by decide) (by decide) (by decide), fm i 4 255 9 4080 144 (by decide) (by decide) (by decide) (by decide), ← mask2 i 3145728 4080 0 144 (by decide) (by decide) (by decide) (by decide), ← mask2 i 260046848 (3145728 ||| 4080) 16777216 (0 ||| 144) (by decide) (by decide) (by decide) (by decide)]
  exact Iff.rfl
set_option maxHeartbeats 1000000 in
theorem a4 (i : Int32) : (iu i 5 &&& 3 = 0) ↔ i &&& 96 = 0 := fld_mask i 5 3 0 96 0 (by decide) (by decide) (by decide) (by decide)
set_option maxHeartbeats 1000000 in
theorem a5 (i : Int32) : ((i >>> ((23 : Int32) &&& 31)) &&& 31 = 2 ∧ (i >>> ((16 : Int32) &&& 31)) &&& 63 = 15 ∧ i &&& 4095 = 0) ↔ i &&& 264179711 = 17760256 := by
  rw [a23, fm i 16 63 15 4128768 983040 (by decide) (by decide) (by decide) (by decide), ← mask2 i 4128768 4095 983040 0 (by decide) (by decide) (by decide) (by decide), ← mask2 i 260046848 (4128768 ||| 4095) 16777216 (983040 ||| 0) (by decide) (by decide) (by decide) (by decide)]
  exact Iff.rfl
set_option maxHeartbeats 1000000 in
theorem aS (i : Int32) : ((i >>> ((26 : Int32) &&& 31)) &&& 3 = 0 ∧ (i >>> ((23 : Int32) &&& 31)) &&& 3 = 2 ∧ (i >>> ((20 : Int32) &&& 31)) &&& 3 = 2 ∧ (i >>> ((12 : Int32) &&& 31)) &&& 15 = 15) ↔ i &&& 229699584 = 18935808 := by
  rw [fm i 26 3 0 201326592 0 (by decide) (by decide) (by decide) (by decide), fm i 23 3 2 25165824 16777216 (by decide) (by decide) (by decide) (by decide), fm i 20 3 2 3145728 2097152 (by decide) (by decide) (by decide) (by decide), fm i 12 15 15 61440 61440 (by decide) (by decide) (by decide) (by decide),
    ← mask2 i 3145728 61440 2097152 61440 (by decide) (by decide) (by decide) (by decide), ← mask2 i 25165824 (3145728 ||| 61440) 16777216 (2097152 ||| 61440) (by decide) (by decide) (by decide) (by decide), ← mask2 i 201326592 (25165824 ||| (3145728 ||| 61440)) 0 (16777216 ||| (2097152 ||| 61440)) (by decide) (by decide) (by decide) (by decide)]
  exact Iff.rfl
set_option maxHeartbeats 1000000 in
theorem isSt (i : Int32) : (y_Model_isStatus i = true) ↔ (i &&& 229699584 = 18935808 ∧ (bt i (sh 25) = true ∨ i &&& 4080 = 0)) := by
  rw [← aS i, ← fm i 4 255 0 4080 0 (by decide) (by decide) (by decide) (by decide)]
  unfold y_Model_isStatus y_Model_isStatus_45 y_Model_isStatus_46
  simp only [fld1_1]
  by_cases h1 : (i >>> ((26 : Int32) &&& 31)) &&& 3 = 0 <;> simp only [h1, if_true, if_false, Bool.false_eq_true, false_and, true_and]
  by_cases h2 : (i >>> ((23 : Int32) &&& 31)) &&& 3 = 2 <;> simp only [h2, if_true, if_false, Bool.false_eq_true, false_and, true_and]
  by_cases h3 : (i >>> ((20 : Int32) &&& 31)) &&& 3 = 2 <;> simp only [h3, if_true, if_false, Bool.false_eq_true, false_and, true_and]
  by_cases h4 : (i >>> ((12 : Int32) &&& 31)) &&& 15 = 15 <;> simp only [h4, if_true, if_false, Bool.false_eq_true, false_and, true_and]
  by_cases h6 : (i >>> ((4 : Int32) &&& 31)) &&& 255 = 0 <;> simp only [h6, if_true, if_false, Bool.false_eq_true] <;> cases bt i (sh 25) <;> simp
set_option maxHeartbeats 1000000 in
theorem top_m (i : Int32) (t T : Int32) (hc : ∀ j, j < 32 → 32 ≤ sh 25 + j → bt t j = false) (hC : ∀ j, j < 32 → bt T j = (if j < sh 25 then false else bt t (j - sh 25))) : x_Bits_three i 25 = t ↔ i &&& 234881024 = T :=
  fld_mask i 25 7 t 234881024 T (by decide) hc (by decide) hC
section R
variable {σ : CS} {τ : MS}
set_option maxHeartbeats 1000000 in
theorem arm_norm (τ : MS) (i : Int32) : y_Model_arm τ i = (if (iu i 28) = 15 then y_Model_undefined τ else (if (y_Model_isSo τ (iu i 28)) = true then (if i &&& 268435440 = 19922704 then y_Model_exchange τ (y_Model_value τ (i &&& 15)) else (if i &&& 251658480 = 144 then y_Model_multiply τ i else (if i &&& 263196656 = 16777360 then y_Model_swap τ i else y_Model_arm_128 τ i))) else τ)) := by
  unfold y_Model_arm y_Model_arm_88
  rw [ite3, ite2]
  rw [ifc (a1 i) (ifc (a2 i) (ifc (a3 i) rfl))]
set_option maxHeartbeats 1000000 in
theorem arm_128_n (τ : MS) (i : Int32) : y_Model_arm_128 τ i = (if x_Bits_three i 25 = 0 ∧ i &&& 144 = 144 ∧ ¬ i &&& 96 = 0 then y_Model_halves τ i else (if i &&& 264179711 = 17760256 then (if bt i (sh 22) = true then y_Model_put τ (x_Bits_four i 12) (y_Model_kept τ) else y_Model_put τ (x_Bits_four i 12) (m_cpsr τ)) else y_Model_arm_225 τ i)) := by
  have e : y_Model_arm_159 τ i = (if i &&& 264179711 = 17760256 then (if bt i (sh 22) = true then y_Model_put τ (x_Bits_four i 12) (y_Model_kept τ) else y_Model_put τ (x_Bits_four i 12) (m_cpsr τ)) else y_Model_arm_225 τ i) := by
    unfold y_Model_arm_159
    rw [ite3, ifc (a5 i) rfl]
    simp only [fld1_1, f4_12]
  unfold y_Model_arm_128
  rw [e, f3 i 25 (by decide), f2 i 5 (by decide), ifn (a4 i), ite3]
set_option maxHeartbeats 1000000 in
theorem arm_P (h : Go σ τ) (ht : x_Registers_thumb σ = false) (i : Int32) : Pst (x_ArmSet_perform σ i) (y_Model_arm τ i) := by
  rw [arm_norm, arm_128_n]
  unfold x_ArmSet_perform x_ArmSet_perform_165
  have rg28 : rg (iu i 28) := by
    refine ⟨un (iu i 28), ?_, ?_⟩
    · rw [un_iu]
      have := i.toBitVec.isLt
      show i.toBitVec.toNat / 2 ^ 28 < 16
      omega
    · apply ext_nat
      rw [nI_bvn (by rw [un_iu]; have := i.toBitVec.isLt; show i.toBitVec.toNat / 2 ^ 28 < _; omega)]; rfl
  by_cases c15 : iu i 28 = 15
  · rw [if_pos c15, if_pos c15]; exact Pst.und h
  rw [if_neg c15, if_neg c15, fits_E h.1.1 rg28 c15]
  cases x_Registers_fits σ (iu i 28)
  · exact Pst.ok h.1
  simp only [if_true]
  have hv : y_Model_value τ (i &&& 15) = x_Registers_read σ (x_Bits_four i 0) := by rw [f4_0 i]; exact h.1.1.value (rg4 i 0)
  have top0 := top_m i 0 0 (by decide) (by decide)
  -- the last kinds of the model
  have t225 : y_Model_arm_225 τ i = (if (y_Model_isStatus i) = true then y_Model_toStatus τ i else (if 2 ≤ x_Bits_three i 25 then (if 4 ≤ x_Bits_three i 25 then (if x_Bits_three i 25 = 4 then y_Model_many τ (bt i (sh 20)) (x_Bits_four i 16) (i &&& 65535) (bt i (sh 23)) (bt i (sh 24)) (bt i (sh 21)) (bt i (sh 22)) else (if x_Bits_three i 25 = 5 then y_Model_branch τ i else (if ((i >>> ((24 : Int32) &&& 31)) &&& 15) = 15 then t_fault τ 1 else y_Model_undefined τ))) else y_Model_single τ i) else y_Model_data τ i)) := by
    unfold y_Model_arm_225
    simp only [f3 i 25 (by decide), fld1_1, Bool.decide_eq_true, f4_16]
  by_cases t0 : x_Bits_three i 25 = 0
  · rw [if_pos t0]
    have hm0 := top0.mp t0
    by_cases m1 : i &&& 268435440 = 19922704
    · rw [if_pos m1, if_pos m1, hv]; exact Pst.ok (exch_R1 h.1 _)
    rw [if_neg m1, if_neg m1]
    by_cases m2 : i &&& 251658480 = 144
    · rw [if_pos m2, if_pos m2]; exact mul_P h i
    rw [if_neg m2, if_neg m2]
    by_cases m3 : i &&& 263196656 = 16777360
    · rw [if_pos m3, if_pos m3]; exact swap_P h i
    rw [if_neg m3, if_neg m3]
    have rest : Pst (if (i &&& 264179711) = 17760256 then (x_ArmSet_readStatus σ i) else (if (i &&& 263258096) = 18935808 then (x_ArmSet_writeStatus σ i (x_Registers_read σ (x_Bits_four i 0))) else (x_ArmSet_data σ i))) (if i &&& 264179711 = 17760256 then (if bt i (sh 22) = true then y_Model_put τ (x_Bits_four i 12) (y_Model_kept τ) else y_Model_put τ (x_Bits_four i 12) (m_cpsr τ)) else y_Model_arm_225 τ i) := by
      by_cases m5 : i &&& 264179711 = 17760256
      · rw [if_pos m5, if_pos m5]; exact rst_P h i
      rw [if_neg m5, if_neg m5, t225, t0]
      have b25 : bt i (sh 25) = false := by
        have := congrArg (fun z => bt z 25) hm0
        simp only [bt_and, bt_zero] at this
        rw [show bt 234881024 25 = true by decide, Bool.and_true] at this
        exact this
      have st : (y_Model_isStatus i = true) ↔ i &&& 263258096 = 18935808 := by
        rw [isSt, b25]
        have h25 : i &&& 33554432 = 0 := mask_sub hm0 (by decide)
        have e1 := mask2 i 229699584 4080 18935808 0 (by decide) (by decide) (by decide) (by decide)
        have e2 := mask2 i (229699584 ||| 4080) 33554432 (18935808 ||| 0) 0 (by decide) (by decide) (by decide) (by decide)
        constructor
        · rintro ⟨ha, hb⟩
          rcases hb with hb | hb
          · exact absurd hb (by decide)
          · exact e2.mpr ⟨e1.mpr ⟨ha, hb⟩, h25⟩
        · intro hh
          have := e1.mp (e2.mp hh).1
          exact ⟨this.1, Or.inr this.2⟩
      by_cases m6 : i &&& 263258096 = 18935808
      · rw [if_pos m6, if_pos (st.mpr m6)]
        unfold y_Model_toStatus
        rw [if_neg (by rw [fld1_1, b25]; decide), hv]
        exact wst_P h i _
      · rw [if_neg m6, if_neg (fun e => m6 (st.mp e)), if_neg (by decide)]
        exact data_P h ht i
    by_cases m4 : i &&& 144 = 144
    · rw [if_pos m4]
      by_cases m4' : i &&& 96 = 0
      · rw [if_pos m4', if_neg (show ¬ (x_Bits_three i 25 = 0 ∧ i &&& 144 = 144 ∧ ¬ i &&& 96 = 0) from fun e => e.2.2 m4')]
        exact rest
      · rw [if_neg m4', if_pos ⟨t0, m4, m4'⟩]
        exact halves_P h ht i (fun e => m4' ((a4 i).mp e))
    · rw [if_neg m4, if_neg (show ¬ (x_Bits_three i 25 = 0 ∧ i &&& 144 = 144 ∧ ¬ i &&& 96 = 0) from fun e => m4 e.2.1)]
      exact rest
  · rw [if_neg t0]
    have n0 : ¬ i &&& 234881024 = 0 := fun e => t0 (top0.mpr e)
    rw [if_neg (show ¬ i &&& 268435440 = 19922704 from fun e => n0 (mask_sub e (by decide))), if_neg (show ¬ i &&& 251658480 = 144 from fun e => n0 (mask_sub e (by decide))), if_neg (show ¬ i &&& 263196656 = 16777360 from fun e => n0 (mask_sub e (by decide))), if_neg (show ¬ (x_Bits_three i 25 = 0 ∧ i &&& 144 = 144 ∧ ¬ i &&& 96 = 0) from fun e => t0 e.1), if_neg (show ¬ i &&& 264179711 = 17760256 from fun e => n0 (mask_sub e (by decide))), t225]
    obtain ⟨t, htt, et⟩ := andN (iu i 25) 7
    have htt : t < 8 := Nat.lt_succ_of_le htt
    have et : x_Bits_three i 25 = nI t := et
    by_cases t1 : t = 1
    · subst t1
      rw [et]
      rw [if_pos (by decide)]
      have hm1 : i &&& 234881024 = 33554432 := (top_m i 1 33554432 (by decide) (by decide)).mp et
      have b25 : bt i (sh 25) = true := by
        have := congrArg (fun z => bt z 25) hm1
        simp only [bt_and] at this
        rw [show bt 234881024 25 = true by decide, show bt 33554432 25 = true by decide, Bool.and_true] at this
        exact this
      have st : (y_Model_isStatus i = true) ↔ i &&& 263254016 = 52490240 := by
        rw [isSt, b25]
        have h25 : i &&& 33554432 = 33554432 := mask_sub hm1 (by decide)
        have e2 := mask2 i 229699584 33554432 18935808 33554432 (by decide) (by decide) (by decide) (by decide)
        constructor
        · rintro ⟨ha, -⟩
          exact e2.mpr ⟨ha, h25⟩
        · intro hh
          exact ⟨(e2.mp hh).1, Or.inl rfl⟩
      by_cases m6 : i &&& 263254016 = 52490240
      · rw [if_pos m6, if_pos (st.mpr m6)]
        unfold y_Model_toStatus
        rw [if_pos (by rw [fld1_1]; exact b25)]
        obtain ⟨r, c, e1, e2⟩ := turned_E h.1.1 i
        have e3 : ∃ z, x_Shifter_turnedNumber σ i 0 = (r, s_carry σ z) := by
          unfold x_Shifter_turnedNumber x_Shifter_shift at e1 ⊢
          revert e1
          split
          · intro e1
            exact ⟨0, by rw [(Prod.mk.inj e1).1]⟩
          · intro e1
            rw [if_pos rfl] at e1 ⊢
            exact ⟨_, e1⟩
        obtain ⟨z, e3⟩ := e3
        rw [e2, e3]
        exact wst_P (σ := s_carry σ z) (τ := t_carry τ c) h i r
      · rw [if_neg m6, if_neg (fun e => m6 (st.mp e)), if_neg (by decide)]
        exact data_P h ht i
    · have t0' : ¬ t = 0 := fun e => t0 (by rw [et, e]; rfl)
      have ns : ¬ y_Model_isStatus i = true := by
        rw [isSt]
        rintro ⟨ha, -⟩
        have h26 : i &&& 201326592 = 0 := mask_sub ha (by decide)
        have := (fld_mask i 26 3 0 201326592 0 (by decide) (by decide) (by decide) (by decide)).mpr h26
        have e2 : (iu i 25 &&& 7) &&& 6 = 0 := by
          have e3 : i &&& 234881024 &&& 201326592 = 0 := by rw [and_and32]; exact h26
          apply ext32; intro j hj
          rw [bt_and, bt_and, bt_iu, bt_zero, show sh 25 = 25 from rfl]
          by_cases hj6 : bt 6 j = true
          · have hj2 : j = 1 ∨ j = 2 := (by decide : ∀ j, j < 32 → bt 6 j = true → j = 1 ∨ j = 2) j hj hj6
            have h3 := congrArg (fun z => bt z (25 + j)) h26
            simp only [bt_and, bt_zero] at h3
            rcases hj2 with rfl | rfl
            · rw [show bt 201326592 (25 + 1) = true by decide, Bool.and_true] at h3; rw [h3]; rfl
            · rw [show bt 201326592 (25 + 2) = true by decide, Bool.and_true] at h3; rw [h3]; rfl
          · rw [Bool.eq_false_iff.mpr hj6, Bool.and_false]
        have et' : iu i 25 &&& 7 = nI t := et
        rw [et'] at e2
        exact absurd e2 ((by decide : ∀ t, t < 8 → ¬ t = 0 → ¬ t = 1 → ¬ nI t &&& 6 = 0) t htt t0' t1)
      rw [if_neg ns, et]
      rcases (show t = 2 ∨ t = 3 ∨ t = 4 ∨ t = 5 ∨ t = 6 ∨ t = 7 by omega) with rfl | rfl | rfl | rfl | rfl | rfl
      · rw [if_neg (by decide), if_pos (by decide), if_pos (by decide), if_neg (by decide)]; exact single_P h ht i
      · rw [if_neg (by decide), if_neg (by decide), if_pos (by decide), if_pos (by decide), if_neg (by decide)]; exact single_P h ht i
      · rw [if_neg (by decide), if_neg (by decide), if_neg (by decide), if_pos (by decide), if_pos (by decide), if_pos (by decide), if_pos (by decide)]
        exact many_P h rfl rfl rfl rfl rfl rfl rfl
      · rw [if_neg (by decide), if_neg (by decide), if_neg (by decide), if_neg (by decide), if_pos (by decide), if_pos (by decide), if_pos (by decide), if_neg (by decide), if_pos (by decide)]
        exact branch_P h ht i
      · have hm6 : i &&& 234881024 = 201326592 := (top_m i 6 201326592 (by decide) (by decide)).mp et
        rw [if_neg (by decide), if_neg (by decide), if_neg (by decide), if_neg (by decide), if_neg (by decide), if_neg (by decide), if_pos (by decide), if_pos (by decide), if_neg (by decide), if_neg (by decide), if_neg]
        · exact Pst.und h
        · rw [fm i 24 15 15 251658240 251658240 (by decide) (by decide) (by decide) (by decide)]
          intro e
          have := mask_sub (N := 234881024) e (by decide)
          rw [hm6] at this
          exact absurd this (by decide)
      · have hm7 : i &&& 234881024 = 234881024 := (top_m i 7 234881024 (by decide) (by decide)).mp et
        have e24 : ((i >>> ((24 : Int32) &&& 31)) &&& 15 = 15) ↔ bt i (sh 24) = true := by
          rw [fm i 24 15 15 251658240 251658240 (by decide) (by decide) (by decide) (by decide)]
          have e2 := mask2 i 234881024 16777216 234881024 16777216 (by decide) (by decide) (by decide) (by decide)
          rw [show (251658240 : Int32) = 234881024 ||| 16777216 by decide, e2]
          have e3 := fm i 24 1 1 16777216 16777216 (by decide) (by decide) (by decide) (by decide)
          rw [← e3, fld1_1]
          exact ⟨fun h => h.2, fun h => ⟨hm7, h⟩⟩
        rw [if_neg (by decide), if_neg (by decide), if_neg (by decide), if_neg (by decide), if_neg (by decide), if_pos (by decide), on_bt]
        rw [if_pos (show (2 : Int32) ≤ nI 7 by decide), if_pos (show (4 : Int32) ≤ nI 7 by decide), if_neg (show ¬ nI 7 = 4 by decide), if_neg (show ¬ nI 7 = 5 by decide)]
        cases hb : bt i (sh 24)
        · rw [if_neg (by decide), if_neg (fun e => by have := e24.mp e; rw [hb] at this; exact absurd this (by decide))]
          exact Pst.und h
        · rw [if_pos rfl, if_pos (e24.mpr hb)]
          exact Pst.swi h
end R
