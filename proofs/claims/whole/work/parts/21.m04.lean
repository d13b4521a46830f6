def y_Model_bank (v0 : Int32) : Int32 := (if v0 = 17 then 0 else (if v0 = 18 then 1 else (if v0 = 19 then 2 else (if v0 = 23 then 3 else (if v0 = 27 then 4 else (if v0 = 16 then 5 else (if v0 = 31 then 5 else (-1))))))))
set_option maxRecDepth 20000 in
set_option maxHeartbeats 4000000 in
theorem cy_Model_bank (l : Launch) (v0 : Int32) : KPi l yX11_bank (Cond.code yX11_bank cX11_bank 1 (some .int) :: lw_all) (kr 0) [.int v0] (y_Model_bank v0) := by
  refine kp_in_i (q := y_Model_bank v0) (by decide) rfl (Nat.le_of_ble_eq_true rfl) ?_
  intro p e s m args below meth c Q ls hx hb hml hown hts hl hret
  have hts := fun w h => hts w (List.mem_cons_of_mem _ h)
  have hl : lv_has ls 1 [(0, .int v0)] := hl
  have hf : y_Model_bank v0 = y_Model_bank v0 := rfl
  refine lv_iload_n hx hb dX11_bank_0 rfl (lv_at hl 0 rfl) ?_
  refine lv_bipush (v := 17) hx hb dX11_bank_1 (by decide) ?_
  refine lv_icmp_ne (tgt := 10) hx hb dX11_bank_3 (by decide) (fun h_8 => ?_) (fun h_8 => ?_)
  · have hf := hf.trans (if_neg h_8)
    refine lv_iload_n hx hb dX11_bank_10 rfl (lv_at hl 0 rfl) ?_
    refine lv_bipush (v := 18) hx hb dX11_bank_11 (by decide) ?_
    refine lv_icmp_ne (tgt := 20) hx hb dX11_bank_13 (by decide) (fun h_9 => ?_) (fun h_9 => ?_)
    · have hf := hf.trans (if_neg h_9)
      refine lv_iload_n hx hb dX11_bank_20 rfl (lv_at hl 0 rfl) ?_
      refine lv_bipush (v := 19) hx hb dX11_bank_21 (by decide) ?_
      refine lv_icmp_ne (tgt := 30) hx hb dX11_bank_23 (by decide) (fun h_10 => ?_) (fun h_10 => ?_)
      · have hf := hf.trans (if_neg h_10)
        refine lv_iload_n hx hb dX11_bank_30 rfl (lv_at hl 0 rfl) ?_
        refine lv_bipush (v := 23) hx hb dX11_bank_31 (by decide) ?_
        refine lv_icmp_ne (tgt := 40) hx hb dX11_bank_33 (by decide) (fun h_11 => ?_) (fun h_11 => ?_)
        · have hf := hf.trans (if_neg h_11)
          refine lv_iload_n hx hb dX11_bank_40 rfl (lv_at hl 0 rfl) ?_
          refine lv_bipush (v := 27) hx hb dX11_bank_41 (by decide) ?_
          refine lv_icmp_ne (tgt := 50) hx hb dX11_bank_43 (by decide) (fun h_12 => ?_) (fun h_12 => ?_)
          · have hf := hf.trans (if_neg h_12)
            refine lv_iload_n hx hb dX11_bank_50 rfl (lv_at hl 0 rfl) ?_
            refine lv_bipush (v := 16) hx hb dX11_bank_51 (by decide) ?_
            refine lv_icmp_eq (tgt := 62) hx hb dX11_bank_53 (by decide) (fun h_13 => ?_) (fun h_13 => ?_)
            · have hf := hf.trans (if_pos h_13)
              refine lv_iconst (v := 5) hx hb dX11_bank_62 (by decide) ?_
              refine lv_goto (tgt := 67) hx hb dX11_bank_63 (by decide) ?_
              exact hret 5 _ _ hf dX11_bank_67
            · have hf := hf.trans (if_neg h_13)
              refine lv_iload_n hx hb dX11_bank_56 rfl (lv_at hl 0 rfl) ?_
              refine lv_bipush (v := 31) hx hb dX11_bank_57 (by decide) ?_
              refine lv_icmp_ne (tgt := 66) hx hb dX11_bank_59 (by decide) (fun h_14 => ?_) (fun h_14 => ?_)
              · have hf := hf.trans (if_neg h_14)
                refine lv_iconst (v := (-1)) hx hb dX11_bank_66 (by decide) ?_
                exact hret (-1) _ _ hf dX11_bank_67
              · have hf := hf.trans (if_pos h_14)
                refine lv_iconst (v := 5) hx hb dX11_bank_62 (by decide) ?_
                refine lv_goto (tgt := 67) hx hb dX11_bank_63 (by decide) ?_
                exact hret 5 _ _ hf dX11_bank_67
          · have hf := hf.trans (if_pos h_12)
            refine lv_iconst (v := 4) hx hb dX11_bank_46 (by decide) ?_
            refine lv_goto (tgt := 67) hx hb dX11_bank_47 (by decide) ?_
            exact hret 4 _ _ hf dX11_bank_67
        · have hf := hf.trans (if_pos h_11)
          refine lv_iconst (v := 3) hx hb dX11_bank_36 (by decide) ?_
          refine lv_goto (tgt := 67) hx hb dX11_bank_37 (by decide) ?_
          exact hret 3 _ _ hf dX11_bank_67
      · have hf := hf.trans (if_pos h_10)
        refine lv_iconst (v := 2) hx hb dX11_bank_26 (by decide) ?_
        refine lv_goto (tgt := 67) hx hb dX11_bank_27 (by decide) ?_
        exact hret 2 _ _ hf dX11_bank_67
    · have hf := hf.trans (if_pos h_9)
      refine lv_iconst (v := 1) hx hb dX11_bank_16 (by decide) ?_
      refine lv_goto (tgt := 67) hx hb dX11_bank_17 (by decide) ?_
      exact hret 1 _ _ hf dX11_bank_67
  · have hf := hf.trans (if_pos h_8)
    refine lv_iconst (v := 0) hx hb dX11_bank_6 (by decide) ?_
    refine lv_goto (tgt := 67) hx hb dX11_bank_7 (by decide) ?_
    exact hret 0 _ _ hf dX11_bank_67
def okm (m : Int32) : Prop := m = 17 ∨ m = 18 ∨ m = 19 ∨ m = 23 ∨ m = 27 ∨ m = 16 ∨ m = 31
def m5 (m : Int32) : Prop := m = 27 ∨ m = 19 ∨ m = 23 ∨ m = 18 ∨ m = 17
theorem bank_ok {m : Int32} (h : ¬ y_Model_bank m < 0) : okm m := by
  revert h
  unfold y_Model_bank okm
  repeat' split
  all_goals first | (intro _; simp only [*, true_or, or_true]; done) | (intro h; exact absurd (by decide) h)
theorem bank_ok2 {m : Int32} (h : 0 ≤ y_Model_bank m) : okm m := bank_ok (Int32.not_lt.mpr h)
theorem bank_cases (m : Int32) : y_Model_bank m = (-1) ∨ y_Model_bank m = 0 ∨ y_Model_bank m = 1 ∨ y_Model_bank m = 2 ∨ y_Model_bank m = 3 ∨ y_Model_bank m = 4 ∨ y_Model_bank m = 5 := by
  unfold y_Model_bank
  repeat' split
  all_goals decide
theorem okm_bank {m : Int32} (h : okm m) : vp_in (y_Model_bank m) 6 := by
  rcases h with rfl | rfl | rfl | rfl | rfl | rfl | rfl <;> (unfold vp_in; decide +kernel)
theorem m5_bank {m : Int32} (h : m5 m) : vp_in (y_Model_bank m) 5 := by
  rcases h with rfl | rfl | rfl | rfl | rfl <;> (unfold vp_in; decide +kernel)
theorem okM_of {v : Int32} (h : okm (v &&& 31)) : okM v := h
theorem okm_of {v : Int32} (h : okM v) : okm (v &&& 31) := h
theorem okm_31 {m : Int32} (h : okm m) : m &&& 31 = m := by
  rcases h with rfl | rfl | rfl | rfl | rfl | rfl | rfl <;> decide
theorem m5_okm {m : Int32} (h : m5 m) : okm m := by
  rcases h with rfl | rfl | rfl | rfl | rfl <;> (unfold okm; decide)
theorem i_or_and (a b c : Int32) : (a ||| b) &&& c = (a &&& c) ||| (b &&& c) := by
  apply Int32.toBitVec_inj.mp
  simp only [Int32.toBitVec_or, Int32.toBitVec_and]
  exact BitVec.and_or_distrib_right
theorem i_and_assoc (a b c : Int32) : (a &&& b) &&& c = a &&& (b &&& c) := by
  apply Int32.toBitVec_inj.mp
  simp only [Int32.toBitVec_and]
  exact BitVec.and_assoc _ _ _
theorem i_and_0 (a : Int32) : a &&& 0 = 0 := by
  apply Int32.toBitVec_inj.mp
  simp
theorem i_0_or (a : Int32) : 0 ||| a = a := by
  apply Int32.toBitVec_inj.mp
  simp
theorem i_or_0 (a : Int32) : a ||| 0 = a := by
  apply Int32.toBitVec_inj.mp
  simp
/-- a mode beside other bits -/
theorem okM_put {x m : Int32} (hm : okm m) (hx : x &&& 31 = 0) : okM (x ||| m) := by
  apply okM_of
  rw [i_or_and, hx, i_0_or, okm_31 hm]
  exact hm
theorem okM_keep {v w : Int32} (hw : okM w) (h : v &&& 31 = w &&& 31) : okM v := okM_of (by rw [h]; exact okm_of hw)
theorem m32_31 (x : Int32) : (x &&& (-32)) &&& 31 = 0 := by
  rw [i_and_assoc, show ((-32 : Int32) &&& 31) = 0 by decide, i_and_0]
theorem okM_st {x m : Int32} (hm : okm m) : okM ((x &&& (-32)) ||| m) := okM_put hm (m32_31 x)
theorem okM_e1 {x m : Int32} (hm : m5 m) : okM (((x &&& (-64)) ||| 128) ||| m) := okM_put (m5_okm hm) (by
  rw [i_or_and, i_and_assoc, show ((-64 : Int32) &&& 31) = 0 by decide, i_and_0, show ((128 : Int32) &&& 31) = 0 by decide, i_0_or])
theorem okM_or {w x : Int32} (hw : okM w) (hx : x &&& 31 = 0) : okM (w ||| x) := okM_keep hw (by rw [i_or_and, hx, i_or_0])
theorem okM_and {w x : Int32} (hw : okM w) (hx : x &&& 31 = 31) : okM (w &&& x) := okM_keep hw (by rw [i_and_assoc, hx])
theorem m_ok (τ : MS) : okM (m_cpsr τ) := okM_fix _
theorem okM_64 (τ : MS) : okM (m_cpsr τ ||| 64) := okM_or (m_ok τ) (by decide)
theorem okM_32 (τ : MS) : okM (m_cpsr τ ||| 32) := okM_or (m_ok τ) (by decide)
theorem okM_33 (τ : MS) : okM (m_cpsr τ &&& (-33)) := okM_and (m_ok τ) (by decide)
theorem fixF_c {v : Int32} (h : fixF v = v) : v = fixF v := h.symm
theorem m_fault_in {τ : MS} (h : ¬ m_fault τ < 0) : vp_in (m_fault τ) 6 := fixF_in h
def lo0 (v : Int32) : Prop := v &&& 31 = 0
