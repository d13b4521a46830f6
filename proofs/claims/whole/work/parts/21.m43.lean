def y_Model_wordAt (σ : MS) (v0 : Int32) : Int32 := (if (8 * (v0 - v0 / 4 * 4)) = 0 then m_memory σ (v0 / 4).toNatClampNeg else (iu (m_memory σ (v0 / 4).toNatClampNeg) (8 * (v0 - v0 / 4 * 4))) ||| ((m_memory σ (v0 / 4).toNatClampNeg) <<< ((32 - (8 * (v0 - v0 / 4 * 4))) &&& 31)))
set_option maxRecDepth 20000 in
set_option maxHeartbeats 4000000 in
theorem cy_Model_wordAt (l : Launch) (G : KG) (σ : MS) (v0 : Int32) (hv0 : vp_in v0 262144) : KB l yX11_wordAt (Cond.code yX11_wordAt cX11_wordAt 4 (some .int) :: lw_all) (kr 0) (gD G) vwCl (gT G) (mZ G) (mW G) [.ref (gA G 20), .int v0] σ (y_Model_wordAt σ v0, σ) := by
  refine kc_in_r (q := y_Model_wordAt σ v0) (by decide) rfl (Nat.le_of_ble_eq_true rfl) ?_
  intro p e s m args below meth c A Q ls hx hb hml hown hts hK hP hD hA hS hZ hl hret
  have hts := fun w h => hts w (List.mem_cons_of_mem _ h)
  have hl : lv_has ls 4 [(0, .ref (gA G 20)), (1, .int v0)] := hl
  have hf : y_Model_wordAt σ v0 = y_Model_wordAt σ v0 := rfl
  refine lv_aload_n hx hb dX11_wordAt_0 rfl (lv_at hl 0 rfl) ?_
  refine va_get (D := gD G) (ci := 9) hx hb hts ku_11 hown hK hP 0 rfl rfl 1 (by decide) (hts _ kw_106) (fun _ h9 => h9) rfl dX11_wordAt_1 ?_
  refine lv_iload_n hx hb dX11_wordAt_4 rfl (lv_at hl 1 rfl) ?_
  refine lv_iconst (v := 4) hx hb dX11_wordAt_5 (by decide) ?_
  refine lv_idiv hx hb dX11_wordAt_6 (by decide) ?_
  refine va_iald hx hb hK hP 1 0 rfl rfl (dv_in hv0) dX11_wordAt_7 ?_
  refine lv_istore_n (lv' := [(2, .int (m_memory σ (v0 / 4).toNatClampNeg)), (0, .ref (gA G 20)), (1, .int v0)]) hx hb dX11_wordAt_8 rfl hl (by decide) rfl (fun ls hl => ?_)
  refine lv_bipush (v := 8) hx hb dX11_wordAt_9 (by decide) ?_
  refine lv_iload_n hx hb dX11_wordAt_11 rfl (lv_at hl 2 rfl) ?_
  refine lv_iconst (v := 4) hx hb dX11_wordAt_12 (by decide) ?_
  refine lv_irem hx hb dX11_wordAt_13 (by decide) ?_
  refine lv_imul hx hb dX11_wordAt_14 ?_
  refine lv_istore_n (lv' := [(3, .int (8 * (v0 - v0 / 4 * 4))), (2, .int (m_memory σ (v0 / 4).toNatClampNeg)), (0, .ref (gA G 20)), (1, .int v0)]) hx hb dX11_wordAt_15 rfl hl (by decide) rfl (fun ls hl => ?_)
  refine lv_iload_n hx hb dX11_wordAt_16 rfl (lv_at hl 0 rfl) ?_
  refine lv_if_ne (tgt := 24) hx hb dX11_wordAt_17 (by decide) (fun h_2 => ?_) (fun h_2 => ?_)
  · have hf := hf.trans (if_neg h_2)
    refine lv_iload_n hx hb dX11_wordAt_24 rfl (lv_at hl 1 rfl) ?_
    refine lv_iload_n hx hb dX11_wordAt_25 rfl (lv_at hl 0 rfl) ?_
    refine lv_iushr (v := iu (m_memory σ (v0 / 4).toNatClampNeg) (8 * (v0 - v0 / 4 * 4))) hx hb dX11_wordAt_26 rfl ?_
    refine lv_iload_n hx hb dX11_wordAt_27 rfl (lv_at hl 1 rfl) ?_
    refine lv_bipush (v := 32) hx hb dX11_wordAt_28 (by decide) ?_
    refine lv_iload_n hx hb dX11_wordAt_30 rfl (lv_at hl 0 rfl) ?_
    refine lv_isub hx hb dX11_wordAt_31 ?_
    refine lv_ishl hx hb dX11_wordAt_32 ?_
    refine lv_ior hx hb dX11_wordAt_33 ?_
    exact hret ((iu (m_memory σ (v0 / 4).toNatClampNeg) (8 * (v0 - v0 / 4 * 4))) ||| ((m_memory σ (v0 / 4).toNatClampNeg) <<< ((32 - (8 * (v0 - v0 / 4 * 4))) &&& 31))) _ _ _ _ hf hP hD hS dX11_wordAt_34
  · have hf := hf.trans (if_pos h_2)
    refine lv_iload_n hx hb dX11_wordAt_20 rfl (lv_at hl 1 rfl) ?_
    refine lv_goto (tgt := 34) hx hb dX11_wordAt_21 (by decide) ?_
    exact hret (m_memory σ (v0 / 4).toNatClampNeg) _ _ _ _ hf hP hD hS dX11_wordAt_34
