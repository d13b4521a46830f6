def y_Model_byteAt (σ : MS) (v0 : Int32) : Int32 := ((m_memory σ (v0 / 4).toNatClampNeg) >>> ((8 * (v0 - v0 / 4 * 4)) &&& 31)) &&& 255
set_option maxRecDepth 20000 in
set_option maxHeartbeats 4000000 in
theorem cy_Model_byteAt (l : Launch) (G : KG) (σ : MS) (v0 : Int32) (hv0 : vp_in v0 262144) : KB l yX11_byteAt (Cond.code yX11_byteAt cX11_byteAt 2 (some .int) :: lw_all) (kr 0) (gD G) vwCl (gT G) (mZ G) (mW G) [.ref (gA G 20), .int v0] σ (y_Model_byteAt σ v0, σ) := by
  refine kc_in_r (q := y_Model_byteAt σ v0) (by decide) rfl (Nat.le_of_ble_eq_true rfl) ?_
  intro p e s m args below meth c A Q ls hx hb hml hown hts hK hP hD hA hS hZ hl hret
  have hts := fun w h => hts w (List.mem_cons_of_mem _ h)
  have hl : lv_has ls 2 [(0, .ref (gA G 20)), (1, .int v0)] := hl
  have hf : y_Model_byteAt σ v0 = y_Model_byteAt σ v0 := rfl
  refine lv_aload_n hx hb dX11_byteAt_0 rfl (lv_at hl 0 rfl) ?_
  refine va_get (D := gD G) (ci := 9) hx hb hts ku_11 hown hK hP 0 rfl rfl 1 (by decide) (hts _ kw_106) (fun _ h9 => h9) rfl dX11_byteAt_1 ?_
  refine lv_iload_n hx hb dX11_byteAt_4 rfl (lv_at hl 1 rfl) ?_
  refine lv_iconst (v := 4) hx hb dX11_byteAt_5 (by decide) ?_
  refine lv_idiv hx hb dX11_byteAt_6 (by decide) ?_
  refine va_iald hx hb hK hP 1 0 rfl rfl (dv_in hv0) dX11_byteAt_7 ?_
  refine lv_bipush (v := 8) hx hb dX11_byteAt_8 (by decide) ?_
  refine lv_iload_n hx hb dX11_byteAt_10 rfl (lv_at hl 1 rfl) ?_
  refine lv_iconst (v := 4) hx hb dX11_byteAt_11 (by decide) ?_
  refine lv_irem hx hb dX11_byteAt_12 (by decide) ?_
  refine lv_imul hx hb dX11_byteAt_13 ?_
  refine lv_ishr hx hb dX11_byteAt_14 ?_
  refine lv_sipush (v := 255) hx hb dX11_byteAt_15 (by decide) ?_
  refine lv_iand hx hb dX11_byteAt_18 ?_
  exact hret (((m_memory σ (v0 / 4).toNatClampNeg) >>> ((8 * (v0 - v0 / 4 * 4)) &&& 31)) &&& 255) _ _ _ _ hf hP hD hS dX11_byteAt_19
