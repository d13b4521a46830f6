def y_Model_halfAt (σ : MS) (v0 : Int32) : Int32 := ((m_memory σ (v0 / 4).toNatClampNeg) >>> ((8 * (v0 &&& 2)) &&& 31)) &&& 65535
set_option maxRecDepth 20000 in
set_option maxHeartbeats 4000000 in
theorem cy_Model_halfAt (l : Launch) (G : KG) (σ : MS) (v0 : Int32) (hv0 : vp_in v0 262144) : KB l yX11_halfAt (Cond.code yX11_halfAt cX11_halfAt 2 (some .int) :: lw_all) (kr 0) (gD G) vwCl (gT G) (mZ G) (mW G) [.ref (gA G 20), .int v0] σ (y_Model_halfAt σ v0, σ) := by
  refine kc_in_r (q := y_Model_halfAt σ v0) (by decide) rfl (Nat.le_of_ble_eq_true rfl) ?_
  intro p e s m args below meth c A Q ls hx hb hml hown hts hK hP hD hA hS hZ hl hret
  have hts := fun w h => hts w (List.mem_cons_of_mem _ h)
  have hl : lv_has ls 2 [(0, .ref (gA G 20)), (1, .int v0)] := hl
  have hf : y_Model_halfAt σ v0 = y_Model_halfAt σ v0 := rfl
  refine lv_aload_n hx hb dX11_halfAt_0 rfl (lv_at hl 0 rfl) ?_
  refine va_get (D := gD G) (ci := 9) hx hb hts ku_11 hown hK hP 0 rfl rfl 1 (by decide) (hts _ kw_106) (fun _ h9 => h9) rfl dX11_halfAt_1 ?_
  refine lv_iload_n hx hb dX11_halfAt_4 rfl (lv_at hl 1 rfl) ?_
  refine lv_iconst (v := 4) hx hb dX11_halfAt_5 (by decide) ?_
  refine lv_idiv hx hb dX11_halfAt_6 (by decide) ?_
  refine va_iald hx hb hK hP 1 0 rfl rfl (dv_in hv0) dX11_halfAt_7 ?_
  refine lv_bipush (v := 8) hx hb dX11_halfAt_8 (by decide) ?_
  refine lv_iload_n hx hb dX11_halfAt_10 rfl (lv_at hl 1 rfl) ?_
  refine lv_iconst (v := 2) hx hb dX11_halfAt_11 (by decide) ?_
  refine lv_iand hx hb dX11_halfAt_12 ?_
  refine lv_imul hx hb dX11_halfAt_13 ?_
  refine lv_ishr hx hb dX11_halfAt_14 ?_
  refine lv_ldc (v := 65535) hx hb hown (hts _ kw_744) dX11_halfAt_15 ?_
  refine lv_iand hx hb dX11_halfAt_17 ?_
  exact hret (((m_memory σ (v0 / 4).toNatClampNeg) >>> ((8 * (v0 &&& 2)) &&& 31)) &&& 65535) _ _ _ _ hf hP hD hS dX11_halfAt_18
