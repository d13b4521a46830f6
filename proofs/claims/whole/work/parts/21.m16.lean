def y_Model_is (σ : MS) (v0 : Int32) : Bool := (if (((m_cpsr σ) >>> (v0 &&& 31)) &&& 1) = 1 then true else false)
set_option maxRecDepth 20000 in
set_option maxHeartbeats 4000000 in
theorem cy_Model_is (l : Launch) (G : KG) (σ : MS) (v0 : Int32) : KB l yX11_is (Cond.code yX11_is cX11_is 2 (some .boolean) :: lw_all) (kr 0) (gD G) vwCl (gT G) (mZ G) (mW G) [.ref (gA G 20), .int v0] σ (b01 (y_Model_is σ v0), σ) := by
  refine kc_in_y (q := y_Model_is σ v0) (by decide) rfl (Nat.le_of_ble_eq_true rfl) ?_
  intro p e s m args below meth c A Q ls hx hb hml hown hts hK hP hD hA hS hZ hl hret
  have hts := fun w h => hts w (List.mem_cons_of_mem _ h)
  have hl : lv_has ls 2 [(0, .ref (gA G 20)), (1, .int v0)] := hl
  have hf : y_Model_is σ v0 = y_Model_is σ v0 := rfl
  refine lv_aload_n hx hb dX11_is_0 rfl (lv_at hl 0 rfl) ?_
  refine va_get (D := gD G) (ci := 9) hx hb hts ku_11 hown hK hP 0 rfl rfl 4 (by decide) (hts _ kw_109) (fun _ h9 => h9) rfl dX11_is_1 ?_
  refine lv_iload_n hx hb dX11_is_4 rfl (lv_at hl 1 rfl) ?_
  refine lv_ishr hx hb dX11_is_5 ?_
  refine lv_iconst (v := 1) hx hb dX11_is_6 (by decide) ?_
  refine lv_iand hx hb dX11_is_7 ?_
  refine lv_iconst (v := 1) hx hb dX11_is_8 (by decide) ?_
  refine lv_icmp_ne (tgt := 16) hx hb dX11_is_9 (by decide) (fun h_2 => ?_) (fun h_2 => ?_)
  · have hf := hf.trans (if_neg h_2)
    refine lv_iconst (v := 0) hx hb dX11_is_16 (by decide) ?_
    exact hret false _ _ _ _ hf hP hD hS dX11_is_17
  · have hf := hf.trans (if_pos h_2)
    refine lv_iconst (v := 1) hx hb dX11_is_12 (by decide) ?_
    refine lv_goto (tgt := 17) hx hb dX11_is_13 (by decide) ?_
    exact hret true _ _ _ _ hf hP hD hS dX11_is_17
