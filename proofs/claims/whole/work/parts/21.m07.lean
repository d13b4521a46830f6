def y_Model_isThumb (σ : MS) : Bool := (if ((m_cpsr σ) &&& 32) = 0 then false else true)
set_option maxRecDepth 20000 in
set_option maxHeartbeats 4000000 in
theorem cy_Model_isThumb (l : Launch) (G : KG) (σ : MS) : KB l yX11_isThumb (Cond.code yX11_isThumb cX11_isThumb 1 (some .boolean) :: lw_all) (kr 0) (gD G) vwCl (gT G) (mZ G) (mW G) [.ref (gA G 20)] σ (b01 (y_Model_isThumb σ), σ) := by
  refine kc_in_y (q := y_Model_isThumb σ) (by decide) rfl (Nat.le_of_ble_eq_true rfl) ?_
  intro p e s m args below meth c A Q ls hx hb hml hown hts hK hP hD hA hS hZ hl hret
  have hts := fun w h => hts w (List.mem_cons_of_mem _ h)
  have hl : lv_has ls 1 [(0, .ref (gA G 20))] := hl
  have hf : y_Model_isThumb σ = y_Model_isThumb σ := rfl
  refine lv_aload_n hx hb dX11_isThumb_0 rfl (lv_at hl 0 rfl) ?_
  refine va_get (D := gD G) (ci := 9) hx hb hts ku_11 hown hK hP 0 rfl rfl 4 (by decide) (hts _ kw_109) (fun _ h9 => h9) rfl dX11_isThumb_1 ?_
  refine lv_bipush (v := 32) hx hb dX11_isThumb_4 (by decide) ?_
  refine lv_iand hx hb dX11_isThumb_6 ?_
  refine lv_if_eq (tgt := 14) hx hb dX11_isThumb_7 (by decide) (fun h_2 => ?_) (fun h_2 => ?_)
  · have hf := hf.trans (if_pos h_2)
    refine lv_iconst (v := 0) hx hb dX11_isThumb_14 (by decide) ?_
    exact hret false _ _ _ _ hf hP hD hS dX11_isThumb_15
  · have hf := hf.trans (if_neg h_2)
    refine lv_iconst (v := 1) hx hb dX11_isThumb_10 (by decide) ?_
    refine lv_goto (tgt := 15) hx hb dX11_isThumb_11 (by decide) ?_
    exact hret true _ _ _ _ hf hP hD hS dX11_isThumb_15
