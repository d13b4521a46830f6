def y_Model_mode (σ : MS) : Int32 := (m_cpsr σ) &&& 31
set_option maxRecDepth 20000 in
set_option maxHeartbeats 4000000 in
theorem cy_Model_mode (l : Launch) (G : KG) (σ : MS) : KB l yX11_mode (Cond.code yX11_mode cX11_mode 1 (some .int) :: lw_all) (kr 0) (gD G) vwCl (gT G) (mZ G) (mW G) [.ref (gA G 20)] σ (y_Model_mode σ, σ) := by
  refine kc_in_r (q := y_Model_mode σ) (by decide) rfl (Nat.le_of_ble_eq_true rfl) ?_
  intro p e s m args below meth c A Q ls hx hb hml hown hts hK hP hD hA hS hZ hl hret
  have hts := fun w h => hts w (List.mem_cons_of_mem _ h)
  have hl : lv_has ls 1 [(0, .ref (gA G 20))] := hl
  have hf : y_Model_mode σ = y_Model_mode σ := rfl
  refine lv_aload_n hx hb dX11_mode_0 rfl (lv_at hl 0 rfl) ?_
  refine va_get (D := gD G) (ci := 9) hx hb hts ku_11 hown hK hP 0 rfl rfl 4 (by decide) (hts _ kw_109) (fun _ h9 => h9) rfl dX11_mode_1 ?_
  refine lv_bipush (v := 31) hx hb dX11_mode_4 (by decide) ?_
  refine lv_iand hx hb dX11_mode_6 ?_
  exact hret ((m_cpsr σ) &&& 31) _ _ _ _ hf hP hD hS dX11_mode_7
theorem md_ok (τ : MS) : okm (y_Model_mode τ) := okm_of (m_ok τ)
