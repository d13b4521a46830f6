def y_Model_thrown (σ : MS) : Int32 := m_thrown σ
set_option maxRecDepth 20000 in
set_option maxHeartbeats 4000000 in
theorem cy_Model_thrown (l : Launch) (G : KG) (σ : MS) : KB l yX11_thrown (Cond.code yX11_thrown cX11_thrown 1 (some .int) :: lw_all) (kr 0) (gD G) vwCl (gT G) (mZ G) (mW G) [.ref (gA G 20)] σ (y_Model_thrown σ, σ) := by
  refine kc_in_r (q := y_Model_thrown σ) (by decide) rfl (Nat.le_of_ble_eq_true rfl) ?_
  intro p e s m args below meth c A Q ls hx hb hml hown hts hK hP hD hA hS hZ hl hret
  have hts := fun w h => hts w (List.mem_cons_of_mem _ h)
  have hl : lv_has ls 1 [(0, .ref (gA G 20))] := hl
  have hf : y_Model_thrown σ = y_Model_thrown σ := rfl
  refine lv_aload_n hx hb dX11_thrown_0 rfl (lv_at hl 0 rfl) ?_
  refine va_get (D := gD G) (ci := 9) hx hb hts ku_11 hown hK hP 0 rfl rfl 0 (by decide) (hts _ kw_149) (fun _ h9 => h9) rfl dX11_thrown_1 ?_
  exact hret (m_thrown σ) _ _ _ _ hf hP hD hS dX11_thrown_4
