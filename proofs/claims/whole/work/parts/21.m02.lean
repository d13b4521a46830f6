def y_Model_fail (σ : MS) (v0 : Int32) : Int32 × MS := (0, t_thrown σ v0)
set_option maxRecDepth 20000 in
set_option maxHeartbeats 4000000 in
theorem cy_Model_fail (l : Launch) (G : KG) (σ : MS) (v0 : Int32) : KB l yX11_fail (Cond.code yX11_fail cX11_fail 2 (some .int) :: lw_all) (kr 0) (gD G) vwCl (gT G) (mZ G) (mW G) [.ref (gA G 20), .int v0] σ (y_Model_fail σ v0) := by
  refine kc_in_b (q := y_Model_fail σ v0) (by decide) rfl (Nat.le_of_ble_eq_true rfl) ?_
  intro p e s m args below meth c A Q ls hx hb hml hown hts hK hP hD hA hS hZ hl hret
  have hts := fun w h => hts w (List.mem_cons_of_mem _ h)
  have hl : lv_has ls 2 [(0, .ref (gA G 20)), (1, .int v0)] := hl
  have hf : y_Model_fail σ v0 = y_Model_fail σ v0 := rfl
  refine lv_aload_n hx hb dX11_fail_0 rfl (lv_at hl 0 rfl) ?_
  refine lv_iload_n hx hb dX11_fail_1 rfl (lv_at hl 1 rfl) ?_
  refine va_put (D := gD G) (ci := 9) (v := .int v0) (ty := .int) hx hb hts ku_11 tyX11 tyX11_ok nmX11 hown hK hP hD hS 0 rfl rfl 0 (by decide) (hts _ kw_149) (fun _ h9 => h9) rfl (tyX11_ok 0 (by decide)) rfl rfl (Nat.le_of_ble_eq_true rfl) dX11_fail_2 (fun H locs hP hD hS => ?_)
  have hP := kP_eq (mWs_thrown G σ v0) hP
  have hD := kD_eq (mWs_thrown G σ v0) hD
  refine lv_iconst (v := 0) hx hb dX11_fail_5 (by decide) ?_
  exact hret 0 (t_thrown σ v0) _ _ _ _ hf hP hD hS dX11_fail_6
