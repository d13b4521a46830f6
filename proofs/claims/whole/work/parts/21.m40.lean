def y_Model_undefined (σ : MS) : MS := t_fault σ 0
set_option maxRecDepth 20000 in
set_option maxHeartbeats 4000000 in
theorem cy_Model_undefined (l : Launch) (G : KG) (σ : MS) : KV l yX11_undefined (Cond.code yX11_undefined cX11_undefined 1 none :: lw_all) (kr 0) (gD G) vwCl (gT G) (mZ G) (mW G) [.ref (gA G 20)] σ (y_Model_undefined σ) := by
  refine kc_in_v (q := y_Model_undefined σ) (by decide) rfl (Nat.le_of_ble_eq_true rfl) ?_
  intro p e s m args below meth c A Q ls hx hb hml hown hts hK hP hD hA hS hZ hl hret
  have hts := fun w h => hts w (List.mem_cons_of_mem _ h)
  have hl : lv_has ls 1 [(0, .ref (gA G 20))] := hl
  have hf : y_Model_undefined σ = y_Model_undefined σ := rfl
  refine lv_aload_n hx hb dX11_undefined_0 rfl (lv_at hl 0 rfl) ?_
  refine lv_iconst (v := 0) hx hb dX11_undefined_1 (by decide) ?_
  refine kc_top (fixF_c (by decide)) ?_
  refine va_put (D := gD G) (ci := 9) (v := .int (fixF 0)) (ty := .int) hx hb hts ku_11 tyX11 tyX11_ok nmX11 hown hK hP hD hS 0 rfl rfl 10 (by decide) (hts _ kw_727) (fun _ h9 => h9) rfl (tyX11_ok 10 (by decide)) rfl rfl (Nat.le_of_ble_eq_true rfl) dX11_undefined_2 (fun H locs hP hD hS => ?_)
  have hP := kP_eq (mWs_fault G σ 0) hP
  have hD := kD_eq (mWs_fault G σ 0) hD
  exact hret (t_fault σ 0) _ _ _ _ hf hP hD hS dX11_undefined_5
