def y_Model_sum (σ : MS) (v0 : Int32) (v1 : Int32) (v2 : Int32) : Int32 × MS := ((((v0.toInt64 &&& 4294967295) + (v1.toInt64 &&& 4294967295)) + v2.toInt64).toInt32, t_over (t_carry σ (decide (¬ (lg_cmp (((v0.toInt64 &&& 4294967295) + (v1.toInt64 &&& 4294967295)) + v2.toInt64) 4294967295) ≤ 0))) (decide (¬ (lg_cmp ((v0.toInt64 + v1.toInt64) + v2.toInt64) ((((v0.toInt64 + v1.toInt64) + v2.toInt64).toInt32).toInt64)) = 0)))
set_option maxRecDepth 20000 in
set_option maxHeartbeats 4000000 in
theorem cy_Model_sum (l : Launch) (G : KG) (σ : MS) (v0 : Int32) (v1 : Int32) (v2 : Int32) : KB l yX11_sum (Cond.code yX11_sum cX11_sum 8 (some .int) :: lw_all) (kr 0) (gD G) vwCl (gT G) (mZ G) (mW G) [.ref (gA G 20), .int v0, .int v1, .int v2] σ (y_Model_sum σ v0 v1 v2) := by
  refine kc_in_b (q := y_Model_sum σ v0 v1 v2) (by decide) rfl (Nat.le_of_ble_eq_true rfl) ?_
  intro p e s m args below meth c A Q ls hx hb hml hown hts hK hP hD hA hS hZ hl hret
  have hts := fun w h => hts w (List.mem_cons_of_mem _ h)
  have hl : lv_has ls 8 [(0, .ref (gA G 20)), (1, .int v0), (2, .int v1), (3, .int v2)] := hl
  have hf : y_Model_sum σ v0 v1 v2 = y_Model_sum σ v0 v1 v2 := rfl
  refine lv_iload_n hx hb dX11_sum_0 rfl (lv_at hl 1 rfl) ?_
  refine lv_i2l (v := v0.toInt64) hx hb dX11_sum_1 rfl ?_
  refine lv_ldc2 (v := 4294967295) hx hb hown (hts _ kw_780) dX11_sum_2 ?_
  refine lv_land hx hb dX11_sum_5 ?_
  refine lv_iload_n hx hb dX11_sum_6 rfl (lv_at hl 2 rfl) ?_
  refine lv_i2l (v := v1.toInt64) hx hb dX11_sum_7 rfl ?_
  refine lv_ldc2 (v := 4294967295) hx hb hown (hts _ kw_780) dX11_sum_8 ?_
  refine lv_land hx hb dX11_sum_11 ?_
  refine lv_ladd hx hb dX11_sum_12 ?_
  refine lv_iload_n hx hb dX11_sum_13 rfl (lv_at hl 3 rfl) ?_
  refine lv_i2l (v := v2.toInt64) hx hb dX11_sum_14 rfl ?_
  refine lv_ladd hx hb dX11_sum_15 ?_
  refine lv_lstore (lv' := [(4, .long (((v0.toInt64 &&& 4294967295) + (v1.toInt64 &&& 4294967295)) + v2.toInt64)), (0, .ref (gA G 20)), (1, .int v0), (2, .int v1), (3, .int v2)]) hx hb dX11_sum_16 hl (by decide) rfl (fun ls hl => ?_)
  refine lv_iload_n hx hb dX11_sum_18 rfl (lv_at hl 2 rfl) ?_
  refine lv_i2l (v := v0.toInt64) hx hb dX11_sum_19 rfl ?_
  refine lv_iload_n hx hb dX11_sum_20 rfl (lv_at hl 3 rfl) ?_
  refine lv_i2l (v := v1.toInt64) hx hb dX11_sum_21 rfl ?_
  refine lv_ladd hx hb dX11_sum_22 ?_
  refine lv_iload_n hx hb dX11_sum_23 rfl (lv_at hl 4 rfl) ?_
  refine lv_i2l (v := v2.toInt64) hx hb dX11_sum_24 rfl ?_
  refine lv_ladd hx hb dX11_sum_25 ?_
  refine lv_lstore (lv' := [(6, .long ((v0.toInt64 + v1.toInt64) + v2.toInt64)), (4, .long (((v0.toInt64 &&& 4294967295) + (v1.toInt64 &&& 4294967295)) + v2.toInt64)), (0, .ref (gA G 20)), (1, .int v0), (2, .int v1), (3, .int v2)]) hx hb dX11_sum_26 hl (by decide) rfl (fun ls hl => ?_)
  refine lv_aload_n hx hb dX11_sum_28 rfl (lv_at hl 2 rfl) ?_
  refine lv_lload hx hb dX11_sum_29 (lv_at hl 1 rfl) ?_
  refine lv_ldc2 (v := 4294967295) hx hb hown (hts _ kw_780) dX11_sum_31 ?_
  refine W.lcmp hx hb dX11_sum_34 ?_
  refine kz_dP0 (P := (lg_cmp (((v0.toInt64 &&& 4294967295) + (v1.toInt64 &&& 4294967295)) + v2.toInt64) 4294967295) ≤ 0) (tgt := 42) (M := 43) (fun a b => lv_if_le (tgt := 42) hx hb dX11_sum_35 (by decide) a b) hx hb dX11_sum_38 dX11_sum_39 (by decide) dX11_sum_42 rfl ?_
  refine va_put (D := gD G) (ci := 9) (v := .int (b01 (decide (¬ (lg_cmp (((v0.toInt64 &&& 4294967295) + (v1.toInt64 &&& 4294967295)) + v2.toInt64) 4294967295) ≤ 0)))) (ty := .boolean) hx hb hts ku_11 tyX11 tyX11_ok nmX11 hown hK hP hD hS 0 rfl rfl 12 (by decide) (hts _ kw_762) (fun _ h9 => h9) rfl (tyX11_ok 12 (by decide)) (b01_nar _) (b01_fit _) (Nat.le_of_ble_eq_true rfl) dX11_sum_43 (fun H locs hP hD hS => ?_)
  have hP := kP_eq (mWs_carry G σ (decide (¬ (lg_cmp (((v0.toInt64 &&& 4294967295) + (v1.toInt64 &&& 4294967295)) + v2.toInt64) 4294967295) ≤ 0))) hP
  have hD := kD_eq (mWs_carry G σ (decide (¬ (lg_cmp (((v0.toInt64 &&& 4294967295) + (v1.toInt64 &&& 4294967295)) + v2.toInt64) 4294967295) ≤ 0))) hD
  refine lv_aload_n hx hb dX11_sum_46 rfl (lv_at hl 2 rfl) ?_
  refine lv_lload hx hb dX11_sum_47 (lv_at hl 0 rfl) ?_
  refine lv_lload hx hb dX11_sum_49 (lv_at hl 0 rfl) ?_
  refine lv_l2i (v := ((v0.toInt64 + v1.toInt64) + v2.toInt64).toInt32) hx hb dX11_sum_51 rfl ?_
  refine lv_i2l (v := (((v0.toInt64 + v1.toInt64) + v2.toInt64).toInt32).toInt64) hx hb dX11_sum_52 rfl ?_
  refine W.lcmp hx hb dX11_sum_53 ?_
  refine kz_dP0 (P := (lg_cmp ((v0.toInt64 + v1.toInt64) + v2.toInt64) ((((v0.toInt64 + v1.toInt64) + v2.toInt64).toInt32).toInt64)) = 0) (tgt := 61) (M := 62) (fun a b => lv_if_eq (tgt := 61) hx hb dX11_sum_54 (by decide) a b) hx hb dX11_sum_57 dX11_sum_58 (by decide) dX11_sum_61 rfl ?_
  refine va_put (D := gD G) (ci := 9) (v := .int (b01 (decide (¬ (lg_cmp ((v0.toInt64 + v1.toInt64) + v2.toInt64) ((((v0.toInt64 + v1.toInt64) + v2.toInt64).toInt32).toInt64)) = 0)))) (ty := .boolean) hx hb hts ku_11 tyX11 tyX11_ok nmX11 hown hK hP hD hS 0 rfl rfl 13 (by decide) (hts _ kw_771) (fun _ h9 => h9) rfl (tyX11_ok 13 (by decide)) (b01_nar _) (b01_fit _) (Nat.le_of_ble_eq_true rfl) dX11_sum_62 (fun H locs hP hD hS => ?_)
  have hP := kP_eq (mWs_over G (t_carry σ (decide (¬ (lg_cmp (((v0.toInt64 &&& 4294967295) + (v1.toInt64 &&& 4294967295)) + v2.toInt64) 4294967295) ≤ 0))) (decide (¬ (lg_cmp ((v0.toInt64 + v1.toInt64) + v2.toInt64) ((((v0.toInt64 + v1.toInt64) + v2.toInt64).toInt32).toInt64)) = 0))) hP
  have hD := kD_eq (mWs_over G (t_carry σ (decide (¬ (lg_cmp (((v0.toInt64 &&& 4294967295) + (v1.toInt64 &&& 4294967295)) + v2.toInt64) 4294967295) ≤ 0))) (decide (¬ (lg_cmp ((v0.toInt64 + v1.toInt64) + v2.toInt64) ((((v0.toInt64 + v1.toInt64) + v2.toInt64).toInt32).toInt64)) = 0))) hD
  refine lv_lload hx hb dX11_sum_65 (lv_at hl 1 rfl) ?_
  refine lv_l2i (v := (((v0.toInt64 &&& 4294967295) + (v1.toInt64 &&& 4294967295)) + v2.toInt64).toInt32) hx hb dX11_sum_67 rfl ?_
  exact hret ((((v0.toInt64 &&& 4294967295) + (v1.toInt64 &&& 4294967295)) + v2.toInt64).toInt32) (t_over (t_carry σ (decide (¬ (lg_cmp (((v0.toInt64 &&& 4294967295) + (v1.toInt64 &&& 4294967295)) + v2.toInt64) 4294967295) ≤ 0))) (decide (¬ (lg_cmp ((v0.toInt64 + v1.toInt64) + v2.toInt64) ((((v0.toInt64 + v1.toInt64) + v2.toInt64).toInt32).toInt64)) = 0))) _ _ _ _ hf hP hD hS dX11_sum_68
