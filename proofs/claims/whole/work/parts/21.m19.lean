def y_Model_setOver (σ : MS) (v0 : Bool) : MS := (if v0 = true then t_cpsr σ (((m_cpsr σ) &&& (-268435457)) ||| 268435456) else t_cpsr σ (((m_cpsr σ) &&& (-268435457)) ||| 0))
set_option maxRecDepth 20000 in
set_option maxHeartbeats 4000000 in
theorem cy_Model_setOver (l : Launch) (G : KG) (σ : MS) (v0 : Bool) : KV l yX11_setOver (Cond.code yX11_setOver cX11_setOver 2 none :: lw_all) (kr 0) (gD G) vwCl (gT G) (mZ G) (mW G) [.ref (gA G 20), .int (b01 v0)] σ (y_Model_setOver σ v0) := by
  refine kc_in_v (q := y_Model_setOver σ v0) (by decide) rfl (Nat.le_of_ble_eq_true rfl) ?_
  intro p e s m args below meth c A Q ls hx hb hml hown hts hK hP hD hA hS hZ hl hret
  have hts := fun w h => hts w (List.mem_cons_of_mem _ h)
  have hl : lv_has ls 2 [(0, .ref (gA G 20)), (1, .int (b01 v0))] := hl
  have hf : y_Model_setOver σ v0 = y_Model_setOver σ v0 := rfl
  refine lv_aload_n hx hb dX11_setOver_0 rfl (lv_at hl 0 rfl) ?_
  refine lv_aload_n hx hb dX11_setOver_1 rfl (lv_at hl 0 rfl) ?_
  refine va_get (D := gD G) (ci := 9) hx hb hts ku_11 hown hK hP 0 rfl rfl 4 (by decide) (hts _ kw_109) (fun _ h9 => h9) rfl dX11_setOver_2 ?_
  refine lv_ldc (v := (-268435457)) hx hb hown (hts _ kw_804) dX11_setOver_5 ?_
  refine lv_iand hx hb dX11_setOver_7 ?_
  refine lv_iload_n hx hb dX11_setOver_8 rfl (lv_at hl 1 rfl) ?_
  refine kz_eq (tgt := 17) hx hb dX11_setOver_9 (by decide) (fun h_2 => ?_) (fun h_2 => ?_)
  · have hf := hf.trans (if_neg h_2)
    refine lv_iconst (v := 0) hx hb dX11_setOver_17 (by decide) ?_
    refine lv_ior hx hb dX11_setOver_18 ?_
    refine kc_top (fixM_ok (okM_or (okM_and (m_ok _) (by decide)) (by decide))) ?_
    refine va_put (D := gD G) (ci := 9) (v := .int (fixM (((m_cpsr σ) &&& (-268435457)) ||| 0))) (ty := .int) hx hb hts ku_11 tyX11 tyX11_ok nmX11 hown hK hP hD hS 0 rfl rfl 4 (by decide) (hts _ kw_109) (fun _ h9 => h9) rfl (tyX11_ok 4 (by decide)) rfl rfl (Nat.le_of_ble_eq_true rfl) dX11_setOver_19 (fun H locs hP hD hS => ?_)
    have hP := kP_eq (mWs_cpsr G σ (((m_cpsr σ) &&& (-268435457)) ||| 0)) hP
    have hD := kD_eq (mWs_cpsr G σ (((m_cpsr σ) &&& (-268435457)) ||| 0)) hD
    exact hret (t_cpsr σ (((m_cpsr σ) &&& (-268435457)) ||| 0)) _ _ _ _ hf hP hD hS dX11_setOver_22
  · have hf := hf.trans (if_pos h_2)
    refine lv_ldc (v := 268435456) hx hb hown (hts _ kw_805) dX11_setOver_12 ?_
    refine lv_goto (tgt := 18) hx hb dX11_setOver_14 (by decide) ?_
    refine lv_ior hx hb dX11_setOver_18 ?_
    refine kc_top (fixM_ok (okM_or (okM_and (m_ok _) (by decide)) (by decide))) ?_
    refine va_put (D := gD G) (ci := 9) (v := .int (fixM (((m_cpsr σ) &&& (-268435457)) ||| 268435456))) (ty := .int) hx hb hts ku_11 tyX11 tyX11_ok nmX11 hown hK hP hD hS 0 rfl rfl 4 (by decide) (hts _ kw_109) (fun _ h9 => h9) rfl (tyX11_ok 4 (by decide)) rfl rfl (Nat.le_of_ble_eq_true rfl) dX11_setOver_19 (fun H locs hP hD hS => ?_)
    have hP := kP_eq (mWs_cpsr G σ (((m_cpsr σ) &&& (-268435457)) ||| 268435456)) hP
    have hD := kD_eq (mWs_cpsr G σ (((m_cpsr σ) &&& (-268435457)) ||| 268435456)) hD
    exact hret (t_cpsr σ (((m_cpsr σ) &&& (-268435457)) ||| 268435456)) _ _ _ _ hf hP hD hS dX11_setOver_22
