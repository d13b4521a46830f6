theorem okM_f {w a b : Int32} (hw : okM w) (ha : lo0 a) (hb : lo0 b) : okM (((w &&& 1073741823) ||| a) ||| b) := okM_or (okM_or (okM_and hw (by decide)) ha) hb
def y_Model_setFlags_18 (σ : MS) (v0 : Int32) (k0_18 : Int32) : MS := (if v0 = 0 then t_cpsr σ ((((m_cpsr σ) &&& 1073741823) ||| k0_18) ||| 1073741824) else t_cpsr σ ((((m_cpsr σ) &&& 1073741823) ||| k0_18) ||| 0))
def y_Model_setFlags (σ : MS) (v0 : Int32) : MS := (if 0 ≤ v0 then y_Model_setFlags_18 σ v0 0 else y_Model_setFlags_18 σ v0 (-2147483648))
set_option maxRecDepth 20000 in
set_option maxHeartbeats 4000000 in
theorem cy_Model_setFlags (l : Launch) (G : KG) (σ : MS) (v0 : Int32) : KV l yX11_setFlags (Cond.code yX11_setFlags cX11_setFlags 2 none :: lw_all) (kr 0) (gD G) vwCl (gT G) (mZ G) (mW G) [.ref (gA G 20), .int v0] σ (y_Model_setFlags σ v0) := by
  refine kc_in_v (q := y_Model_setFlags σ v0) (by decide) rfl (Nat.le_of_ble_eq_true rfl) ?_
  intro p e s m args below meth c A Q ls hx hb hml hown hts hK hP hD hA hS hZ hl hret
  have hts := fun w h => hts w (List.mem_cons_of_mem _ h)
  have hl : lv_has ls 2 [(0, .ref (gA G 20)), (1, .int v0)] := hl
  have hf : y_Model_setFlags σ v0 = y_Model_setFlags σ v0 := rfl
  have J18 : ∀ (k0_18 : Int32) (hk0_18 : lo0 k0_18) (H : Heap) (locs : List Loc) (ls : Array Slot), va_P (gD G) vwCl (mW G (σ)) H → va_D A (mW G (σ)) → va_S A s.heap H locs → lv_has ls 2 [(1, .int v0)] → y_Model_setFlags σ v0 = y_Model_setFlags_18 σ v0 k0_18 → W p l e (kr 0) s m args below meth c H locs 0 0 Q (F0 m 18 ls [.int k0_18, .int ((m_cpsr σ) &&& 1073741823), .ref (gA G 20)]) := by
    intro k0_18 hk0_18 H locs ls hP hD hS hl hf
    refine lv_ior hx hb dX11_setFlags_18 ?_
    refine lv_iload_n hx hb dX11_setFlags_19 rfl (lv_at hl 0 rfl) ?_
    refine lv_if_ne (tgt := 28) hx hb dX11_setFlags_20 (by decide) (fun h_3 => ?_) (fun h_3 => ?_)
    · have hf := hf.trans (if_neg h_3)
      refine lv_iconst (v := 0) hx hb dX11_setFlags_28 (by decide) ?_
      refine lv_ior hx hb dX11_setFlags_29 ?_
      refine kc_top (fixM_ok (okM_f (m_ok _) hk0_18 (by unfold lo0; decide))) ?_
      refine va_put (D := gD G) (ci := 9) (v := .int (fixM ((((m_cpsr σ) &&& 1073741823) ||| k0_18) ||| 0))) (ty := .int) hx hb hts ku_11 tyX11 tyX11_ok nmX11 hown hK hP hD hS 0 rfl rfl 4 (by decide) (hts _ kw_109) (fun _ h9 => h9) rfl (tyX11_ok 4 (by decide)) rfl rfl (Nat.le_of_ble_eq_true rfl) dX11_setFlags_30 (fun H locs hP hD hS => ?_)
      have hP := kP_eq (mWs_cpsr G σ ((((m_cpsr σ) &&& 1073741823) ||| k0_18) ||| 0)) hP
      have hD := kD_eq (mWs_cpsr G σ ((((m_cpsr σ) &&& 1073741823) ||| k0_18) ||| 0)) hD
      exact hret (t_cpsr σ ((((m_cpsr σ) &&& 1073741823) ||| k0_18) ||| 0)) _ _ _ _ hf hP hD hS dX11_setFlags_33
    · have hf := hf.trans (if_pos h_3)
      refine lv_ldc (v := 1073741824) hx hb hown (hts _ kw_790) dX11_setFlags_23 ?_
      refine lv_goto (tgt := 29) hx hb dX11_setFlags_25 (by decide) ?_
      refine lv_ior hx hb dX11_setFlags_29 ?_
      refine kc_top (fixM_ok (okM_f (m_ok _) hk0_18 (by unfold lo0; decide))) ?_
      refine va_put (D := gD G) (ci := 9) (v := .int (fixM ((((m_cpsr σ) &&& 1073741823) ||| k0_18) ||| 1073741824))) (ty := .int) hx hb hts ku_11 tyX11 tyX11_ok nmX11 hown hK hP hD hS 0 rfl rfl 4 (by decide) (hts _ kw_109) (fun _ h9 => h9) rfl (tyX11_ok 4 (by decide)) rfl rfl (Nat.le_of_ble_eq_true rfl) dX11_setFlags_30 (fun H locs hP hD hS => ?_)
      have hP := kP_eq (mWs_cpsr G σ ((((m_cpsr σ) &&& 1073741823) ||| k0_18) ||| 1073741824)) hP
      have hD := kD_eq (mWs_cpsr G σ ((((m_cpsr σ) &&& 1073741823) ||| k0_18) ||| 1073741824)) hD
      exact hret (t_cpsr σ ((((m_cpsr σ) &&& 1073741823) ||| k0_18) ||| 1073741824)) _ _ _ _ hf hP hD hS dX11_setFlags_33
  refine lv_aload_n hx hb dX11_setFlags_0 rfl (lv_at hl 0 rfl) ?_
  refine lv_aload_n hx hb dX11_setFlags_1 rfl (lv_at hl 0 rfl) ?_
  refine va_get (D := gD G) (ci := 9) hx hb hts ku_11 hown hK hP 0 rfl rfl 4 (by decide) (hts _ kw_109) (fun _ h9 => h9) rfl dX11_setFlags_2 ?_
  refine lv_ldc (v := 1073741823) hx hb hown (hts _ kw_789) dX11_setFlags_5 ?_
  refine lv_iand hx hb dX11_setFlags_7 ?_
  refine lv_iload_n hx hb dX11_setFlags_8 rfl (lv_at hl 1 rfl) ?_
  refine lv_if_ge (tgt := 17) hx hb dX11_setFlags_9 (by decide) (fun h_4 => ?_) (fun h_4 => ?_)
  · have hf := hf.trans (if_pos h_4)
    refine lv_iconst (v := 0) hx hb dX11_setFlags_17 (by decide) ?_
    exact J18 0 (by unfold lo0; decide) _ _ _ hP hD hS (lv_sub hl [1] rfl) hf
  · have hf := hf.trans (if_neg h_4)
    refine lv_ldc (v := (-2147483648)) hx hb hown (hts _ kw_761) dX11_setFlags_12 ?_
    refine lv_goto (tgt := 18) hx hb dX11_setFlags_14 (by decide) ?_
    exact J18 (-2147483648) (by unfold lo0; decide) _ _ _ hP hD hS (lv_sub hl [1] rfl) hf
