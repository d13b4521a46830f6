def y_Model_exchange_25 (σ : MS) (v0 : Int32) (k0_25 : Int32) : MS := y_Model_put (t_cpsr σ k0_25) 15 v0
def y_Model_exchange (σ : MS) (v0 : Int32) : MS := (if (v0 &&& 1) = 1 then y_Model_exchange_25 σ v0 ((m_cpsr σ) ||| 32) else y_Model_exchange_25 σ v0 ((m_cpsr σ) &&& (-33)))
set_option maxRecDepth 20000 in
set_option maxHeartbeats 4000000 in
theorem cy_Model_exchange (l : Launch) (G : KG) (σ : MS) (v0 : Int32) : KV l yX11_exchange (Cond.code yX11_exchange cX11_exchange 2 none :: lw_all) (kr 3) (gD G) vwCl (gT G) (mZ G) (mW G) [.ref (gA G 20), .int v0] σ (y_Model_exchange σ v0) := by
  refine kc_in_v (q := y_Model_exchange σ v0) (by decide) rfl (Nat.le_of_ble_eq_true rfl) ?_
  intro p e s m args below meth c A Q ls hx hb hml hown hts hK hP hD hA hS hZ hl hret
  have hts := fun w h => hts w (List.mem_cons_of_mem _ h)
  have hl : lv_has ls 2 [(0, .ref (gA G 20)), (1, .int v0)] := hl
  have hf : y_Model_exchange σ v0 = y_Model_exchange σ v0 := rfl
  have J25 : ∀ (k0_25 : Int32) (hk0_25 : okM k0_25) (H : Heap) (locs : List Loc) (ls : Array Slot), va_P (gD G) vwCl (mW G (σ)) H → va_D A (mW G (σ)) → va_S A s.heap H locs → lv_has ls 2 [(0, .ref (gA G 20)), (1, .int v0)] → y_Model_exchange σ v0 = y_Model_exchange_25 σ v0 k0_25 → W p l e (kr 3) s m args below meth c H locs 0 0 Q (F0 m 25 ls [.int k0_25, .ref (gA G 20)]) := by
    intro k0_25 hk0_25 H locs ls hP hD hS hl hf
    refine kc_top (fixM_ok hk0_25) ?_
    refine va_put (D := gD G) (ci := 9) (v := .int (fixM k0_25)) (ty := .int) hx hb hts ku_11 tyX11 tyX11_ok nmX11 hown hK hP hD hS 0 rfl rfl 4 (by decide) (hts _ kw_109) (fun _ h9 => h9) rfl (tyX11_ok 4 (by decide)) rfl rfl (Nat.le_of_ble_eq_true rfl) dX11_exchange_25 (fun H locs hP hD hS => ?_)
    have hP := kP_eq (mWs_cpsr G σ k0_25) hP
    have hD := kD_eq (mWs_cpsr G σ k0_25) hD
    refine lv_aload_n hx hb dX11_exchange_28 rfl (lv_at hl 0 rfl) ?_
    refine lv_bipush (v := 15) hx hb dX11_exchange_29 (by decide) ?_
    refine lv_iload_n hx hb dX11_exchange_31 rfl (lv_at hl 1 rfl) ?_
    refine kc_Vv (rest := []) (cy_Model_put l G (t_cpsr σ k0_25) 15 v0 (by unfold vp_in; decide)) ⟨hx, hb, hml, hown, hts⟩ (cwV 2 hts (gi_V kw_806 kw_807 kw_808 kw_5 kw_809) rfl rfl rfl ⟨rfl, mdX11_put⟩ ⟨by decide, by decide⟩) (va_recv hK hP (ci := 9) (q0 := 0) rfl rfl) mZ_ok hK hP hD hS hA hZ rfl hl.1 rfl (Nat.le_of_ble_eq_true rfl) dX11_exchange_32 ⟨Nat.zero_le _, Nat.zero_le _⟩ (fun H locs hP hD hS => ?_)
    exact hret (y_Model_put (t_cpsr σ k0_25) 15 v0) _ _ _ _ hf hP hD hS dX11_exchange_35
  refine lv_aload_n hx hb dX11_exchange_0 rfl (lv_at hl 0 rfl) ?_
  refine lv_iload_n hx hb dX11_exchange_1 rfl (lv_at hl 1 rfl) ?_
  refine lv_iconst (v := 1) hx hb dX11_exchange_2 (by decide) ?_
  refine lv_iand hx hb dX11_exchange_3 ?_
  refine lv_iconst (v := 1) hx hb dX11_exchange_4 (by decide) ?_
  refine lv_icmp_ne (tgt := 18) hx hb dX11_exchange_5 (by decide) (fun h_2 => ?_) (fun h_2 => ?_)
  · have hf := hf.trans (if_neg h_2)
    refine lv_aload_n hx hb dX11_exchange_18 rfl (lv_at hl 0 rfl) ?_
    refine va_get (D := gD G) (ci := 9) hx hb hts ku_11 hown hK hP 0 rfl rfl 4 (by decide) (hts _ kw_109) (fun _ h9 => h9) rfl dX11_exchange_19 ?_
    refine lv_bipush (v := (-33)) hx hb dX11_exchange_22 (by decide) ?_
    refine lv_iand hx hb dX11_exchange_24 ?_
    exact J25 ((m_cpsr σ) &&& (-33)) (okM_33 _) _ _ _ hP hD hS (lv_sub hl [0, 1] rfl) hf
  · have hf := hf.trans (if_pos h_2)
    refine lv_aload_n hx hb dX11_exchange_8 rfl (lv_at hl 0 rfl) ?_
    refine va_get (D := gD G) (ci := 9) hx hb hts ku_11 hown hK hP 0 rfl rfl 4 (by decide) (hts _ kw_109) (fun _ h9 => h9) rfl dX11_exchange_9 ?_
    refine lv_bipush (v := 32) hx hb dX11_exchange_12 (by decide) ?_
    refine lv_ior hx hb dX11_exchange_14 ?_
    refine lv_goto (tgt := 25) hx hb dX11_exchange_15 (by decide) ?_
    exact J25 ((m_cpsr σ) ||| 32) (okM_32 _) _ _ _ hP hD hS (lv_sub hl [0, 1] rfl) hf
