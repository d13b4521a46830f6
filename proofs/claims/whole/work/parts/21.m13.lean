def y_Model_putStatus_21 (σ : MS) (v0 : Int32) (k0_21 : Int32) : MS := t_cpsr σ (((v0 &&& (-268435201)) &&& (-32)) ||| k0_21)
def y_Model_putStatus (σ : MS) (v0 : Int32) : MS := (if 0 ≤ (y_Model_bank (v0 &&& 31)) then y_Model_putStatus_21 σ v0 (v0 &&& 31) else y_Model_putStatus_21 σ v0 (y_Model_mode σ))
set_option maxRecDepth 20000 in
set_option maxHeartbeats 4000000 in
theorem cy_Model_putStatus (l : Launch) (G : KG) (σ : MS) (v0 : Int32) : KV l yX11_putStatus (Cond.code yX11_putStatus cX11_putStatus 3 none :: lw_all) (kr 1) (gD G) vwCl (gT G) (mZ G) (mW G) [.ref (gA G 20), .int v0] σ (y_Model_putStatus σ v0) := by
  refine kc_in_v (q := y_Model_putStatus σ v0) (by decide) rfl (Nat.le_of_ble_eq_true rfl) ?_
  intro p e s m args below meth c A Q ls hx hb hml hown hts hK hP hD hA hS hZ hl hret
  have hts := fun w h => hts w (List.mem_cons_of_mem _ h)
  have hl : lv_has ls 3 [(0, .ref (gA G 20)), (1, .int v0)] := hl
  have hf : y_Model_putStatus σ v0 = y_Model_putStatus σ v0 := rfl
  have J21 : ∀ (k0_21 : Int32) (hk0_21 : okm k0_21) (H : Heap) (locs : List Loc) (ls : Array Slot), va_P (gD G) vwCl (mW G (σ)) H → va_D A (mW G (σ)) → va_S A s.heap H locs → lv_has ls 3 [(0, .ref (gA G 20)), (1, .int v0)] → y_Model_putStatus σ v0 = y_Model_putStatus_21 σ v0 k0_21 → W p l e (kr 1) s m args below meth c H locs 0 0 Q (F0 m 21 ls [.int k0_21]) := by
    intro k0_21 hk0_21 H locs ls hP hD hS hl hf
    refine lv_istore_n (lv' := [(2, .int k0_21), (0, .ref (gA G 20)), (1, .int v0)]) hx hb dX11_putStatus_21 rfl hl (by decide) rfl (fun ls hl => ?_)
    refine lv_aload_n hx hb dX11_putStatus_22 rfl (lv_at hl 1 rfl) ?_
    refine lv_iload_n hx hb dX11_putStatus_23 rfl (lv_at hl 2 rfl) ?_
    refine lv_ldc (v := (-268435201)) hx hb hown (hts _ kw_258) dX11_putStatus_24 ?_
    refine lv_iand hx hb dX11_putStatus_26 ?_
    refine lv_bipush (v := (-32)) hx hb dX11_putStatus_27 (by decide) ?_
    refine lv_iand hx hb dX11_putStatus_29 ?_
    refine lv_iload_n hx hb dX11_putStatus_30 rfl (lv_at hl 0 rfl) ?_
    refine lv_ior hx hb dX11_putStatus_31 ?_
    refine kc_top (fixM_ok (okM_st hk0_21)) ?_
    refine va_put (D := gD G) (ci := 9) (v := .int (fixM (((v0 &&& (-268435201)) &&& (-32)) ||| k0_21))) (ty := .int) hx hb hts ku_11 tyX11 tyX11_ok nmX11 hown hK hP hD hS 0 rfl rfl 4 (by decide) (hts _ kw_109) (fun _ h9 => h9) rfl (tyX11_ok 4 (by decide)) rfl rfl (Nat.le_of_ble_eq_true rfl) dX11_putStatus_32 (fun H locs hP hD hS => ?_)
    have hP := kP_eq (mWs_cpsr G σ (((v0 &&& (-268435201)) &&& (-32)) ||| k0_21)) hP
    have hD := kD_eq (mWs_cpsr G σ (((v0 &&& (-268435201)) &&& (-32)) ||| k0_21)) hD
    exact hret (t_cpsr σ (((v0 &&& (-268435201)) &&& (-32)) ||| k0_21)) _ _ _ _ hf hP hD hS dX11_putStatus_35
  refine lv_iload_n hx hb dX11_putStatus_0 rfl (lv_at hl 1 rfl) ?_
  refine lv_bipush (v := 31) hx hb dX11_putStatus_1 (by decide) ?_
  refine lv_iand hx hb dX11_putStatus_3 ?_
  refine kp_Si (rest := []) (cy_Model_bank l (v0 &&& 31)) ⟨hx, hb, hml, hown, hts⟩ (va_cwS 1 hts (gi_S kw_203 kw_204 kw_5 kw_205) rfl rfl rfl mdX11_bank ⟨by decide, by decide⟩) rfl hl.1 rfl (Nat.le_of_ble_eq_true rfl) dX11_putStatus_4 ⟨Nat.zero_le _, Nat.zero_le _⟩ ?_
  refine lv_if_ge (tgt := 17) hx hb dX11_putStatus_7 (by decide) (fun h_2 => ?_) (fun h_2 => ?_)
  · have hf := hf.trans (if_pos h_2)
    refine lv_iload_n hx hb dX11_putStatus_17 rfl (lv_at hl 1 rfl) ?_
    refine lv_bipush (v := 31) hx hb dX11_putStatus_18 (by decide) ?_
    refine lv_iand hx hb dX11_putStatus_20 ?_
    exact J21 (v0 &&& 31) (bank_ok2 (by assumption)) _ _ _ hP hD hS (lv_sub hl [0, 1] rfl) hf
  · have hf := hf.trans (if_neg h_2)
    refine lv_aload_n hx hb dX11_putStatus_10 rfl (lv_at hl 0 rfl) ?_
    refine kc_Vr (rest := []) (cy_Model_mode l G σ) ⟨hx, hb, hml, hown, hts⟩ (cwV 0 hts (gi_V kw_259 kw_260 kw_261 kw_5 kw_262) rfl rfl rfl ⟨rfl, mdX11_mode⟩ ⟨by decide, by decide⟩) (va_recv hK hP (ci := 9) (q0 := 0) rfl rfl) mZ_ok hK hP hD hS hA hZ rfl hl.1 rfl (Nat.le_of_ble_eq_true rfl) dX11_putStatus_11 ⟨Nat.zero_le _, Nat.zero_le _⟩ (fun H locs hP hD hS => ?_)
    refine lv_goto (tgt := 21) hx hb dX11_putStatus_14 (by decide) ?_
    exact J21 (y_Model_mode σ) (md_ok _) _ _ _ hP hD hS (lv_sub hl [0, 1] rfl) hf
