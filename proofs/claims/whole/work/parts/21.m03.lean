def y_Model_value (σ : MS) (v0 : Int32) : Int32 := (if (y_Model_isThumb σ) = true then y_Model_operand σ v0 4 else y_Model_operand σ v0 8)
set_option maxRecDepth 20000 in
set_option maxHeartbeats 4000000 in
theorem cy_Model_value (l : Launch) (G : KG) (σ : MS) (v0 : Int32) (hv0 : vp_in v0 16) : KB l yX11_value (Cond.code yX11_value cX11_value 2 (some .int) :: lw_all) (kr 4) (gD G) vwCl (gT G) (mZ G) (mW G) [.ref (gA G 20), .int v0] σ (y_Model_value σ v0, σ) := by
  refine kc_in_r (q := y_Model_value σ v0) (by decide) rfl (Nat.le_of_ble_eq_true rfl) ?_
  intro p e s m args below meth c A Q ls hx hb hml hown hts hK hP hD hA hS hZ hl hret
  have hts := fun w h => hts w (List.mem_cons_of_mem _ h)
  have hl : lv_has ls 2 [(0, .ref (gA G 20)), (1, .int v0)] := hl
  have hf : y_Model_value σ v0 = y_Model_value σ v0 := rfl
  refine lv_aload_n hx hb dX11_value_0 rfl (lv_at hl 0 rfl) ?_
  refine lv_iload_n hx hb dX11_value_1 rfl (lv_at hl 1 rfl) ?_
  refine lv_aload_n hx hb dX11_value_2 rfl (lv_at hl 0 rfl) ?_
  refine kc_Vr (rest := [.int v0, .ref (gA G 20)]) (cy_Model_isThumb l G σ) ⟨hx, hb, hml, hown, hts⟩ (cwV 0 hts (gi_V kw_213 kw_214 kw_215 kw_5 kw_216) rfl rfl rfl ⟨rfl, mdX11_isThumb⟩ ⟨by decide, by decide⟩) (va_recv hK hP (ci := 9) (q0 := 0) rfl rfl) mZ_ok hK hP hD hS hA hZ rfl hl.1 rfl (Nat.le_of_ble_eq_true rfl) dX11_value_3 ⟨Nat.zero_le _, Nat.zero_le _⟩ (fun H locs hP hD hS => ?_)
  refine kz_eq (tgt := 13) hx hb dX11_value_6 (by decide) (fun h_2 => ?_) (fun h_2 => ?_)
  · have hf := hf.trans (if_neg h_2)
    refine lv_bipush (v := 8) hx hb dX11_value_13 (by decide) ?_
    refine kc_Vr (rest := []) (cy_Model_operand l G σ v0 8 hv0) ⟨hx, hb, hml, hown, hts⟩ (cwV 2 hts (gi_V kw_830 kw_831 kw_832 kw_5 kw_833) rfl rfl rfl ⟨rfl, mdX11_operand⟩ ⟨by decide, by decide⟩) (va_recv hK hP (ci := 9) (q0 := 0) rfl rfl) mZ_ok hK hP hD hS hA hZ rfl hl.1 rfl (Nat.le_of_ble_eq_true rfl) dX11_value_15 ⟨Nat.zero_le _, Nat.zero_le _⟩ (fun H locs hP hD hS => ?_)
    exact hret (y_Model_operand σ v0 8) _ _ _ _ hf hP hD hS dX11_value_18
  · have hf := hf.trans (if_pos h_2)
    refine lv_iconst (v := 4) hx hb dX11_value_9 (by decide) ?_
    refine lv_goto (tgt := 15) hx hb dX11_value_10 (by decide) ?_
    refine kc_Vr (rest := []) (cy_Model_operand l G σ v0 4 hv0) ⟨hx, hb, hml, hown, hts⟩ (cwV 2 hts (gi_V kw_830 kw_831 kw_832 kw_5 kw_833) rfl rfl rfl ⟨rfl, mdX11_operand⟩ ⟨by decide, by decide⟩) (va_recv hK hP (ci := 9) (q0 := 0) rfl rfl) mZ_ok hK hP hD hS hA hZ rfl hl.1 rfl (Nat.le_of_ble_eq_true rfl) dX11_value_15 ⟨Nat.zero_le _, Nat.zero_le _⟩ (fun H locs hP hD hS => ?_)
    exact hret (y_Model_operand σ v0 4) _ _ _ _ hf hP hD hS dX11_value_18
def y_Model_trimmed (σ : MS) (v0 : Int32) : Int32 := (if (y_Model_isThumb σ) = true then v0 &&& (-2) else v0 &&& (-4))
set_option maxRecDepth 20000 in
set_option maxHeartbeats 4000000 in
theorem cy_Model_trimmed (l : Launch) (G : KG) (σ : MS) (v0 : Int32) : KB l yX11_trimmed (Cond.code yX11_trimmed cX11_trimmed 2 (some .int) :: lw_all) (kr 1) (gD G) vwCl (gT G) (mZ G) (mW G) [.ref (gA G 20), .int v0] σ (y_Model_trimmed σ v0, σ) := by
  refine kc_in_r (q := y_Model_trimmed σ v0) (by decide) rfl (Nat.le_of_ble_eq_true rfl) ?_
  intro p e s m args below meth c A Q ls hx hb hml hown hts hK hP hD hA hS hZ hl hret
  have hts := fun w h => hts w (List.mem_cons_of_mem _ h)
  have hl : lv_has ls 2 [(0, .ref (gA G 20)), (1, .int v0)] := hl
  have hf : y_Model_trimmed σ v0 = y_Model_trimmed σ v0 := rfl
  refine lv_iload_n hx hb dX11_trimmed_0 rfl (lv_at hl 1 rfl) ?_
  refine lv_aload_n hx hb dX11_trimmed_1 rfl (lv_at hl 0 rfl) ?_
  refine kc_Vr (rest := [.int v0]) (cy_Model_isThumb l G σ) ⟨hx, hb, hml, hown, hts⟩ (cwV 0 hts (gi_V kw_213 kw_214 kw_215 kw_5 kw_216) rfl rfl rfl ⟨rfl, mdX11_isThumb⟩ ⟨by decide, by decide⟩) (va_recv hK hP (ci := 9) (q0 := 0) rfl rfl) mZ_ok hK hP hD hS hA hZ rfl hl.1 rfl (Nat.le_of_ble_eq_true rfl) dX11_trimmed_2 ⟨Nat.zero_le _, Nat.zero_le _⟩ (fun H locs hP hD hS => ?_)
  refine kz_eq (tgt := 13) hx hb dX11_trimmed_5 (by decide) (fun h_2 => ?_) (fun h_2 => ?_)
  · have hf := hf.trans (if_neg h_2)
    refine lv_bipush (v := (-4)) hx hb dX11_trimmed_13 (by decide) ?_
    refine lv_iand hx hb dX11_trimmed_15 ?_
    exact hret (v0 &&& (-4)) _ _ _ _ hf hP hD hS dX11_trimmed_16
  · have hf := hf.trans (if_pos h_2)
    refine lv_bipush (v := (-2)) hx hb dX11_trimmed_8 (by decide) ?_
    refine lv_goto (tgt := 15) hx hb dX11_trimmed_10 (by decide) ?_
    refine lv_iand hx hb dX11_trimmed_15 ?_
    exact hret (v0 &&& (-2)) _ _ _ _ hf hP hD hS dX11_trimmed_16
def y_Model_put (σ : MS) (v0 : Int32) (v1 : Int32) : MS := (if v0 = 15 then t_jumps (t_r σ (upd (m_r σ) (15 : Int32).toNatClampNeg (y_Model_trimmed σ v1))) true else t_r σ (upd (m_r σ) (y_Model_placeOf (y_Model_mode σ) v0).toNatClampNeg v1))
set_option maxRecDepth 20000 in
set_option maxHeartbeats 4000000 in
theorem cy_Model_put (l : Launch) (G : KG) (σ : MS) (v0 : Int32) (v1 : Int32) (hv0 : vp_in v0 16) : KV l yX11_put (Cond.code yX11_put cX11_put 3 none :: lw_all) (kr 2) (gD G) vwCl (gT G) (mZ G) (mW G) [.ref (gA G 20), .int v0, .int v1] σ (y_Model_put σ v0 v1) := by
  refine kc_in_v (q := y_Model_put σ v0 v1) (by decide) rfl (Nat.le_of_ble_eq_true rfl) ?_
  intro p e s m args below meth c A Q ls hx hb hml hown hts hK hP hD hA hS hZ hl hret
  have hts := fun w h => hts w (List.mem_cons_of_mem _ h)
  have hl : lv_has ls 3 [(0, .ref (gA G 20)), (1, .int v0), (2, .int v1)] := hl
  have hf : y_Model_put σ v0 v1 = y_Model_put σ v0 v1 := rfl
  refine lv_iload_n hx hb dX11_put_0 rfl (lv_at hl 1 rfl) ?_
  refine lv_bipush (v := 15) hx hb dX11_put_1 (by decide) ?_
  refine lv_icmp_ne (tgt := 26) hx hb dX11_put_3 (by decide) (fun h_2 => ?_) (fun h_2 => ?_)
  · have hf := hf.trans (if_neg h_2)
    refine lv_aload_n hx hb dX11_put_26 rfl (lv_at hl 0 rfl) ?_
    refine va_get (D := gD G) (ci := 9) hx hb hts ku_11 hown hK hP 0 rfl rfl 2 (by decide) (hts _ kw_107) (fun _ h9 => h9) rfl dX11_put_27 ?_
    refine lv_aload_n hx hb dX11_put_30 rfl (lv_at hl 0 rfl) ?_
    refine kc_Vr (rest := [.ref (gA G 22)]) (cy_Model_mode l G σ) ⟨hx, hb, hml, hown, hts⟩ (cwV 0 hts (gi_V kw_259 kw_260 kw_261 kw_5 kw_262) rfl rfl rfl ⟨rfl, mdX11_mode⟩ ⟨by decide, by decide⟩) (va_recv hK hP (ci := 9) (q0 := 0) rfl rfl) mZ_ok hK hP hD hS hA hZ rfl hl.1 rfl (Nat.le_of_ble_eq_true rfl) dX11_put_31 ⟨Nat.zero_le _, Nat.zero_le _⟩ (fun H locs hP hD hS => ?_)
    refine lv_iload_n hx hb dX11_put_34 rfl (lv_at hl 1 rfl) ?_
    refine kp_Si (rest := [.ref (gA G 22)]) (cy_Model_placeOf l (y_Model_mode σ) v0) ⟨hx, hb, hml, hown, hts⟩ (va_cwS 2 hts (gi_S kw_206 kw_207 kw_5 kw_208) rfl rfl rfl mdX11_placeOf ⟨by decide, by decide⟩) rfl hl.1 rfl (Nat.le_of_ble_eq_true rfl) dX11_put_35 ⟨Nat.zero_le _, Nat.zero_le _⟩ ?_
    refine lv_iload_n hx hb dX11_put_38 rfl (lv_at hl 2 rfl) ?_
    refine va_iast hx hb hK hP hD hS 2 0 rfl rfl (place_in _ hv0) dX11_put_39 (fun H locs hP hD hS => ?_)
    have hP : va_P (gD G) vwCl (mW G (t_r σ (upd (m_r σ) (y_Model_placeOf (y_Model_mode σ) v0).toNatClampNeg v1))) H := hP
    have hD : va_D A (mW G (t_r σ (upd (m_r σ) (y_Model_placeOf (y_Model_mode σ) v0).toNatClampNeg v1))) := hD
    exact hret (t_r σ (upd (m_r σ) (y_Model_placeOf (y_Model_mode σ) v0).toNatClampNeg v1)) _ _ _ _ hf hP hD hS dX11_put_40
  · have hf := hf.trans (if_pos h_2)
    refine lv_aload_n hx hb dX11_put_6 rfl (lv_at hl 0 rfl) ?_
    refine va_get (D := gD G) (ci := 9) hx hb hts ku_11 hown hK hP 0 rfl rfl 2 (by decide) (hts _ kw_107) (fun _ h9 => h9) rfl dX11_put_7 ?_
    refine lv_bipush (v := 15) hx hb dX11_put_10 (by decide) ?_
    refine lv_aload_n hx hb dX11_put_12 rfl (lv_at hl 0 rfl) ?_
    refine lv_iload_n hx hb dX11_put_13 rfl (lv_at hl 2 rfl) ?_
    refine kc_Vr (rest := [.int 15, .ref (gA G 22)]) (cy_Model_trimmed l G σ v1) ⟨hx, hb, hml, hown, hts⟩ (cwV 1 hts (gi_V kw_209 kw_210 kw_211 kw_5 kw_212) rfl rfl rfl ⟨rfl, mdX11_trimmed⟩ ⟨by decide, by decide⟩) (va_recv hK hP (ci := 9) (q0 := 0) rfl rfl) mZ_ok hK hP hD hS hA hZ rfl hl.1 rfl (Nat.le_of_ble_eq_true rfl) dX11_put_14 ⟨Nat.zero_le _, Nat.zero_le _⟩ (fun H locs hP hD hS => ?_)
    refine va_iast hx hb hK hP hD hS 2 0 rfl rfl (by unfold vp_in; decide) dX11_put_17 (fun H locs hP hD hS => ?_)
    have hP : va_P (gD G) vwCl (mW G (t_r σ (upd (m_r σ) (15 : Int32).toNatClampNeg (y_Model_trimmed σ v1)))) H := hP
    have hD : va_D A (mW G (t_r σ (upd (m_r σ) (15 : Int32).toNatClampNeg (y_Model_trimmed σ v1)))) := hD
    refine lv_aload_n hx hb dX11_put_18 rfl (lv_at hl 0 rfl) ?_
    refine lv_iconst (v := 1) hx hb dX11_put_19 (by decide) ?_
    refine va_put (D := gD G) (ci := 9) (v := .int (b01 true)) (ty := .boolean) hx hb hts ku_11 tyX11 tyX11_ok nmX11 hown hK hP hD hS 0 rfl rfl 11 (by decide) (hts _ kw_728) (fun _ h9 => h9) rfl (tyX11_ok 11 (by decide)) (b01_nar _) (b01_fit _) (Nat.le_of_ble_eq_true rfl) dX11_put_20 (fun H locs hP hD hS => ?_)
    have hP : va_P (gD G) vwCl (mW G (t_jumps (t_r σ (upd (m_r σ) (15 : Int32).toNatClampNeg (y_Model_trimmed σ v1))) true)) H := hP
    have hD : va_D A (mW G (t_jumps (t_r σ (upd (m_r σ) (15 : Int32).toNatClampNeg (y_Model_trimmed σ v1))) true)) := hD
    refine lv_goto (tgt := 40) hx hb dX11_put_23 (by decide) ?_
    exact hret (t_jumps (t_r σ (upd (m_r σ) (15 : Int32).toNatClampNeg (y_Model_trimmed σ v1))) true) _ _ _ _ hf hP hD hS dX11_put_40
def y_Model_putStatus_21 (σ : MS) (v0 : Int32) (k0_21 : Int32) : MS := t_cpsr σ (((v0 &&& (-268435201)) &&& (-32)) ||| k0_21)
def y_Model_putStatus (σ : MS) (v0 : Int32) : MS := (if 0 ≤ (y_Model_bank (v0 &&& 31)) then y_Model_putStatus_21 σ v0 (v0 &&& 31) else y_Model_putStatus_21 σ v0 (y_Model_mode σ))
set_option maxRecDepth 20000 in
set_option maxHeartbeats 4000000 in
theorem cy_Model_putStatus (l : Launch) (G : KG) (σ : MS) (v0 : Int32) : KV l yX11_putStatus (Cond.code yX11_putStatus cX11_putStatus 3 none :: lw_all) (kr 1) (gD G) vwCl (gT G) (mZ G) (mW G) [.ref (gA G 20), .int v0] σ (y_Model_putStatus σ v0) := by
  refine kc_in_v (q := y_Model_putStatus σ v0) (by decide) rfl (Nat.le_of_ble_eq_true rfl) ?_
  intro p e s m args below meth c A Q ls hx hb hml hown hts hK hP hD hA hS hZ hl hret
  have hts := fun w h => hts w (List.mem_cons_of_mem _ h)
  have hl : lv_has ls 3 [(0, .ref (gA G 20)), (1, .int v0)] := hl
  have hf : y_Model_putStatus σ v0 = y_Model_putStatus σ v0 := rfl
  have J21 : ∀ (k0_21 : Int32) (hk0_21 : okm k0_21) (H : Heap) (locs : List Loc) (ls : Array Slot), va_P (gD G) vwCl (mW G (σ)) H → va_D A (mW G (σ)) → va_S A s.heap H locs → lv_has ls 3 [(0, .ref (gA G 20)), (1, .int v0)] → y_Model_putStatus σ v0 = y_Model_putStatus_21 σ v0 k0_21 → W p l e (kr 1) s m args below meth c H locs 0 0 Q (F0 m 21 ls [.int k0_21]) := by
    intro k0_21 hk0_21 H locs ls hP hD hS hl hf
    refine lv_istore_n (lv' := [(2, .int k0_21), (0, .ref (gA G 20)), (1, .int v0)]) hx hb dX11_putStatus_21 rfl hl (by decide) rfl (fun ls hl => ?_)
    refine lv_aload_n hx hb dX11_putStatus_22 rfl (lv_at hl 1 rfl) ?_
    refine lv_iload_n hx hb dX11_putStatus_23 rfl (lv_at hl 2 rfl) ?_
    refine lv_ldc (v := (-268435201)) hx hb hown (hts _ kw_258) dX11_putStatus_24 ?_
    refine lv_iand hx hb dX11_putStatus_26 ?_
    refine lv_bipush (v := (-32)) hx hb dX11_putStatus_27 (by decide) ?_
    refine lv_iand hx hb dX11_putStatus_29 ?_
    refine lv_iload_n hx hb dX11_putStatus_30 rfl (lv_at hl 0 rfl) ?_
    refine lv_ior hx hb dX11_putStatus_31 ?_
    refine kc_top (fixM_ok (okM_st hk0_21)) ?_
    refine va_put (D := gD G) (ci := 9) (v := .int (m_cpsr (t_cpsr σ (((v0 &&& (-268435201)) &&& (-32)) ||| k0_21)))) (ty := .int) hx hb hts ku_11 tyX11 tyX11_ok nmX11 hown hK hP hD hS 0 rfl rfl 4 (by decide) (hts _ kw_109) (fun _ h9 => h9) rfl (tyX11_ok 4 (by decide)) rfl rfl (Nat.le_of_ble_eq_true rfl) dX11_putStatus_32 (fun H locs hP hD hS => ?_)
    have hP : va_P (gD G) vwCl (mW G (t_cpsr σ (((v0 &&& (-268435201)) &&& (-32)) ||| k0_21))) H := hP
    have hD : va_D A (mW G (t_cpsr σ (((v0 &&& (-268435201)) &&& (-32)) ||| k0_21))) := hD
    exact hret (t_cpsr σ (((v0 &&& (-268435201)) &&& (-32)) ||| k0_21)) _ _ _ _ hf hP hD hS dX11_putStatus_35
  refine lv_iload_n hx hb dX11_putStatus_0 rfl (lv_at hl 1 rfl) ?_
  refine lv_bipush (v := 31) hx hb dX11_putStatus_1 (by decide) ?_
  refine lv_iand hx hb dX11_putStatus_3 ?_
  refine kp_Si (rest := []) (cy_Model_bank l (v0 &&& 31)) ⟨hx, hb, hml, hown, hts⟩ (va_cwS 1 hts (gi_S kw_203 kw_204 kw_5 kw_205) rfl rfl rfl mdX11_bank ⟨by decide, by decide⟩) rfl hl.1 rfl (Nat.le_of_ble_eq_true rfl) dX11_putStatus_4 ⟨Nat.zero_le _, Nat.zero_le _⟩ ?_
  refine lv_if_ge (tgt := 17) hx hb dX11_putStatus_7 (by decide) (fun h_2 => ?_) (fun h_2 => ?_)
  · have hf := hf.trans (if_pos h_2)
    refine lv_iload_n hx hb dX11_putStatus_17 rfl (lv_at hl 1 rfl) ?_
    refine lv_bipush (v := 31) hx hb dX11_putStatus_18 (by decide) ?_
    refine lv_iand hx hb dX11_putStatus_20 ?_
    exact J21 (v0 &&& 31) (bank_ok2 (by assumption)) _ _ _ hP hD hS (lv_sub hl [0, 1] rfl) hf
  · have hf := hf.trans (if_neg h_2)
    refine lv_aload_n hx hb dX11_putStatus_10 rfl (lv_at hl 0 rfl) ?_
    refine kc_Vr (rest := []) (cy_Model_mode l G σ) ⟨hx, hb, hml, hown, hts⟩ (cwV 0 hts (gi_V kw_259 kw_260 kw_261 kw_5 kw_262) rfl rfl rfl ⟨rfl, mdX11_mode⟩ ⟨by decide, by decide⟩) (va_recv hK hP (ci := 9) (q0 := 0) rfl rfl) mZ_ok hK hP hD hS hA hZ rfl hl.1 rfl (Nat.le_of_ble_eq_true rfl) dX11_putStatus_11 ⟨Nat.zero_le _, Nat.zero_le _⟩ (fun H locs hP hD hS => ?_)
    refine lv_goto (tgt := 21) hx hb dX11_putStatus_14 (by decide) ?_
    exact J21 (y_Model_mode σ) (md_ok _) _ _ _ hP hD hS (lv_sub hl [0, 1] rfl) hf
