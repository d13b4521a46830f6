def y_Model_value (σ : MS) (v0 : Int32) : Int32 := (if (y_Model_isThumb σ) = true then y_Model_operand σ v0 4 else y_Model_operand σ v0 8)
set_option maxRecDepth 20000 in
set_option maxHeartbeats 4000000 in
theorem cy_Model_value (l : Launch) (G : KG) (σ : MS) (v0 : Int32) (hv0 : vp_in v0 16) : KB l yX11_value (Cond.code yX11_value cX11_value 2 (some .int) :: lw_all) (kr 4) (gD G) vwCl (gT G) (mZ G) (mW G) [.ref (gA G 20), .int v0] σ (y_Model_value σ v0, σ) := by
  refine kc_in_r (q := y_Model_value σ v0) (by decide) rfl (Nat.le_of_ble_eq_true rfl) ?_
  intro p e s m args below meth c A Q ls hx hb hml hown hts hK hP hD hA hS hZ hl hret
  have hts := fun w h => hts w (List.mem_cons_of_mem _ h)
  have hl : lv_has ls 2 [(0, .ref (gA G 20)), (1, .int v0)] := hl
  have hf : y_Model_value σ v0 = y_Model_value σ v0 := rfl
  refine lv_aload_n hx hb dX11_value_0 rfl (lv_at hl 0 rfl) ?_
  refine lv_iload_n hx hb dX11_value_1 rfl (lv_at hl 1 rfl) ?_
  refine lv_aload_n hx hb dX11_value_2 rfl (lv_at hl 0 rfl) ?_
  refine kc_Vr (rest := [.int v0, .ref (gA G 20)]) (cy_Model_isThumb l G σ) ⟨hx, hb, hml, hown, hts⟩ (cwV 0 hts (gi_V kw_213 kw_214 kw_215 kw_5 kw_216) rfl rfl rfl ⟨rfl, mdX11_isThumb⟩ ⟨by decide, by decide⟩) (va_recv hK hP (ci := 9) (q0 := 0) rfl rfl) mZ_ok hK hP hD hS hA hZ rfl hl.1 rfl (Nat.le_of_ble_eq_true rfl) dX11_value_3 ⟨Nat.zero_le _, Nat.zero_le _⟩ (fun H locs hP hD hS => ?_)
  refine kz_eq (tgt := 13) hx hb dX11_value_6 (by decide) (fun h_2 => ?_) (fun h_2 => ?_)
  · have hf := hf.trans (if_neg h_2)
    refine lv_bipush (v := 8) hx hb dX11_value_13 (by decide) ?_
    refine kc_Vr (rest := []) (cy_Model_operand l G σ v0 8 hv0) ⟨hx, hb, hml, hown, hts⟩ (cwV 2 hts (gi_V kw_830 kw_831 kw_832 kw_5 kw_833) rfl rfl rfl ⟨rfl, mdX11_operand⟩ ⟨by decide, by decide⟩) (va_recv hK hP (ci := 9) (q0 := 0) rfl rfl) mZ_ok hK hP hD hS hA hZ rfl hl.1 rfl (Nat.le_of_ble_eq_true rfl) dX11_value_15 ⟨Nat.zero_le _, Nat.zero_le _⟩ (fun H locs hP hD hS => ?_)
    exact hret (y_Model_operand σ v0 8) _ _ _ _ hf hP hD hS dX11_value_18
  · have hf := hf.trans (if_pos h_2)
    refine lv_iconst (v := 4) hx hb dX11_value_9 (by decide) ?_
    refine lv_goto (tgt := 15) hx hb dX11_value_10 (by decide) ?_
    refine kc_Vr (rest := []) (cy_Model_operand l G σ v0 4 hv0) ⟨hx, hb, hml, hown, hts⟩ (cwV 2 hts (gi_V kw_830 kw_831 kw_832 kw_5 kw_833) rfl rfl rfl ⟨rfl, mdX11_operand⟩ ⟨by decide, by decide⟩) (va_recv hK hP (ci := 9) (q0 := 0) rfl rfl) mZ_ok hK hP hD hS hA hZ rfl hl.1 rfl (Nat.le_of_ble_eq_true rfl) dX11_value_15 ⟨Nat.zero_le _, Nat.zero_le _⟩ (fun H locs hP hD hS => ?_)
    exact hret (y_Model_operand σ v0 4) _ _ _ _ hf hP hD hS dX11_value_18
