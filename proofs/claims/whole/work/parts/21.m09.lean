def y_Model_operand (σ : MS) (v0 : Int32) (v1 : Int32) : Int32 := (if v0 = 15 then (m_here σ) + v1 else y_Model_at σ v0)
set_option maxRecDepth 20000 in
set_option maxHeartbeats 4000000 in
theorem cy_Model_operand (l : Launch) (G : KG) (σ : MS) (v0 : Int32) (v1 : Int32) (hv0 : vp_in v0 16) : KB l yX11_operand (Cond.code yX11_operand cX11_operand 3 (some .int) :: lw_all) (kr 3) (gD G) vwCl (gT G) (mZ G) (mW G) [.ref (gA G 20), .int v0, .int v1] σ (y_Model_operand σ v0 v1, σ) := by
  refine kc_in_r (q := y_Model_operand σ v0 v1) (by decide) rfl (Nat.le_of_ble_eq_true rfl) ?_
  intro p e s m args below meth c A Q ls hx hb hml hown hts hK hP hD hA hS hZ hl hret
  have hts := fun w h => hts w (List.mem_cons_of_mem _ h)
  have hl : lv_has ls 3 [(0, .ref (gA G 20)), (1, .int v0), (2, .int v1)] := hl
  have hf : y_Model_operand σ v0 v1 = y_Model_operand σ v0 v1 := rfl
  refine lv_iload_n hx hb dX11_operand_0 rfl (lv_at hl 1 rfl) ?_
  refine lv_bipush (v := 15) hx hb dX11_operand_1 (by decide) ?_
  refine lv_icmp_ne (tgt := 15) hx hb dX11_operand_3 (by decide) (fun h_2 => ?_) (fun h_2 => ?_)
  · have hf := hf.trans (if_neg h_2)
    refine lv_aload_n hx hb dX11_operand_15 rfl (lv_at hl 0 rfl) ?_
    refine lv_iload_n hx hb dX11_operand_16 rfl (lv_at hl 1 rfl) ?_
    refine kc_Vr (rest := []) (cy_Model_at l G σ v0 hv0) ⟨hx, hb, hml, hown, hts⟩ (cwV 1 hts (gi_V kw_753 kw_754 kw_755 kw_5 kw_756) rfl rfl rfl ⟨rfl, mdX11_at⟩ ⟨by decide, by decide⟩) (va_recv hK hP (ci := 9) (q0 := 0) rfl rfl) mZ_ok hK hP hD hS hA hZ rfl hl.1 rfl (Nat.le_of_ble_eq_true rfl) dX11_operand_17 ⟨Nat.zero_le _, Nat.zero_le _⟩ (fun H locs hP hD hS => ?_)
    exact hret (y_Model_at σ v0) _ _ _ _ hf hP hD hS dX11_operand_20
  · have hf := hf.trans (if_pos h_2)
    refine lv_aload_n hx hb dX11_operand_6 rfl (lv_at hl 0 rfl) ?_
    refine va_get (D := gD G) (ci := 9) hx hb hts ku_11 hown hK hP 0 rfl rfl 8 (by decide) (hts _ kw_726) (fun _ h9 => h9) rfl dX11_operand_7 ?_
    refine lv_iload_n hx hb dX11_operand_10 rfl (lv_at hl 2 rfl) ?_
    refine lv_iadd hx hb dX11_operand_11 ?_
    refine lv_goto (tgt := 20) hx hb dX11_operand_12 (by decide) ?_
    exact hret ((m_here σ) + v1) _ _ _ _ hf hP hD hS dX11_operand_20
