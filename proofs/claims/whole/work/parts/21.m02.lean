def y_Model_placeOf (v0 : Int32) (v1 : Int32) : Int32 := (if v1 < 8 then v1 else (if v1 = 15 then v1 else (if (y_Model_bank v0) = 5 then v1 else (if (y_Model_bank v0) = 0 then 8 + v1 else (if 13 ≤ v1 then ((21 + (2 * (y_Model_bank v0))) + v1) - 13 else v1)))))
set_option maxRecDepth 20000 in
set_option maxHeartbeats 4000000 in
theorem cy_Model_placeOf (l : Launch) (v0 : Int32) (v1 : Int32) : KPi l yX11_placeOf (Cond.code yX11_placeOf cX11_placeOf 3 (some .int) :: lw_all) (kr 1) [.int v0, .int v1] (y_Model_placeOf v0 v1) := by
  refine kp_in_i (q := y_Model_placeOf v0 v1) (by decide) rfl (Nat.le_of_ble_eq_true rfl) ?_
  intro p e s m args below meth c Q ls hx hb hml hown hts hl hret
  have hts := fun w h => hts w (List.mem_cons_of_mem _ h)
  have hl : lv_has ls 3 [(0, .int v0), (1, .int v1)] := hl
  have hf : y_Model_placeOf v0 v1 = y_Model_placeOf v0 v1 := rfl
  refine lv_iload_n hx hb dX11_placeOf_0 rfl (lv_at hl 0 rfl) ?_
  refine kp_Si (rest := []) (cy_Model_bank l v0) ⟨hx, hb, hml, hown, hts⟩ (va_cwS 1 hts (gi_S kw_203 kw_204 kw_5 kw_205) rfl rfl rfl mdX11_bank ⟨by decide, by decide⟩) rfl hl.1 rfl (Nat.le_of_ble_eq_true rfl) dX11_placeOf_1 ⟨Nat.zero_le _, Nat.zero_le _⟩ ?_
  refine lv_istore_n (lv' := [(2, .int (y_Model_bank v0)), (0, .int v0), (1, .int v1)]) hx hb dX11_placeOf_4 rfl hl (by decide) rfl (fun ls hl => ?_)
  refine lv_iload_n hx hb dX11_placeOf_5 rfl (lv_at hl 2 rfl) ?_
  refine lv_bipush (v := 8) hx hb dX11_placeOf_6 (by decide) ?_
  refine lv_icmp_lt (tgt := 22) hx hb dX11_placeOf_8 (by decide) (fun h_6 => ?_) (fun h_6 => ?_)
  · have hf := hf.trans (if_pos h_6)
    refine lv_iload_n hx hb dX11_placeOf_22 rfl (lv_at hl 2 rfl) ?_
    exact hret v1 _ _ hf dX11_placeOf_23
  · have hf := hf.trans (if_neg h_6)
    refine lv_iload_n hx hb dX11_placeOf_11 rfl (lv_at hl 2 rfl) ?_
    refine lv_bipush (v := 15) hx hb dX11_placeOf_12 (by decide) ?_
    refine lv_icmp_eq (tgt := 22) hx hb dX11_placeOf_14 (by decide) (fun h_7 => ?_) (fun h_7 => ?_)
    · have hf := hf.trans (if_pos h_7)
      refine lv_iload_n hx hb dX11_placeOf_22 rfl (lv_at hl 2 rfl) ?_
      exact hret v1 _ _ hf dX11_placeOf_23
    · have hf := hf.trans (if_neg h_7)
      refine lv_iload_n hx hb dX11_placeOf_17 rfl (lv_at hl 0 rfl) ?_
      refine lv_iconst (v := 5) hx hb dX11_placeOf_18 (by decide) ?_
      refine lv_icmp_ne (tgt := 24) hx hb dX11_placeOf_19 (by decide) (fun h_8 => ?_) (fun h_8 => ?_)
      · have hf := hf.trans (if_neg h_8)
        refine lv_iload_n hx hb dX11_placeOf_24 rfl (lv_at hl 0 rfl) ?_
        refine lv_if_ne (tgt := 33) hx hb dX11_placeOf_25 (by decide) (fun h_9 => ?_) (fun h_9 => ?_)
        · have hf := hf.trans (if_neg h_9)
          refine lv_iload_n hx hb dX11_placeOf_33 rfl (lv_at hl 2 rfl) ?_
          refine lv_bipush (v := 13) hx hb dX11_placeOf_34 (by decide) ?_
          refine lv_icmp_ge (tgt := 43) hx hb dX11_placeOf_36 (by decide) (fun h_10 => ?_) (fun h_10 => ?_)
          · have hf := hf.trans (if_pos h_10)
            refine lv_bipush (v := 21) hx hb dX11_placeOf_43 (by decide) ?_
            refine lv_iconst (v := 2) hx hb dX11_placeOf_45 (by decide) ?_
            refine lv_iload_n hx hb dX11_placeOf_46 rfl (lv_at hl 0 rfl) ?_
            refine lv_imul hx hb dX11_placeOf_47 ?_
            refine lv_iadd hx hb dX11_placeOf_48 ?_
            refine lv_iload_n hx hb dX11_placeOf_49 rfl (lv_at hl 2 rfl) ?_
            refine lv_iadd hx hb dX11_placeOf_50 ?_
            refine lv_bipush (v := 13) hx hb dX11_placeOf_51 (by decide) ?_
            refine lv_isub hx hb dX11_placeOf_53 ?_
            exact hret (((21 + (2 * (y_Model_bank v0))) + v1) - 13) _ _ hf dX11_placeOf_54
          · have hf := hf.trans (if_neg h_10)
            refine lv_iload_n hx hb dX11_placeOf_39 rfl (lv_at hl 2 rfl) ?_
            refine lv_goto (tgt := 54) hx hb dX11_placeOf_40 (by decide) ?_
            exact hret v1 _ _ hf dX11_placeOf_54
        · have hf := hf.trans (if_pos h_9)
          refine lv_bipush (v := 8) hx hb dX11_placeOf_28 (by decide) ?_
          refine lv_iload_n hx hb dX11_placeOf_30 rfl (lv_at hl 2 rfl) ?_
          refine lv_iadd hx hb dX11_placeOf_31 ?_
          exact hret (8 + v1) _ _ hf dX11_placeOf_32
      · have hf := hf.trans (if_pos h_8)
        refine lv_iload_n hx hb dX11_placeOf_22 rfl (lv_at hl 2 rfl) ?_
        exact hret v1 _ _ hf dX11_placeOf_23
theorem place_in (m : Int32) {i : Int32} (hi : vp_in i 16) : vp_in (y_Model_placeOf m i) 31 := by
  obtain ⟨k, hk, rfl⟩ := vp_in_of hi (by decide)
  unfold y_Model_placeOf vp_in
  rcases bank_cases m with h | h | h | h | h | h | h <;> (rw [h]; clear h hi; revert k; decide +kernel)
def y_Model_mode (σ : MS) : Int32 := (m_cpsr σ) &&& 31
set_option maxRecDepth 20000 in
set_option maxHeartbeats 4000000 in
theorem cy_Model_mode (l : Launch) (G : KG) (σ : MS) : KB l yX11_mode (Cond.code yX11_mode cX11_mode 1 (some .int) :: lw_all) (kr 0) (gD G) vwCl (gT G) (mZ G) (mW G) [.ref (gA G 20)] σ (y_Model_mode σ, σ) := by
  refine kc_in_r (q := y_Model_mode σ) (by decide) rfl (Nat.le_of_ble_eq_true rfl) ?_
  intro p e s m args below meth c A Q ls hx hb hml hown hts hK hP hD hA hS hZ hl hret
  have hts := fun w h => hts w (List.mem_cons_of_mem _ h)
  have hl : lv_has ls 1 [(0, .ref (gA G 20))] := hl
  have hf : y_Model_mode σ = y_Model_mode σ := rfl
  refine lv_aload_n hx hb dX11_mode_0 rfl (lv_at hl 0 rfl) ?_
  refine va_get (D := gD G) (ci := 9) hx hb hts ku_11 hown hK hP 0 rfl rfl 4 (by decide) (hts _ kw_109) (fun _ h9 => h9) rfl dX11_mode_1 ?_
  refine lv_bipush (v := 31) hx hb dX11_mode_4 (by decide) ?_
  refine lv_iand hx hb dX11_mode_6 ?_
  exact hret ((m_cpsr σ) &&& 31) _ _ _ _ hf hP hD hS dX11_mode_7
theorem md_ok (τ : MS) : okm (y_Model_mode τ) := okm_of (m_ok τ)
def y_Model_isThumb (σ : MS) : Bool := (if ((m_cpsr σ) &&& 32) = 0 then false else true)
set_option maxRecDepth 20000 in
set_option maxHeartbeats 4000000 in
theorem cy_Model_isThumb (l : Launch) (G : KG) (σ : MS) : KB l yX11_isThumb (Cond.code yX11_isThumb cX11_isThumb 1 (some .boolean) :: lw_all) (kr 0) (gD G) vwCl (gT G) (mZ G) (mW G) [.ref (gA G 20)] σ (b01 (y_Model_isThumb σ), σ) := by
  refine kc_in_y (q := y_Model_isThumb σ) (by decide) rfl (Nat.le_of_ble_eq_true rfl) ?_
  intro p e s m args below meth c A Q ls hx hb hml hown hts hK hP hD hA hS hZ hl hret
  have hts := fun w h => hts w (List.mem_cons_of_mem _ h)
  have hl : lv_has ls 1 [(0, .ref (gA G 20))] := hl
  have hf : y_Model_isThumb σ = y_Model_isThumb σ := rfl
  refine lv_aload_n hx hb dX11_isThumb_0 rfl (lv_at hl 0 rfl) ?_
  refine va_get (D := gD G) (ci := 9) hx hb hts ku_11 hown hK hP 0 rfl rfl 4 (by decide) (hts _ kw_109) (fun _ h9 => h9) rfl dX11_isThumb_1 ?_
  refine lv_bipush (v := 32) hx hb dX11_isThumb_4 (by decide) ?_
  refine lv_iand hx hb dX11_isThumb_6 ?_
  refine lv_if_eq (tgt := 14) hx hb dX11_isThumb_7 (by decide) (fun h_2 => ?_) (fun h_2 => ?_)
  · have hf := hf.trans (if_pos h_2)
    refine lv_iconst (v := 0) hx hb dX11_isThumb_14 (by decide) ?_
    exact hret false _ _ _ _ hf hP hD hS dX11_isThumb_15
  · have hf := hf.trans (if_neg h_2)
    refine lv_iconst (v := 1) hx hb dX11_isThumb_10 (by decide) ?_
    refine lv_goto (tgt := 15) hx hb dX11_isThumb_11 (by decide) ?_
    exact hret true _ _ _ _ hf hP hD hS dX11_isThumb_15
def y_Model_at (σ : MS) (v0 : Int32) : Int32 := m_r σ (y_Model_placeOf (y_Model_mode σ) v0).toNatClampNeg
set_option maxRecDepth 20000 in
set_option maxHeartbeats 4000000 in
theorem cy_Model_at (l : Launch) (G : KG) (σ : MS) (v0 : Int32) (hv0 : vp_in v0 16) : KB l yX11_at (Cond.code yX11_at cX11_at 2 (some .int) :: lw_all) (kr 2) (gD G) vwCl (gT G) (mZ G) (mW G) [.ref (gA G 20), .int v0] σ (y_Model_at σ v0, σ) := by
  refine kc_in_r (q := y_Model_at σ v0) (by decide) rfl (Nat.le_of_ble_eq_true rfl) ?_
  intro p e s m args below meth c A Q ls hx hb hml hown hts hK hP hD hA hS hZ hl hret
  have hts := fun w h => hts w (List.mem_cons_of_mem _ h)
  have hl : lv_has ls 2 [(0, .ref (gA G 20)), (1, .int v0)] := hl
  have hf : y_Model_at σ v0 = y_Model_at σ v0 := rfl
  refine lv_aload_n hx hb dX11_at_0 rfl (lv_at hl 0 rfl) ?_
  refine va_get (D := gD G) (ci := 9) hx hb hts ku_11 hown hK hP 0 rfl rfl 2 (by decide) (hts _ kw_107) (fun _ h9 => h9) rfl dX11_at_1 ?_
  refine lv_aload_n hx hb dX11_at_4 rfl (lv_at hl 0 rfl) ?_
  refine kc_Vr (rest := [.ref (gA G 22)]) (cy_Model_mode l G σ) ⟨hx, hb, hml, hown, hts⟩ (cwV 0 hts (gi_V kw_259 kw_260 kw_261 kw_5 kw_262) rfl rfl rfl ⟨rfl, mdX11_mode⟩ ⟨by decide, by decide⟩) (va_recv hK hP (ci := 9) (q0 := 0) rfl rfl) mZ_ok hK hP hD hS hA hZ rfl hl.1 rfl (Nat.le_of_ble_eq_true rfl) dX11_at_5 ⟨Nat.zero_le _, Nat.zero_le _⟩ (fun H locs hP hD hS => ?_)
  refine lv_iload_n hx hb dX11_at_8 rfl (lv_at hl 1 rfl) ?_
  refine kp_Si (rest := [.ref (gA G 22)]) (cy_Model_placeOf l (y_Model_mode σ) v0) ⟨hx, hb, hml, hown, hts⟩ (va_cwS 2 hts (gi_S kw_206 kw_207 kw_5 kw_208) rfl rfl rfl mdX11_placeOf ⟨by decide, by decide⟩) rfl hl.1 rfl (Nat.le_of_ble_eq_true rfl) dX11_at_9 ⟨Nat.zero_le _, Nat.zero_le _⟩ ?_
  refine va_iald hx hb hK hP 2 0 rfl rfl (place_in _ hv0) dX11_at_12 ?_
  exact hret (m_r σ (y_Model_placeOf (y_Model_mode σ) v0).toNatClampNeg) _ _ _ _ hf hP hD hS dX11_at_13
def y_Model_operand (σ : MS) (v0 : Int32) (v1 : Int32) : Int32 := (if v0 = 15 then (m_here σ) + v1 else y_Model_at σ v0)
set_option maxRecDepth 20000 in
set_option maxHeartbeats 4000000 in
theorem cy_Model_operand (l : Launch) (G : KG) (σ : MS) (v0 : Int32) (v1 : Int32) (hv0 : vp_in v0 16) : KB l yX11_operand (Cond.code yX11_operand cX11_operand 3 (some .int) :: lw_all) (kr 3) (gD G) vwCl (gT G) (mZ G) (mW G) [.ref (gA G 20), .int v0, .int v1] σ (y_Model_operand σ v0 v1, σ) := by
  refine kc_in_r (q := y_Model_operand σ v0 v1) (by decide) rfl (Nat.le_of_ble_eq_true rfl) ?_
  intro p e s m args below meth c A Q ls hx hb hml hown hts hK hP hD hA hS hZ hl hret
  have hts := fun w h => hts w (List.mem_cons_of_mem _ h)
  have hl : lv_has ls 3 [(0, .ref (gA G 20)), (1, .int v0), (2, .int v1)] := hl
  have hf : y_Model_operand σ v0 v1 = y_Model_operand σ v0 v1 := rfl
  refine lv_iload_n hx hb dX11_operand_0 rfl (lv_at hl 1 rfl) ?_
  refine lv_bipush (v := 15) hx hb dX11_operand_1 (by decide) ?_
  refine lv_icmp_ne (tgt := 15) hx hb dX11_operand_3 (by decide) (fun h_2 => ?_) (fun h_2 => ?_)
  · have hf := hf.trans (if_neg h_2)
    refine lv_aload_n hx hb dX11_operand_15 rfl (lv_at hl 0 rfl) ?_
    refine lv_iload_n hx hb dX11_operand_16 rfl (lv_at hl 1 rfl) ?_
    refine kc_Vr (rest := []) (cy_Model_at l G σ v0 hv0) ⟨hx, hb, hml, hown, hts⟩ (cwV 1 hts (gi_V kw_753 kw_754 kw_755 kw_5 kw_756) rfl rfl rfl ⟨rfl, mdX11_at⟩ ⟨by decide, by decide⟩) (va_recv hK hP (ci := 9) (q0 := 0) rfl rfl) mZ_ok hK hP hD hS hA hZ rfl hl.1 rfl (Nat.le_of_ble_eq_true rfl) dX11_operand_17 ⟨Nat.zero_le _, Nat.zero_le _⟩ (fun H locs hP hD hS => ?_)
    exact hret (y_Model_at σ v0) _ _ _ _ hf hP hD hS dX11_operand_20
  · have hf := hf.trans (if_pos h_2)
    refine lv_aload_n hx hb dX11_operand_6 rfl (lv_at hl 0 rfl) ?_
    refine va_get (D := gD G) (ci := 9) hx hb hts ku_11 hown hK hP 0 rfl rfl 8 (by decide) (hts _ kw_726) (fun _ h9 => h9) rfl dX11_operand_7 ?_
    refine lv_iload_n hx hb dX11_operand_10 rfl (lv_at hl 2 rfl) ?_
    refine lv_iadd hx hb dX11_operand_11 ?_
    refine lv_goto (tgt := 20) hx hb dX11_operand_12 (by decide) ?_
    exact hret ((m_here σ) + v1) _ _ _ _ hf hP hD hS dX11_operand_20
