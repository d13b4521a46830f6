def y_Model_get (σ : MS) (v0 : Int32) (v1 : Int32) : Int32 × MS := (if 0 ≤ (y_Model_bank v0) then (if (y_Model_within v1 0 15) = true then (m_r (t_thrown σ 0) (y_Model_placeOf v0 v1).toNatClampNeg, t_thrown σ 0) else (y_Model_fail (t_thrown σ 0) 2)) else (y_Model_fail (t_thrown σ 0) 1))
set_option maxRecDepth 20000 in
set_option maxHeartbeats 4000000 in
theorem cy_Model_get (l : Launch) (G : KG) (σ : MS) (v0 : Int32) (v1 : Int32) : KB l yX11_get (Cond.code yX11_get cX11_get 3 (some .int) :: lw_all) (kr 2) (gD G) vwCl (gT G) (mZ G) (mW G) [.ref (gA G 20), .int v0, .int v1] σ (y_Model_get σ v0 v1) := by
  refine kc_in_b (q := y_Model_get σ v0 v1) (by decide) rfl (Nat.le_of_ble_eq_true rfl) ?_
  intro p e s m args below meth c A Q ls hx hb hml hown hts hK hP hD hA hS hZ hl hret
  have hts := fun w h => hts w (List.mem_cons_of_mem _ h)
  have hl : lv_has ls 3 [(0, .ref (gA G 20)), (1, .int v0), (2, .int v1)] := hl
  have hf : y_Model_get σ v0 v1 = y_Model_get σ v0 v1 := rfl
  refine lv_aload_n hx hb dX11_get_0 rfl (lv_at hl 0 rfl) ?_
  refine lv_iconst (v := 0) hx hb dX11_get_1 (by decide) ?_
  refine va_put (D := gD G) (ci := 9) (v := .int 0) (ty := .int) hx hb hts ku_11 tyX11 tyX11_ok nmX11 hown hK hP hD hS 0 rfl rfl 0 (by decide) (hts _ kw_149) (fun _ h9 => h9) rfl (tyX11_ok 0 (by decide)) rfl rfl (Nat.le_of_ble_eq_true rfl) dX11_get_2 (fun H locs hP hD hS => ?_)
  have hP := kP_eq (mWs_thrown G σ 0) hP
  have hD := kD_eq (mWs_thrown G σ 0) hD
  refine lv_iload_n hx hb dX11_get_5 rfl (lv_at hl 1 rfl) ?_
  refine kp_Si (rest := []) (cy_Model_bank l v0) ⟨hx, hb, hml, hown, hts⟩ (va_cwS 1 hts (gi_S kw_203 kw_204 kw_5 kw_205) rfl rfl rfl mdX11_bank ⟨by decide, by decide⟩) rfl hl.1 rfl (Nat.le_of_ble_eq_true rfl) dX11_get_6 ⟨Nat.zero_le _, Nat.zero_le _⟩ ?_
  refine lv_if_ge (tgt := 18) hx hb dX11_get_9 (by decide) (fun h_3 => ?_) (fun h_3 => ?_)
  · have hf := hf.trans (if_pos h_3)
    refine lv_iload_n hx hb dX11_get_18 rfl (lv_at hl 2 rfl) ?_
    refine lv_iconst (v := 0) hx hb dX11_get_19 (by decide) ?_
    refine lv_bipush (v := 15) hx hb dX11_get_20 (by decide) ?_
    refine kp_Si (rest := []) (cy_Model_within l v1 0 15) ⟨hx, hb, hml, hown, hts⟩ (va_cwS 3 hts (gi_S kw_155 kw_156 kw_5 kw_157) rfl rfl rfl mdX11_within ⟨by decide, by decide⟩) rfl hl.1 rfl (Nat.le_of_ble_eq_true rfl) dX11_get_22 ⟨Nat.zero_le _, Nat.zero_le _⟩ ?_
    refine kz_eq (tgt := 41) hx hb dX11_get_25 (by decide) (fun h_4 => ?_) (fun h_4 => ?_)
    · have hf := hf.trans (if_neg h_4)
      refine lv_aload_n hx hb dX11_get_41 rfl (lv_at hl 0 rfl) ?_
      refine lv_iconst (v := 2) hx hb dX11_get_42 (by decide) ?_
      refine kc_Vb (rest := []) (cy_Model_fail l G (t_thrown σ 0) 2) ⟨hx, hb, hml, hown, hts⟩ (cwV 1 hts (gi_V kw_151 kw_152 kw_153 kw_5 kw_154) rfl rfl rfl ⟨rfl, mdX11_fail⟩ ⟨by decide, by decide⟩) (va_recv hK hP (ci := 9) (q0 := 0) rfl rfl) mZ_ok hK hP hD hS hA hZ rfl hl.1 rfl (Nat.le_of_ble_eq_true rfl) dX11_get_43 ⟨Nat.zero_le _, Nat.zero_le _⟩ (fun H locs hP hD hS => ?_)
      exact hret ((y_Model_fail (t_thrown σ 0) 2).1) ((y_Model_fail (t_thrown σ 0) 2).2) _ _ _ _ hf hP hD hS dX11_get_46
    · have hf := hf.trans (if_pos h_4)
      refine lv_aload_n hx hb dX11_get_28 rfl (lv_at hl 0 rfl) ?_
      refine va_get (D := gD G) (ci := 9) hx hb hts ku_11 hown hK hP 0 rfl rfl 2 (by decide) (hts _ kw_107) (fun _ h9 => h9) rfl dX11_get_29 ?_
      refine lv_iload_n hx hb dX11_get_32 rfl (lv_at hl 1 rfl) ?_
      refine lv_iload_n hx hb dX11_get_33 rfl (lv_at hl 2 rfl) ?_
      refine kp_Si (rest := [.ref (gA G 22)]) (cy_Model_placeOf l v0 v1) ⟨hx, hb, hml, hown, hts⟩ (va_cwS 2 hts (gi_S kw_206 kw_207 kw_5 kw_208) rfl rfl rfl mdX11_placeOf ⟨by decide, by decide⟩) rfl hl.1 rfl (Nat.le_of_ble_eq_true rfl) dX11_get_34 ⟨Nat.zero_le _, Nat.zero_le _⟩ ?_
      refine va_iald hx hb hK hP 2 0 rfl rfl (place_in _ (wi_in (by assumption) (by decide))) dX11_get_37 ?_
      refine lv_goto (tgt := 46) hx hb dX11_get_38 (by decide) ?_
      exact hret (m_r (t_thrown σ 0) (y_Model_placeOf v0 v1).toNatClampNeg) (t_thrown σ 0) _ _ _ _ hf hP hD hS dX11_get_46
  · have hf := hf.trans (if_neg h_3)
    refine lv_aload_n hx hb dX11_get_12 rfl (lv_at hl 0 rfl) ?_
    refine lv_iconst (v := 1) hx hb dX11_get_13 (by decide) ?_
    refine kc_Vb (rest := []) (cy_Model_fail l G (t_thrown σ 0) 1) ⟨hx, hb, hml, hown, hts⟩ (cwV 1 hts (gi_V kw_151 kw_152 kw_153 kw_5 kw_154) rfl rfl rfl ⟨rfl, mdX11_fail⟩ ⟨by decide, by decide⟩) (va_recv hK hP (ci := 9) (q0 := 0) rfl rfl) mZ_ok hK hP hD hS hA hZ rfl hl.1 rfl (Nat.le_of_ble_eq_true rfl) dX11_get_14 ⟨Nat.zero_le _, Nat.zero_le _⟩ (fun H locs hP hD hS => ?_)
    exact hret ((y_Model_fail (t_thrown σ 0) 1).1) ((y_Model_fail (t_thrown σ 0) 1).2) _ _ _ _ hf hP hD hS dX11_get_17
