def y_Model_set (σ : MS) (v0 : Int32) (v1 : Int32) (v2 : Int32) : MS := (if 0 ≤ (y_Model_bank v0) then (if (y_Model_within v1 0 15) = true then (if v1 = 15 then t_r (t_thrown σ 0) (upd (m_r (t_thrown σ 0)) (y_Model_placeOf v0 v1).toNatClampNeg (y_Model_trimmed (t_thrown σ 0) v2)) else t_r (t_thrown σ 0) (upd (m_r (t_thrown σ 0)) (y_Model_placeOf v0 v1).toNatClampNeg v2)) else t_thrown (t_thrown σ 0) 2) else t_thrown (t_thrown σ 0) 1)
set_option maxRecDepth 20000 in
set_option maxHeartbeats 4000000 in
theorem cy_Model_set (l : Launch) (G : KG) (σ : MS) (v0 : Int32) (v1 : Int32) (v2 : Int32) : KV l yX11_set (Cond.code yX11_set cX11_set 4 none :: lw_all) (kr 2) (gD G) vwCl (gT G) (mZ G) (mW G) [.ref (gA G 20), .int v0, .int v1, .int v2] σ (y_Model_set σ v0 v1 v2) := by
  refine kc_in_v (q := y_Model_set σ v0 v1 v2) (by decide) rfl (Nat.le_of_ble_eq_true rfl) ?_
  intro p e s m args below meth c A Q ls hx hb hml hown hts hK hP hD hA hS hZ hl hret
  have hts := fun w h => hts w (List.mem_cons_of_mem _ h)
  have hl : lv_has ls 4 [(0, .ref (gA G 20)), (1, .int v0), (2, .int v1), (3, .int v2)] := hl
  have hf : y_Model_set σ v0 v1 v2 = y_Model_set σ v0 v1 v2 := rfl
  refine lv_aload_n hx hb dX11_set_0 rfl (lv_at hl 0 rfl) ?_
  refine lv_iconst (v := 0) hx hb dX11_set_1 (by decide) ?_
  refine va_put (D := gD G) (ci := 9) (v := .int 0) (ty := .int) hx hb hts ku_11 tyX11 tyX11_ok nmX11 hown hK hP hD hS 0 rfl rfl 0 (by decide) (hts _ kw_149) (fun _ h9 => h9) rfl (tyX11_ok 0 (by decide)) rfl rfl (Nat.le_of_ble_eq_true rfl) dX11_set_2 (fun H locs hP hD hS => ?_)
  have hP := kP_eq (mWs_thrown G σ 0) hP
  have hD := kD_eq (mWs_thrown G σ 0) hD
  refine lv_iload_n hx hb dX11_set_5 rfl (lv_at hl 1 rfl) ?_
  refine kp_Si (rest := []) (cy_Model_bank l v0) ⟨hx, hb, hml, hown, hts⟩ (va_cwS 1 hts (gi_S kw_203 kw_204 kw_5 kw_205) rfl rfl rfl mdX11_bank ⟨by decide, by decide⟩) rfl hl.1 rfl (Nat.le_of_ble_eq_true rfl) dX11_set_6 ⟨Nat.zero_le _, Nat.zero_le _⟩ ?_
  refine lv_if_ge (tgt := 20) hx hb dX11_set_9 (by decide) (fun h_4 => ?_) (fun h_4 => ?_)
  · have hf := hf.trans (if_pos h_4)
    refine lv_iload_n hx hb dX11_set_20 rfl (lv_at hl 2 rfl) ?_
    refine lv_iconst (v := 0) hx hb dX11_set_21 (by decide) ?_
    refine lv_bipush (v := 15) hx hb dX11_set_22 (by decide) ?_
    refine kp_Si (rest := []) (cy_Model_within l v1 0 15) ⟨hx, hb, hml, hown, hts⟩ (va_cwS 3 hts (gi_S kw_155 kw_156 kw_5 kw_157) rfl rfl rfl mdX11_within ⟨by decide, by decide⟩) rfl hl.1 rfl (Nat.le_of_ble_eq_true rfl) dX11_set_24 ⟨Nat.zero_le _, Nat.zero_le _⟩ ?_
    refine kz_ne (tgt := 38) hx hb dX11_set_27 (by decide) (fun h_5 => ?_) (fun h_5 => ?_)
    · have hf := hf.trans (if_pos h_5)
      refine lv_aload_n hx hb dX11_set_38 rfl (lv_at hl 0 rfl) ?_
      refine va_get (D := gD G) (ci := 9) hx hb hts ku_11 hown hK hP 0 rfl rfl 2 (by decide) (hts _ kw_107) (fun _ h9 => h9) rfl dX11_set_39 ?_
      refine lv_iload_n hx hb dX11_set_42 rfl (lv_at hl 1 rfl) ?_
      refine lv_iload_n hx hb dX11_set_43 rfl (lv_at hl 2 rfl) ?_
      refine kp_Si (rest := [.ref (gA G 22)]) (cy_Model_placeOf l v0 v1) ⟨hx, hb, hml, hown, hts⟩ (va_cwS 2 hts (gi_S kw_206 kw_207 kw_5 kw_208) rfl rfl rfl mdX11_placeOf ⟨by decide, by decide⟩) rfl hl.1 rfl (Nat.le_of_ble_eq_true rfl) dX11_set_44 ⟨Nat.zero_le _, Nat.zero_le _⟩ ?_
      refine lv_iload_n hx hb dX11_set_47 rfl (lv_at hl 2 rfl) ?_
      refine lv_bipush (v := 15) hx hb dX11_set_48 (by decide) ?_
      refine lv_icmp_ne (tgt := 61) hx hb dX11_set_50 (by decide) (fun h_6 => ?_) (fun h_6 => ?_)
      · have hf := hf.trans (if_neg h_6)
        refine lv_iload_n hx hb dX11_set_61 rfl (lv_at hl 3 rfl) ?_
        refine va_iast hx hb hK hP hD hS 2 0 rfl rfl (place_in _ (wi_in (by assumption) (by decide))) dX11_set_62 (fun H locs hP hD hS => ?_)
        have hP := kP_eq (mWs_r G (t_thrown σ 0) (upd (m_r (t_thrown σ 0)) (y_Model_placeOf v0 v1).toNatClampNeg v2)) hP
        have hD := kD_eq (mWs_r G (t_thrown σ 0) (upd (m_r (t_thrown σ 0)) (y_Model_placeOf v0 v1).toNatClampNeg v2)) hD
        exact hret (t_r (t_thrown σ 0) (upd (m_r (t_thrown σ 0)) (y_Model_placeOf v0 v1).toNatClampNeg v2)) _ _ _ _ hf hP hD hS dX11_set_63
      · have hf := hf.trans (if_pos h_6)
        refine lv_aload_n hx hb dX11_set_53 rfl (lv_at hl 0 rfl) ?_
        refine lv_iload_n hx hb dX11_set_54 rfl (lv_at hl 3 rfl) ?_
        refine kc_Vr (rest := [.int (y_Model_placeOf v0 v1), .ref (gA G 22)]) (cy_Model_trimmed l G (t_thrown σ 0) v2) ⟨hx, hb, hml, hown, hts⟩ (cwV 1 hts (gi_V kw_209 kw_210 kw_211 kw_5 kw_212) rfl rfl rfl ⟨rfl, mdX11_trimmed⟩ ⟨by decide, by decide⟩) (va_recv hK hP (ci := 9) (q0 := 0) rfl rfl) mZ_ok hK hP hD hS hA hZ rfl hl.1 rfl (Nat.le_of_ble_eq_true rfl) dX11_set_55 ⟨Nat.zero_le _, Nat.zero_le _⟩ (fun H locs hP hD hS => ?_)
        refine lv_goto (tgt := 62) hx hb dX11_set_58 (by decide) ?_
        refine va_iast hx hb hK hP hD hS 2 0 rfl rfl (place_in _ (wi_in (by assumption) (by decide))) dX11_set_62 (fun H locs hP hD hS => ?_)
        have hP := kP_eq (mWs_r G (t_thrown σ 0) (upd (m_r (t_thrown σ 0)) (y_Model_placeOf v0 v1).toNatClampNeg (y_Model_trimmed (t_thrown σ 0) v2))) hP
        have hD := kD_eq (mWs_r G (t_thrown σ 0) (upd (m_r (t_thrown σ 0)) (y_Model_placeOf v0 v1).toNatClampNeg (y_Model_trimmed (t_thrown σ 0) v2))) hD
        exact hret (t_r (t_thrown σ 0) (upd (m_r (t_thrown σ 0)) (y_Model_placeOf v0 v1).toNatClampNeg (y_Model_trimmed (t_thrown σ 0) v2))) _ _ _ _ hf hP hD hS dX11_set_63
    · have hf := hf.trans (if_neg h_5)
      refine lv_aload_n hx hb dX11_set_30 rfl (lv_at hl 0 rfl) ?_
      refine lv_iconst (v := 2) hx hb dX11_set_31 (by decide) ?_
      refine va_put (D := gD G) (ci := 9) (v := .int 2) (ty := .int) hx hb hts ku_11 tyX11 tyX11_ok nmX11 hown hK hP hD hS 0 rfl rfl 0 (by decide) (hts _ kw_149) (fun _ h9 => h9) rfl (tyX11_ok 0 (by decide)) rfl rfl (Nat.le_of_ble_eq_true rfl) dX11_set_32 (fun H locs hP hD hS => ?_)
      have hP := kP_eq (mWs_thrown G (t_thrown σ 0) 2) hP
      have hD := kD_eq (mWs_thrown G (t_thrown σ 0) 2) hD
      refine lv_goto (tgt := 63) hx hb dX11_set_35 (by decide) ?_
      exact hret (t_thrown (t_thrown σ 0) 2) _ _ _ _ hf hP hD hS dX11_set_63
  · have hf := hf.trans (if_neg h_4)
    refine lv_aload_n hx hb dX11_set_12 rfl (lv_at hl 0 rfl) ?_
    refine lv_iconst (v := 1) hx hb dX11_set_13 (by decide) ?_
    refine va_put (D := gD G) (ci := 9) (v := .int 1) (ty := .int) hx hb hts ku_11 tyX11 tyX11_ok nmX11 hown hK hP hD hS 0 rfl rfl 0 (by decide) (hts _ kw_149) (fun _ h9 => h9) rfl (tyX11_ok 0 (by decide)) rfl rfl (Nat.le_of_ble_eq_true rfl) dX11_set_14 (fun H locs hP hD hS => ?_)
    have hP := kP_eq (mWs_thrown G (t_thrown σ 0) 1) hP
    have hD := kD_eq (mWs_thrown G (t_thrown σ 0) 1) hD
    refine lv_goto (tgt := 63) hx hb dX11_set_17 (by decide) ?_
    exact hret (t_thrown (t_thrown σ 0) 1) _ _ _ _ hf hP hD hS dX11_set_63
