def y_Model_put (σ : MS) (v0 : Int32) (v1 : Int32) : MS := (if v0 = 15 then t_jumps (t_r σ (upd (m_r σ) (15 : Int32).toNatClampNeg (y_Model_trimmed σ v1))) true else t_r σ (upd (m_r σ) (y_Model_placeOf (y_Model_mode σ) v0).toNatClampNeg v1))
set_option maxRecDepth 20000 in
set_option maxHeartbeats 4000000 in
theorem cy_Model_put (l : Launch) (G : KG) (σ : MS) (v0 : Int32) (v1 : Int32) (hv0 : vp_in v0 16) : KV l yX11_put (Cond.code yX11_put cX11_put 3 none :: lw_all) (kr 2) (gD G) vwCl (gT G) (mZ G) (mW G) [.ref (gA G 20), .int v0, .int v1] σ (y_Model_put σ v0 v1) := by
  refine kc_in_v (q := y_Model_put σ v0 v1) (by decide) rfl (Nat.le_of_ble_eq_true rfl) ?_
  intro p e s m args below meth c A Q ls hx hb hml hown hts hK hP hD hA hS hZ hl hret
  have hts := fun w h => hts w (List.mem_cons_of_mem _ h)
  have hl : lv_has ls 3 [(0, .ref (gA G 20)), (1, .int v0), (2, .int v1)] := hl
  have hf : y_Model_put σ v0 v1 = y_Model_put σ v0 v1 := rfl
  refine lv_iload_n hx hb dX11_put_0 rfl (lv_at hl 1 rfl) ?_
  refine lv_bipush (v := 15) hx hb dX11_put_1 (by decide) ?_
  refine lv_icmp_ne (tgt := 26) hx hb dX11_put_3 (by decide) (fun h_2 => ?_) (fun h_2 => ?_)
  · have hf := hf.trans (if_neg h_2)
    refine lv_aload_n hx hb dX11_put_26 rfl (lv_at hl 0 rfl) ?_
    refine va_get (D := gD G) (ci := 9) hx hb hts ku_11 hown hK hP 0 rfl rfl 2 (by decide) (hts _ kw_107) (fun _ h9 => h9) rfl dX11_put_27 ?_
    refine lv_aload_n hx hb dX11_put_30 rfl (lv_at hl 0 rfl) ?_
    refine kc_Vr (rest := [.ref (gA G 22)]) (cy_Model_mode l G σ) ⟨hx, hb, hml, hown, hts⟩ (cwV 0 hts (gi_V kw_259 kw_260 kw_261 kw_5 kw_262) rfl rfl rfl ⟨rfl, mdX11_mode⟩ ⟨by decide, by decide⟩) (va_recv hK hP (ci := 9) (q0 := 0) rfl rfl) mZ_ok hK hP hD hS hA hZ rfl hl.1 rfl (Nat.le_of_ble_eq_true rfl) dX11_put_31 ⟨Nat.zero_le _, Nat.zero_le _⟩ (fun H locs hP hD hS => ?_)
    refine lv_iload_n hx hb dX11_put_34 rfl (lv_at hl 1 rfl) ?_
    refine kp_Si (rest := [.ref (gA G 22)]) (cy_Model_placeOf l (y_Model_mode σ) v0) ⟨hx, hb, hml, hown, hts⟩ (va_cwS 2 hts (gi_S kw_206 kw_207 kw_5 kw_208) rfl rfl rfl mdX11_placeOf ⟨by decide, by decide⟩) rfl hl.1 rfl (Nat.le_of_ble_eq_true rfl) dX11_put_35 ⟨Nat.zero_le _, Nat.zero_le _⟩ ?_
    refine lv_iload_n hx hb dX11_put_38 rfl (lv_at hl 2 rfl) ?_
    refine va_iast hx hb hK hP hD hS 2 0 rfl rfl (place_in _ hv0) dX11_put_39 (fun H locs hP hD hS => ?_)
    have hP := kP_eq (mWs_r G σ (upd (m_r σ) (y_Model_placeOf (y_Model_mode σ) v0).toNatClampNeg v1)) hP
    have hD := kD_eq (mWs_r G σ (upd (m_r σ) (y_Model_placeOf (y_Model_mode σ) v0).toNatClampNeg v1)) hD
    exact hret (t_r σ (upd (m_r σ) (y_Model_placeOf (y_Model_mode σ) v0).toNatClampNeg v1)) _ _ _ _ hf hP hD hS dX11_put_40
  · have hf := hf.trans (if_pos h_2)
    refine lv_aload_n hx hb dX11_put_6 rfl (lv_at hl 0 rfl) ?_
    refine va_get (D := gD G) (ci := 9) hx hb hts ku_11 hown hK hP 0 rfl rfl 2 (by decide) (hts _ kw_107) (fun _ h9 => h9) rfl dX11_put_7 ?_
    refine lv_bipush (v := 15) hx hb dX11_put_10 (by decide) ?_
    refine lv_aload_n hx hb dX11_put_12 rfl (lv_at hl 0 rfl) ?_
    refine lv_iload_n hx hb dX11_put_13 rfl (lv_at hl 2 rfl) ?_
    refine kc_Vr (rest := [.int 15, .ref (gA G 22)]) (cy_Model_trimmed l G σ v1) ⟨hx, hb, hml, hown, hts⟩ (cwV 1 hts (gi_V kw_209 kw_210 kw_211 kw_5 kw_212) rfl rfl rfl ⟨rfl, mdX11_trimmed⟩ ⟨by decide, by decide⟩) (va_recv hK hP (ci := 9) (q0 := 0) rfl rfl) mZ_ok hK hP hD hS hA hZ rfl hl.1 rfl (Nat.le_of_ble_eq_true rfl) dX11_put_14 ⟨Nat.zero_le _, Nat.zero_le _⟩ (fun H locs hP hD hS => ?_)
    refine va_iast hx hb hK hP hD hS 2 0 rfl rfl (by unfold vp_in; decide) dX11_put_17 (fun H locs hP hD hS => ?_)
    have hP := kP_eq (mWs_r G σ (upd (m_r σ) (15 : Int32).toNatClampNeg (y_Model_trimmed σ v1))) hP
    have hD := kD_eq (mWs_r G σ (upd (m_r σ) (15 : Int32).toNatClampNeg (y_Model_trimmed σ v1))) hD
    refine lv_aload_n hx hb dX11_put_18 rfl (lv_at hl 0 rfl) ?_
    refine lv_iconst (v := 1) hx hb dX11_put_19 (by decide) ?_
    refine va_put (D := gD G) (ci := 9) (v := .int (b01 true)) (ty := .boolean) hx hb hts ku_11 tyX11 tyX11_ok nmX11 hown hK hP hD hS 0 rfl rfl 11 (by decide) (hts _ kw_728) (fun _ h9 => h9) rfl (tyX11_ok 11 (by decide)) (b01_nar _) (b01_fit _) (Nat.le_of_ble_eq_true rfl) dX11_put_20 (fun H locs hP hD hS => ?_)
    have hP := kP_eq (mWs_jumps G (t_r σ (upd (m_r σ) (15 : Int32).toNatClampNeg (y_Model_trimmed σ v1))) true) hP
    have hD := kD_eq (mWs_jumps G (t_r σ (upd (m_r σ) (15 : Int32).toNatClampNeg (y_Model_trimmed σ v1))) true) hD
    refine lv_goto (tgt := 40) hx hb dX11_put_23 (by decide) ?_
    exact hret (t_jumps (t_r σ (upd (m_r σ) (15 : Int32).toNatClampNeg (y_Model_trimmed σ v1))) true) _ _ _ _ hf hP hD hS dX11_put_40
