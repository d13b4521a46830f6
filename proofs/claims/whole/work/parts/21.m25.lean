def y_Model_saved (σ : MS) (v0 : Int32) (v1 : Int32) : Int32 × MS := (if (y_Model_within (y_Model_bank v0) 0 4) = true then (m_spsr (t_thrown σ 0) (y_Model_bank v0).toNatClampNeg, t_spsr (t_thrown σ 0) (upd (m_spsr (t_thrown σ 0)) (y_Model_bank v0).toNatClampNeg (v1 &&& (-268435201)))) else (y_Model_fail (t_thrown σ 0) 1))
set_option maxRecDepth 20000 in
set_option maxHeartbeats 4000000 in
theorem cy_Model_saved (l : Launch) (G : KG) (σ : MS) (v0 : Int32) (v1 : Int32) : KB l yX11_saved (Cond.code yX11_saved cX11_saved 5 (some .int) :: lw_all) (kr 1) (gD G) vwCl (gT G) (mZ G) (mW G) [.ref (gA G 20), .int v0, .int v1] σ (y_Model_saved σ v0 v1) := by
  refine kc_in_b (q := y_Model_saved σ v0 v1) (by decide) rfl (Nat.le_of_ble_eq_true rfl) ?_
  intro p e s m args below meth c A Q ls hx hb hml hown hts hK hP hD hA hS hZ hl hret
  have hts := fun w h => hts w (List.mem_cons_of_mem _ h)
  have hl : lv_has ls 5 [(0, .ref (gA G 20)), (1, .int v0), (2, .int v1)] := hl
  have hf : y_Model_saved σ v0 v1 = y_Model_saved σ v0 v1 := rfl
  refine lv_aload_n hx hb dX11_saved_0 rfl (lv_at hl 0 rfl) ?_
  refine lv_iconst (v := 0) hx hb dX11_saved_1 (by decide) ?_
  refine va_put (D := gD G) (ci := 9) (v := .int 0) (ty := .int) hx hb hts ku_11 tyX11 tyX11_ok nmX11 hown hK hP hD hS 0 rfl rfl 0 (by decide) (hts _ kw_149) (fun _ h9 => h9) rfl (tyX11_ok 0 (by decide)) rfl rfl (Nat.le_of_ble_eq_true rfl) dX11_saved_2 (fun H locs hP hD hS => ?_)
  have hP := kP_eq (mWs_thrown G σ 0) hP
  have hD := kD_eq (mWs_thrown G σ 0) hD
  refine lv_iload_n hx hb dX11_saved_5 rfl (lv_at hl 1 rfl) ?_
  refine kp_Si (rest := []) (cy_Model_bank l v0) ⟨hx, hb, hml, hown, hts⟩ (va_cwS 1 hts (gi_S kw_203 kw_204 kw_5 kw_205) rfl rfl rfl mdX11_bank ⟨by decide, by decide⟩) rfl hl.1 rfl (Nat.le_of_ble_eq_true rfl) dX11_saved_6 ⟨Nat.zero_le _, Nat.zero_le _⟩ ?_
  refine lv_istore_n (lv' := [(3, .int (y_Model_bank v0)), (0, .ref (gA G 20)), (1, .int v0), (2, .int v1)]) hx hb dX11_saved_9 rfl hl (by decide) rfl (fun ls hl => ?_)
  refine lv_iload_n hx hb dX11_saved_10 rfl (lv_at hl 0 rfl) ?_
  refine lv_iconst (v := 0) hx hb dX11_saved_11 (by decide) ?_
  refine lv_iconst (v := 4) hx hb dX11_saved_12 (by decide) ?_
  refine kp_Si (rest := []) (cy_Model_within l (y_Model_bank v0) 0 4) ⟨hx, hb, hml, hown, hts⟩ (va_cwS 3 hts (gi_S kw_155 kw_156 kw_5 kw_157) rfl rfl rfl mdX11_within ⟨by decide, by decide⟩) rfl hl.1 rfl (Nat.le_of_ble_eq_true rfl) dX11_saved_13 ⟨Nat.zero_le _, Nat.zero_le _⟩ ?_
  refine kz_ne (tgt := 25) hx hb dX11_saved_16 (by decide) (fun h_2 => ?_) (fun h_2 => ?_)
  · have hf := hf.trans (if_pos h_2)
    refine lv_aload_n hx hb dX11_saved_25 rfl (lv_at hl 1 rfl) ?_
    refine va_get (D := gD G) (ci := 9) hx hb hts ku_11 hown hK hP 0 rfl rfl 3 (by decide) (hts _ kw_108) (fun _ h9 => h9) rfl dX11_saved_26 ?_
    refine lv_iload_n hx hb dX11_saved_29 rfl (lv_at hl 0 rfl) ?_
    refine va_iald hx hb hK hP 3 0 rfl rfl (wi_in (by assumption) (by decide)) dX11_saved_30 ?_
    refine lv_istore (lv' := [(4, .int (m_spsr (t_thrown σ 0) (y_Model_bank v0).toNatClampNeg)), (3, .int (y_Model_bank v0)), (0, .ref (gA G 20)), (1, .int v0), (2, .int v1)]) hx hb dX11_saved_31 hl (by decide) rfl (fun ls hl => ?_)
    refine lv_aload_n hx hb dX11_saved_33 rfl (lv_at hl 2 rfl) ?_
    refine va_get (D := gD G) (ci := 9) hx hb hts ku_11 hown hK hP 0 rfl rfl 3 (by decide) (hts _ kw_108) (fun _ h9 => h9) rfl dX11_saved_34 ?_
    refine lv_iload_n hx hb dX11_saved_37 rfl (lv_at hl 1 rfl) ?_
    refine lv_iload_n hx hb dX11_saved_38 rfl (lv_at hl 4 rfl) ?_
    refine lv_ldc (v := (-268435201)) hx hb hown (hts _ kw_258) dX11_saved_39 ?_
    refine lv_iand hx hb dX11_saved_41 ?_
    refine va_iast hx hb hK hP hD hS 3 0 rfl rfl (wi_in (by assumption) (by decide)) dX11_saved_42 (fun H locs hP hD hS => ?_)
    have hP := kP_eq (mWs_spsr G (t_thrown σ 0) (upd (m_spsr (t_thrown σ 0)) (y_Model_bank v0).toNatClampNeg (v1 &&& (-268435201)))) hP
    have hD := kD_eq (mWs_spsr G (t_thrown σ 0) (upd (m_spsr (t_thrown σ 0)) (y_Model_bank v0).toNatClampNeg (v1 &&& (-268435201)))) hD
    refine lv_iload hx hb dX11_saved_43 (lv_at hl 0 rfl) ?_
    exact hret (m_spsr (t_thrown σ 0) (y_Model_bank v0).toNatClampNeg) (t_spsr (t_thrown σ 0) (upd (m_spsr (t_thrown σ 0)) (y_Model_bank v0).toNatClampNeg (v1 &&& (-268435201)))) _ _ _ _ hf hP hD hS dX11_saved_45
  · have hf := hf.trans (if_neg h_2)
    refine lv_aload_n hx hb dX11_saved_19 rfl (lv_at hl 1 rfl) ?_
    refine lv_iconst (v := 1) hx hb dX11_saved_20 (by decide) ?_
    refine kc_Vb (rest := []) (cy_Model_fail l G (t_thrown σ 0) 1) ⟨hx, hb, hml, hown, hts⟩ (cwV 1 hts (gi_V kw_151 kw_152 kw_153 kw_5 kw_154) rfl rfl rfl ⟨rfl, mdX11_fail⟩ ⟨by decide, by decide⟩) (va_recv hK hP (ci := 9) (q0 := 0) rfl rfl) mZ_ok hK hP hD hS hA hZ rfl hl.1 rfl (Nat.le_of_ble_eq_true rfl) dX11_saved_21 ⟨Nat.zero_le _, Nat.zero_le _⟩ (fun H locs hP hD hS => ?_)
    exact hret ((y_Model_fail (t_thrown σ 0) 1).1) ((y_Model_fail (t_thrown σ 0) 1).2) _ _ _ _ hf hP hD hS dX11_saved_24
