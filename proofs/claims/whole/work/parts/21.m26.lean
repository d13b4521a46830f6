def y_Model_line (σ : MS) (v0 : Int32) (v1 : Bool) : Bool × MS := (if (y_Model_within v0 0 1) = true then (m_lines (t_thrown σ 0) v0.toNatClampNeg, t_lines (t_thrown σ 0) (updz (m_lines (t_thrown σ 0)) v0.toNatClampNeg v1)) else (if ((y_Model_fail (t_thrown σ 0) 1).1) ≤ 0 then (false, (y_Model_fail (t_thrown σ 0) 1).2) else (true, (y_Model_fail (t_thrown σ 0) 1).2)))
set_option maxRecDepth 20000 in
set_option maxHeartbeats 4000000 in
theorem cy_Model_line (l : Launch) (G : KG) (σ : MS) (v0 : Int32) (v1 : Bool) : KB l yX11_line (Cond.code yX11_line cX11_line 4 (some .boolean) :: lw_all) (kr 1) (gD G) vwCl (gT G) (mZ G) (mW G) [.ref (gA G 20), .int v0, .int (b01 v1)] σ (b01 (y_Model_line σ v0 v1).1, (y_Model_line σ v0 v1).2) := by
  refine kc_in_z (q := y_Model_line σ v0 v1) (by decide) rfl (Nat.le_of_ble_eq_true rfl) ?_
  intro p e s m args below meth c A Q ls hx hb hml hown hts hK hP hD hA hS hZ hl hret
  have hts := fun w h => hts w (List.mem_cons_of_mem _ h)
  have hl : lv_has ls 4 [(0, .ref (gA G 20)), (1, .int v0), (2, .int (b01 v1))] := hl
  have hf : y_Model_line σ v0 v1 = y_Model_line σ v0 v1 := rfl
  refine lv_aload_n hx hb dX11_line_0 rfl (lv_at hl 0 rfl) ?_
  refine lv_iconst (v := 0) hx hb dX11_line_1 (by decide) ?_
  refine va_put (D := gD G) (ci := 9) (v := .int 0) (ty := .int) hx hb hts ku_11 tyX11 tyX11_ok nmX11 hown hK hP hD hS 0 rfl rfl 0 (by decide) (hts _ kw_149) (fun _ h9 => h9) rfl (tyX11_ok 0 (by decide)) rfl rfl (Nat.le_of_ble_eq_true rfl) dX11_line_2 (fun H locs hP hD hS => ?_)
  have hP := kP_eq (mWs_thrown G σ 0) hP
  have hD := kD_eq (mWs_thrown G σ 0) hD
  refine lv_iload_n hx hb dX11_line_5 rfl (lv_at hl 1 rfl) ?_
  refine lv_iconst (v := 0) hx hb dX11_line_6 (by decide) ?_
  refine lv_iconst (v := 1) hx hb dX11_line_7 (by decide) ?_
  refine kp_Si (rest := []) (cy_Model_within l v0 0 1) ⟨hx, hb, hml, hown, hts⟩ (va_cwS 3 hts (gi_S kw_155 kw_156 kw_5 kw_157) rfl rfl rfl mdX11_within ⟨by decide, by decide⟩) rfl hl.1 rfl (Nat.le_of_ble_eq_true rfl) dX11_line_8 ⟨Nat.zero_le _, Nat.zero_le _⟩ ?_
  refine kz_ne (tgt := 28) hx hb dX11_line_11 (by decide) (fun h_3 => ?_) (fun h_3 => ?_)
  · have hf := hf.trans (if_pos h_3)
    refine lv_aload_n hx hb dX11_line_28 rfl (lv_at hl 0 rfl) ?_
    refine va_get (D := gD G) (ci := 9) hx hb hts ku_11 hown hK hP 0 rfl rfl 5 (by decide) (hts _ kw_111) (fun _ h9 => h9) rfl dX11_line_29 ?_
    refine lv_iload_n hx hb dX11_line_32 rfl (lv_at hl 1 rfl) ?_
    refine kc_zald hx hb hK hP 4 1 rfl rfl (wi_in (by assumption) (by decide)) dX11_line_33 ?_
    refine lv_istore_n (lv' := [(3, .int (b01 (m_lines (t_thrown σ 0) v0.toNatClampNeg))), (0, .ref (gA G 20)), (1, .int v0), (2, .int (b01 v1))]) hx hb dX11_line_34 rfl hl (by decide) rfl (fun ls hl => ?_)
    refine lv_aload_n hx hb dX11_line_35 rfl (lv_at hl 1 rfl) ?_
    refine va_get (D := gD G) (ci := 9) hx hb hts ku_11 hown hK hP 0 rfl rfl 5 (by decide) (hts _ kw_111) (fun _ h9 => h9) rfl dX11_line_36 ?_
    refine lv_iload_n hx hb dX11_line_39 rfl (lv_at hl 2 rfl) ?_
    refine lv_iload_n hx hb dX11_line_40 rfl (lv_at hl 3 rfl) ?_
    refine kc_zast (x := v1) hx hb hK hP hD hS 4 1 rfl rfl (wi_in (by assumption) (by decide)) dX11_line_41 (fun H locs hP hD hS => ?_)
    have hP := kP_eq (mWs_lines G (t_thrown σ 0) (updz (m_lines (t_thrown σ 0)) v0.toNatClampNeg v1)) hP
    have hD := kD_eq (mWs_lines G (t_thrown σ 0) (updz (m_lines (t_thrown σ 0)) v0.toNatClampNeg v1)) hD
    refine lv_iload_n hx hb dX11_line_42 rfl (lv_at hl 0 rfl) ?_
    exact hret (m_lines (t_thrown σ 0) v0.toNatClampNeg) (t_lines (t_thrown σ 0) (updz (m_lines (t_thrown σ 0)) v0.toNatClampNeg v1)) _ _ _ _ hf hP hD hS dX11_line_43
  · have hf := hf.trans (if_neg h_3)
    refine lv_aload_n hx hb dX11_line_14 rfl (lv_at hl 0 rfl) ?_
    refine lv_iconst (v := 1) hx hb dX11_line_15 (by decide) ?_
    refine kc_Vb (rest := []) (cy_Model_fail l G (t_thrown σ 0) 1) ⟨hx, hb, hml, hown, hts⟩ (cwV 1 hts (gi_V kw_151 kw_152 kw_153 kw_5 kw_154) rfl rfl rfl ⟨rfl, mdX11_fail⟩ ⟨by decide, by decide⟩) (va_recv hK hP (ci := 9) (q0 := 0) rfl rfl) mZ_ok hK hP hD hS hA hZ rfl hl.1 rfl (Nat.le_of_ble_eq_true rfl) dX11_line_16 ⟨Nat.zero_le _, Nat.zero_le _⟩ (fun H locs hP hD hS => ?_)
    refine lv_if_le (tgt := 26) hx hb dX11_line_19 (by decide) (fun h_4 => ?_) (fun h_4 => ?_)
    · have hf := hf.trans (if_pos h_4)
      refine lv_iconst (v := 0) hx hb dX11_line_26 (by decide) ?_
      exact hret false ((y_Model_fail (t_thrown σ 0) 1).2) _ _ _ _ hf hP hD hS dX11_line_27
    · have hf := hf.trans (if_neg h_4)
      refine lv_iconst (v := 1) hx hb dX11_line_22 (by decide) ?_
      refine lv_goto (tgt := 27) hx hb dX11_line_23 (by decide) ?_
      exact hret true ((y_Model_fail (t_thrown σ 0) 1).2) _ _ _ _ hf hP hD hS dX11_line_27
