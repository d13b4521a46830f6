def y_Model_poke (σ : MS) (v0 : Int32) (v1 : Int32) : Int32 × MS := (if (v0 - v0 / 4 * 4) = 0 then (if (y_Model_within v0 0 262143) = true then (m_memory (t_thrown σ 0) (v0 / 4).toNatClampNeg, t_memory (t_thrown σ 0) (upd (m_memory (t_thrown σ 0)) (v0 / 4).toNatClampNeg v1)) else (y_Model_fail (t_thrown σ 0) 2)) else (y_Model_fail (t_thrown σ 0) 1))
set_option maxRecDepth 20000 in
set_option maxHeartbeats 4000000 in
theorem cy_Model_poke (l : Launch) (G : KG) (σ : MS) (v0 : Int32) (v1 : Int32) : KB l yX11_poke (Cond.code yX11_poke cX11_poke 4 (some .int) :: lw_all) (kr 1) (gD G) vwCl (gT G) (mZ G) (mW G) [.ref (gA G 20), .int v0, .int v1] σ (y_Model_poke σ v0 v1) := by
  refine kc_in_b (q := y_Model_poke σ v0 v1) (by decide) rfl (Nat.le_of_ble_eq_true rfl) ?_
  intro p e s m args below meth c A Q ls hx hb hml hown hts hK hP hD hA hS hZ hl hret
  have hts := fun w h => hts w (List.mem_cons_of_mem _ h)
  have hl : lv_has ls 4 [(0, .ref (gA G 20)), (1, .int v0), (2, .int v1)] := hl
  have hf : y_Model_poke σ v0 v1 = y_Model_poke σ v0 v1 := rfl
  refine lv_aload_n hx hb dX11_poke_0 rfl (lv_at hl 0 rfl) ?_
  refine lv_iconst (v := 0) hx hb dX11_poke_1 (by decide) ?_
  refine va_put (D := gD G) (ci := 9) (v := .int 0) (ty := .int) hx hb hts ku_11 tyX11 tyX11_ok nmX11 hown hK hP hD hS 0 rfl rfl 0 (by decide) (hts _ kw_149) (fun _ h9 => h9) rfl (tyX11_ok 0 (by decide)) rfl rfl (Nat.le_of_ble_eq_true rfl) dX11_poke_2 (fun H locs hP hD hS => ?_)
  have hP := kP_eq (mWs_thrown G σ 0) hP
  have hD := kD_eq (mWs_thrown G σ 0) hD
  refine lv_iload_n hx hb dX11_poke_5 rfl (lv_at hl 1 rfl) ?_
  refine lv_iconst (v := 4) hx hb dX11_poke_6 (by decide) ?_
  refine lv_irem hx hb dX11_poke_7 (by decide) ?_
  refine lv_if_eq (tgt := 17) hx hb dX11_poke_8 (by decide) (fun h_3 => ?_) (fun h_3 => ?_)
  · have hf := hf.trans (if_pos h_3)
    refine lv_iload_n hx hb dX11_poke_17 rfl (lv_at hl 1 rfl) ?_
    refine lv_iconst (v := 0) hx hb dX11_poke_18 (by decide) ?_
    refine lv_ldc (v := 262143) hx hb hown (hts _ kw_150) dX11_poke_19 ?_
    refine kp_Si (rest := []) (cy_Model_within l v0 0 262143) ⟨hx, hb, hml, hown, hts⟩ (va_cwS 3 hts (gi_S kw_155 kw_156 kw_5 kw_157) rfl rfl rfl mdX11_within ⟨by decide, by decide⟩) rfl hl.1 rfl (Nat.le_of_ble_eq_true rfl) dX11_poke_21 ⟨Nat.zero_le _, Nat.zero_le _⟩ ?_
    refine kz_ne (tgt := 33) hx hb dX11_poke_24 (by decide) (fun h_4 => ?_) (fun h_4 => ?_)
    · have hf := hf.trans (if_pos h_4)
      refine lv_aload_n hx hb dX11_poke_33 rfl (lv_at hl 0 rfl) ?_
      refine va_get (D := gD G) (ci := 9) hx hb hts ku_11 hown hK hP 0 rfl rfl 1 (by decide) (hts _ kw_106) (fun _ h9 => h9) rfl dX11_poke_34 ?_
      refine lv_iload_n hx hb dX11_poke_37 rfl (lv_at hl 1 rfl) ?_
      refine lv_iconst (v := 4) hx hb dX11_poke_38 (by decide) ?_
      refine lv_idiv hx hb dX11_poke_39 (by decide) ?_
      refine va_iald hx hb hK hP 1 0 rfl rfl (dv_in (wi_in (by assumption) (by decide))) dX11_poke_40 ?_
      refine lv_istore_n (lv' := [(3, .int (m_memory (t_thrown σ 0) (v0 / 4).toNatClampNeg)), (0, .ref (gA G 20)), (1, .int v0), (2, .int v1)]) hx hb dX11_poke_41 rfl hl (by decide) rfl (fun ls hl => ?_)
      refine lv_aload_n hx hb dX11_poke_42 rfl (lv_at hl 1 rfl) ?_
      refine va_get (D := gD G) (ci := 9) hx hb hts ku_11 hown hK hP 0 rfl rfl 1 (by decide) (hts _ kw_106) (fun _ h9 => h9) rfl dX11_poke_43 ?_
      refine lv_iload_n hx hb dX11_poke_46 rfl (lv_at hl 2 rfl) ?_
      refine lv_iconst (v := 4) hx hb dX11_poke_47 (by decide) ?_
      refine lv_idiv hx hb dX11_poke_48 (by decide) ?_
      refine lv_iload_n hx hb dX11_poke_49 rfl (lv_at hl 3 rfl) ?_
      refine va_iast hx hb hK hP hD hS 1 0 rfl rfl (dv_in (wi_in (by assumption) (by decide))) dX11_poke_50 (fun H locs hP hD hS => ?_)
      have hP := kP_eq (mWs_memory G (t_thrown σ 0) (upd (m_memory (t_thrown σ 0)) (v0 / 4).toNatClampNeg v1)) hP
      have hD := kD_eq (mWs_memory G (t_thrown σ 0) (upd (m_memory (t_thrown σ 0)) (v0 / 4).toNatClampNeg v1)) hD
      refine lv_iload_n hx hb dX11_poke_51 rfl (lv_at hl 0 rfl) ?_
      exact hret (m_memory (t_thrown σ 0) (v0 / 4).toNatClampNeg) (t_memory (t_thrown σ 0) (upd (m_memory (t_thrown σ 0)) (v0 / 4).toNatClampNeg v1)) _ _ _ _ hf hP hD hS dX11_poke_52
    · have hf := hf.trans (if_neg h_4)
      refine lv_aload_n hx hb dX11_poke_27 rfl (lv_at hl 0 rfl) ?_
      refine lv_iconst (v := 2) hx hb dX11_poke_28 (by decide) ?_
      refine kc_Vb (rest := []) (cy_Model_fail l G (t_thrown σ 0) 2) ⟨hx, hb, hml, hown, hts⟩ (cwV 1 hts (gi_V kw_151 kw_152 kw_153 kw_5 kw_154) rfl rfl rfl ⟨rfl, mdX11_fail⟩ ⟨by decide, by decide⟩) (va_recv hK hP (ci := 9) (q0 := 0) rfl rfl) mZ_ok hK hP hD hS hA hZ rfl hl.1 rfl (Nat.le_of_ble_eq_true rfl) dX11_poke_29 ⟨Nat.zero_le _, Nat.zero_le _⟩ (fun H locs hP hD hS => ?_)
      exact hret ((y_Model_fail (t_thrown σ 0) 2).1) ((y_Model_fail (t_thrown σ 0) 2).2) _ _ _ _ hf hP hD hS dX11_poke_32
  · have hf := hf.trans (if_neg h_3)
    refine lv_aload_n hx hb dX11_poke_11 rfl (lv_at hl 0 rfl) ?_
    refine lv_iconst (v := 1) hx hb dX11_poke_12 (by decide) ?_
    refine kc_Vb (rest := []) (cy_Model_fail l G (t_thrown σ 0) 1) ⟨hx, hb, hml, hown, hts⟩ (cwV 1 hts (gi_V kw_151 kw_152 kw_153 kw_5 kw_154) rfl rfl rfl ⟨rfl, mdX11_fail⟩ ⟨by decide, by decide⟩) (va_recv hK hP (ci := 9) (q0 := 0) rfl rfl) mZ_ok hK hP hD hS hA hZ rfl hl.1 rfl (Nat.le_of_ble_eq_true rfl) dX11_poke_13 ⟨Nat.zero_le _, Nat.zero_le _⟩ (fun H locs hP hD hS => ?_)
    exact hret ((y_Model_fail (t_thrown σ 0) 1).1) ((y_Model_fail (t_thrown σ 0) 1).2) _ _ _ _ hf hP hD hS dX11_poke_16
