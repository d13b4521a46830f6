def y_Model_count (σ : MS) (v0 : Int32) : Int32 × MS := (if (y_Model_within v0 0 7) = true then (if 6 ≤ v0 then (if v0 = 6 then (m_steps (t_thrown σ 0), t_thrown σ 0) else (m_cpsr (t_thrown σ 0), t_thrown σ 0)) else (m_faults (t_thrown σ 0) v0.toNatClampNeg, t_thrown σ 0)) else (y_Model_fail (t_thrown σ 0) 1))
set_option maxRecDepth 20000 in
set_option maxHeartbeats 4000000 in
theorem cy_Model_count (l : Launch) (G : KG) (σ : MS) (v0 : Int32) : KB l yX11_count (Cond.code yX11_count cX11_count 2 (some .int) :: lw_all) (kr 1) (gD G) vwCl (gT G) (mZ G) (mW G) [.ref (gA G 20), .int v0] σ (y_Model_count σ v0) := by
  refine kc_in_b (q := y_Model_count σ v0) (by decide) rfl (Nat.le_of_ble_eq_true rfl) ?_
  intro p e s m args below meth c A Q ls hx hb hml hown hts hK hP hD hA hS hZ hl hret
  have hts := fun w h => hts w (List.mem_cons_of_mem _ h)
  have hl : lv_has ls 2 [(0, .ref (gA G 20)), (1, .int v0)] := hl
  have hf : y_Model_count σ v0 = y_Model_count σ v0 := rfl
  refine lv_aload_n hx hb dX11_count_0 rfl (lv_at hl 0 rfl) ?_
  refine lv_iconst (v := 0) hx hb dX11_count_1 (by decide) ?_
  refine va_put (D := gD G) (ci := 9) (v := .int 0) (ty := .int) hx hb hts ku_11 tyX11 tyX11_ok nmX11 hown hK hP hD hS 0 rfl rfl 0 (by decide) (hts _ kw_149) (fun _ h9 => h9) rfl (tyX11_ok 0 (by decide)) rfl rfl (Nat.le_of_ble_eq_true rfl) dX11_count_2 (fun H locs hP hD hS => ?_)
  have hP := kP_eq (mWs_thrown G σ 0) hP
  have hD := kD_eq (mWs_thrown G σ 0) hD
  refine lv_iload_n hx hb dX11_count_5 rfl (lv_at hl 1 rfl) ?_
  refine lv_iconst (v := 0) hx hb dX11_count_6 (by decide) ?_
  refine lv_bipush (v := 7) hx hb dX11_count_7 (by decide) ?_
  refine kp_Si (rest := []) (cy_Model_within l v0 0 7) ⟨hx, hb, hml, hown, hts⟩ (va_cwS 3 hts (gi_S kw_155 kw_156 kw_5 kw_157) rfl rfl rfl mdX11_within ⟨by decide, by decide⟩) rfl hl.1 rfl (Nat.le_of_ble_eq_true rfl) dX11_count_9 ⟨Nat.zero_le _, Nat.zero_le _⟩ ?_
  refine kz_ne (tgt := 21) hx hb dX11_count_12 (by decide) (fun h_4 => ?_) (fun h_4 => ?_)
  · have hf := hf.trans (if_pos h_4)
    refine lv_iload_n hx hb dX11_count_21 rfl (lv_at hl 1 rfl) ?_
    refine lv_bipush (v := 6) hx hb dX11_count_22 (by decide) ?_
    refine lv_icmp_ge (tgt := 36) hx hb dX11_count_24 (by decide) (fun h_5 => ?_) (fun h_5 => ?_)
    · have hf := hf.trans (if_pos h_5)
      refine lv_iload_n hx hb dX11_count_36 rfl (lv_at hl 1 rfl) ?_
      refine lv_bipush (v := 6) hx hb dX11_count_37 (by decide) ?_
      refine lv_icmp_ne (tgt := 49) hx hb dX11_count_39 (by decide) (fun h_6 => ?_) (fun h_6 => ?_)
      · have hf := hf.trans (if_neg h_6)
        refine lv_aload_n hx hb dX11_count_49 rfl (lv_at hl 0 rfl) ?_
        refine va_get (D := gD G) (ci := 9) hx hb hts ku_11 hown hK hP 0 rfl rfl 4 (by decide) (hts _ kw_109) (fun _ h9 => h9) rfl dX11_count_50 ?_
        exact hret (m_cpsr (t_thrown σ 0)) (t_thrown σ 0) _ _ _ _ hf hP hD hS dX11_count_53
      · have hf := hf.trans (if_pos h_6)
        refine lv_aload_n hx hb dX11_count_42 rfl (lv_at hl 0 rfl) ?_
        refine va_get (D := gD G) (ci := 9) hx hb hts ku_11 hown hK hP 0 rfl rfl 6 (by decide) (hts _ kw_724) (fun _ h9 => h9) rfl dX11_count_43 ?_
        refine lv_goto (tgt := 53) hx hb dX11_count_46 (by decide) ?_
        exact hret (m_steps (t_thrown σ 0)) (t_thrown σ 0) _ _ _ _ hf hP hD hS dX11_count_53
    · have hf := hf.trans (if_neg h_5)
      refine lv_aload_n hx hb dX11_count_27 rfl (lv_at hl 0 rfl) ?_
      refine va_get (D := gD G) (ci := 9) hx hb hts ku_11 hown hK hP 0 rfl rfl 7 (by decide) (hts _ kw_112) (fun _ h9 => h9) rfl dX11_count_28 ?_
      refine lv_iload_n hx hb dX11_count_31 rfl (lv_at hl 1 rfl) ?_
      refine va_iald hx hb hK hP 5 0 rfl rfl (ct_in (by assumption) (by assumption)) dX11_count_32 ?_
      refine lv_goto (tgt := 53) hx hb dX11_count_33 (by decide) ?_
      exact hret (m_faults (t_thrown σ 0) v0.toNatClampNeg) (t_thrown σ 0) _ _ _ _ hf hP hD hS dX11_count_53
  · have hf := hf.trans (if_neg h_4)
    refine lv_aload_n hx hb dX11_count_15 rfl (lv_at hl 0 rfl) ?_
    refine lv_iconst (v := 1) hx hb dX11_count_16 (by decide) ?_
    refine kc_Vb (rest := []) (cy_Model_fail l G (t_thrown σ 0) 1) ⟨hx, hb, hml, hown, hts⟩ (cwV 1 hts (gi_V kw_151 kw_152 kw_153 kw_5 kw_154) rfl rfl rfl ⟨rfl, mdX11_fail⟩ ⟨by decide, by decide⟩) (va_recv hK hP (ci := 9) (q0 := 0) rfl rfl) mZ_ok hK hP hD hS hA hZ rfl hl.1 rfl (Nat.le_of_ble_eq_true rfl) dX11_count_17 ⟨Nat.zero_le _, Nat.zero_le _⟩ (fun H locs hP hD hS => ?_)
    exact hret ((y_Model_fail (t_thrown σ 0) 1).1) ((y_Model_fail (t_thrown σ 0) 1).2) _ _ _ _ hf hP hD hS dX11_count_20
