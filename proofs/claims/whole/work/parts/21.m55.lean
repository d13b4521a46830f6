def y_Model_conditional (σ : MS) (v0 : Int32) (v1 : Int32) : MS := (if v0 = 15 then t_fault σ 1 else (if v0 = 14 then y_Model_undefined σ else (if (y_Model_isSo σ v0) = true then y_Model_put σ 15 (((m_here σ) + 4) + (2 * ((v1 <<< ((24 : Int32) &&& 31)) >>> ((24 : Int32) &&& 31)))) else σ)))
set_option maxRecDepth 20000 in
set_option maxHeartbeats 4000000 in
theorem cy_Model_conditional (l : Launch) (G : KG) (σ : MS) (v0 : Int32) (v1 : Int32) : KV l yX11_conditional (Cond.code yX11_conditional cX11_conditional 3 none :: lw_all) (kr 3) (gD G) vwCl (gT G) (mZ G) (mW G) [.ref (gA G 20), .int v0, .int v1] σ (y_Model_conditional σ v0 v1) := by
  refine kc_in_v (q := y_Model_conditional σ v0 v1) (by decide) rfl (Nat.le_of_ble_eq_true rfl) ?_
  intro p e s m args below meth c A Q ls hx hb hml hown hts hK hP hD hA hS hZ hl hret
  have hts := fun w h => hts w (List.mem_cons_of_mem _ h)
  have hl : lv_has ls 3 [(0, .ref (gA G 20)), (1, .int v0), (2, .int v1)] := hl
  have hf : y_Model_conditional σ v0 v1 = y_Model_conditional σ v0 v1 := rfl
  refine lv_iload_n hx hb dX11_conditional_0 rfl (lv_at hl 1 rfl) ?_
  refine lv_bipush (v := 15) hx hb dX11_conditional_1 (by decide) ?_
  refine lv_icmp_ne (tgt := 14) hx hb dX11_conditional_3 (by decide) (fun h_4 => ?_) (fun h_4 => ?_)
  · have hf := hf.trans (if_neg h_4)
    refine lv_iload_n hx hb dX11_conditional_14 rfl (lv_at hl 1 rfl) ?_
    refine lv_bipush (v := 14) hx hb dX11_conditional_15 (by decide) ?_
    refine lv_icmp_ne (tgt := 27) hx hb dX11_conditional_17 (by decide) (fun h_5 => ?_) (fun h_5 => ?_)
    · have hf := hf.trans (if_neg h_5)
      refine lv_aload_n hx hb dX11_conditional_27 rfl (lv_at hl 0 rfl) ?_
      refine lv_iload_n hx hb dX11_conditional_28 rfl (lv_at hl 1 rfl) ?_
      refine kc_Vr (rest := []) (cy_Model_isSo l G σ v0) ⟨hx, hb, hml, hown, hts⟩ (cwV 1 hts (gi_V kw_894 kw_895 kw_896 kw_5 kw_897) rfl rfl rfl ⟨rfl, mdX11_isSo⟩ ⟨by decide, by decide⟩) (va_recv hK hP (ci := 9) (q0 := 0) rfl rfl) mZ_ok hK hP hD hS hA hZ rfl hl.1 rfl (Nat.le_of_ble_eq_true rfl) dX11_conditional_29 ⟨Nat.zero_le _, Nat.zero_le _⟩ (fun H locs hP hD hS => ?_)
      refine kz_eq (tgt := 57) hx hb dX11_conditional_32 (by decide) (fun h_6 => ?_) (fun h_6 => ?_)
      · have hf := hf.trans (if_neg h_6)
        exact hret σ _ _ _ _ hf hP hD hS dX11_conditional_57
      · have hf := hf.trans (if_pos h_6)
        refine lv_aload_n hx hb dX11_conditional_35 rfl (lv_at hl 0 rfl) ?_
        refine lv_bipush (v := 15) hx hb dX11_conditional_36 (by decide) ?_
        refine lv_aload_n hx hb dX11_conditional_38 rfl (lv_at hl 0 rfl) ?_
        refine va_get (D := gD G) (ci := 9) hx hb hts ku_11 hown hK hP 0 rfl rfl 8 (by decide) (hts _ kw_726) (fun _ h9 => h9) rfl dX11_conditional_39 ?_
        refine lv_iconst (v := 4) hx hb dX11_conditional_42 (by decide) ?_
        refine lv_iadd hx hb dX11_conditional_43 ?_
        refine lv_iconst (v := 2) hx hb dX11_conditional_44 (by decide) ?_
        refine lv_iload_n hx hb dX11_conditional_45 rfl (lv_at hl 2 rfl) ?_
        refine lv_bipush (v := 24) hx hb dX11_conditional_46 (by decide) ?_
        refine lv_ishl hx hb dX11_conditional_48 ?_
        refine lv_bipush (v := 24) hx hb dX11_conditional_49 (by decide) ?_
        refine lv_ishr hx hb dX11_conditional_51 ?_
        refine lv_imul hx hb dX11_conditional_52 ?_
        refine lv_iadd hx hb dX11_conditional_53 ?_
        refine kc_Vv (rest := []) (cy_Model_put l G σ 15 (((m_here σ) + 4) + (2 * ((v1 <<< ((24 : Int32) &&& 31)) >>> ((24 : Int32) &&& 31)))) (by unfold vp_in; decide)) ⟨hx, hb, hml, hown, hts⟩ (cwV 2 hts (gi_V kw_806 kw_807 kw_808 kw_5 kw_809) rfl rfl rfl ⟨rfl, mdX11_put⟩ ⟨by decide, by decide⟩) (va_recv hK hP (ci := 9) (q0 := 0) rfl rfl) mZ_ok hK hP hD hS hA hZ rfl hl.1 rfl (Nat.le_of_ble_eq_true rfl) dX11_conditional_54 ⟨Nat.zero_le _, Nat.zero_le _⟩ (fun H locs hP hD hS => ?_)
        exact hret (y_Model_put σ 15 (((m_here σ) + 4) + (2 * ((v1 <<< ((24 : Int32) &&& 31)) >>> ((24 : Int32) &&& 31))))) _ _ _ _ hf hP hD hS dX11_conditional_57
    · have hf := hf.trans (if_pos h_5)
      refine lv_aload_n hx hb dX11_conditional_20 rfl (lv_at hl 0 rfl) ?_
      refine kc_Vv (rest := []) (cy_Model_undefined l G σ) ⟨hx, hb, hml, hown, hts⟩ (cwV 0 hts (gi_V kw_822 kw_823 kw_824 kw_5 kw_825) rfl rfl rfl ⟨rfl, mdX11_undefined⟩ ⟨by decide, by decide⟩) (va_recv hK hP (ci := 9) (q0 := 0) rfl rfl) mZ_ok hK hP hD hS hA hZ rfl hl.1 rfl (Nat.le_of_ble_eq_true rfl) dX11_conditional_21 ⟨Nat.zero_le _, Nat.zero_le _⟩ (fun H locs hP hD hS => ?_)
      refine lv_goto (tgt := 57) hx hb dX11_conditional_24 (by decide) ?_
      exact hret (y_Model_undefined σ) _ _ _ _ hf hP hD hS dX11_conditional_57
  · have hf := hf.trans (if_pos h_4)
    refine lv_aload_n hx hb dX11_conditional_6 rfl (lv_at hl 0 rfl) ?_
    refine lv_iconst (v := 1) hx hb dX11_conditional_7 (by decide) ?_
    refine kc_top (fixF_c (by decide)) ?_
    refine va_put (D := gD G) (ci := 9) (v := .int (fixF 1)) (ty := .int) hx hb hts ku_11 tyX11 tyX11_ok nmX11 hown hK hP hD hS 0 rfl rfl 10 (by decide) (hts _ kw_727) (fun _ h9 => h9) rfl (tyX11_ok 10 (by decide)) rfl rfl (Nat.le_of_ble_eq_true rfl) dX11_conditional_8 (fun H locs hP hD hS => ?_)
    have hP := kP_eq (mWs_fault G σ 1) hP
    have hD := kD_eq (mWs_fault G σ 1) hD
    refine lv_goto (tgt := 57) hx hb dX11_conditional_11 (by decide) ?_
    exact hret (t_fault σ 1) _ _ _ _ hf hP hD hS dX11_conditional_57
