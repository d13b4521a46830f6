def y_Model_status (σ : MS) (v0 : Int32) : Int32 × MS := (m_cpsr (t_thrown σ 0), t_r (y_Model_putStatus (t_thrown σ 0) v0) (upd (m_r (y_Model_putStatus (t_thrown σ 0) v0)) (15 : Int32).toNatClampNeg (y_Model_trimmed (y_Model_putStatus (t_thrown σ 0) v0) (m_r (y_Model_putStatus (t_thrown σ 0) v0) (15 : Int32).toNatClampNeg))))
set_option maxRecDepth 20000 in
set_option maxHeartbeats 4000000 in
theorem cy_Model_status (l : Launch) (G : KG) (σ : MS) (v0 : Int32) : KB l yX11_status (Cond.code yX11_status cX11_status 3 (some .int) :: lw_all) (kr 2) (gD G) vwCl (gT G) (mZ G) (mW G) [.ref (gA G 20), .int v0] σ (y_Model_status σ v0) := by
  refine kc_in_b (q := y_Model_status σ v0) (by decide) rfl (Nat.le_of_ble_eq_true rfl) ?_
  intro p e s m args below meth c A Q ls hx hb hml hown hts hK hP hD hA hS hZ hl hret
  have hts := fun w h => hts w (List.mem_cons_of_mem _ h)
  have hl : lv_has ls 3 [(0, .ref (gA G 20)), (1, .int v0)] := hl
  have hf : y_Model_status σ v0 = y_Model_status σ v0 := rfl
  refine lv_aload_n hx hb dX11_status_0 rfl (lv_at hl 0 rfl) ?_
  refine lv_iconst (v := 0) hx hb dX11_status_1 (by decide) ?_
  refine va_put (D := gD G) (ci := 9) (v := .int 0) (ty := .int) hx hb hts ku_11 tyX11 tyX11_ok nmX11 hown hK hP hD hS 0 rfl rfl 0 (by decide) (hts _ kw_149) (fun _ h9 => h9) rfl (tyX11_ok 0 (by decide)) rfl rfl (Nat.le_of_ble_eq_true rfl) dX11_status_2 (fun H locs hP hD hS => ?_)
  have hP := kP_eq (mWs_thrown G σ 0) hP
  have hD := kD_eq (mWs_thrown G σ 0) hD
  refine lv_aload_n hx hb dX11_status_5 rfl (lv_at hl 0 rfl) ?_
  refine va_get (D := gD G) (ci := 9) hx hb hts ku_11 hown hK hP 0 rfl rfl 4 (by decide) (hts _ kw_109) (fun _ h9 => h9) rfl dX11_status_6 ?_
  refine lv_istore_n (lv' := [(2, .int (m_cpsr (t_thrown σ 0))), (0, .ref (gA G 20)), (1, .int v0)]) hx hb dX11_status_9 rfl hl (by decide) rfl (fun ls hl => ?_)
  refine lv_aload_n hx hb dX11_status_10 rfl (lv_at hl 1 rfl) ?_
  refine lv_iload_n hx hb dX11_status_11 rfl (lv_at hl 2 rfl) ?_
  refine kc_Vv (rest := []) (cy_Model_putStatus l G (t_thrown σ 0) v0) ⟨hx, hb, hml, hown, hts⟩ (cwV 1 hts (gi_V kw_254 kw_255 kw_256 kw_5 kw_257) rfl rfl rfl ⟨rfl, mdX11_putStatus⟩ ⟨by decide, by decide⟩) (va_recv hK hP (ci := 9) (q0 := 0) rfl rfl) mZ_ok hK hP hD hS hA hZ rfl hl.1 rfl (Nat.le_of_ble_eq_true rfl) dX11_status_12 ⟨Nat.zero_le _, Nat.zero_le _⟩ (fun H locs hP hD hS => ?_)
  refine lv_aload_n hx hb dX11_status_15 rfl (lv_at hl 1 rfl) ?_
  refine va_get (D := gD G) (ci := 9) hx hb hts ku_11 hown hK hP 0 rfl rfl 2 (by decide) (hts _ kw_107) (fun _ h9 => h9) rfl dX11_status_16 ?_
  refine lv_bipush (v := 15) hx hb dX11_status_19 (by decide) ?_
  refine lv_aload_n hx hb dX11_status_21 rfl (lv_at hl 1 rfl) ?_
  refine lv_aload_n hx hb dX11_status_22 rfl (lv_at hl 1 rfl) ?_
  refine va_get (D := gD G) (ci := 9) hx hb hts ku_11 hown hK hP 0 rfl rfl 2 (by decide) (hts _ kw_107) (fun _ h9 => h9) rfl dX11_status_23 ?_
  refine lv_bipush (v := 15) hx hb dX11_status_26 (by decide) ?_
  refine va_iald hx hb hK hP 2 0 rfl rfl (by unfold vp_in; decide) dX11_status_28 ?_
  refine kc_Vr (rest := [.int 15, .ref (gA G 22)]) (cy_Model_trimmed l G (y_Model_putStatus (t_thrown σ 0) v0) (m_r (y_Model_putStatus (t_thrown σ 0) v0) (15 : Int32).toNatClampNeg)) ⟨hx, hb, hml, hown, hts⟩ (cwV 1 hts (gi_V kw_209 kw_210 kw_211 kw_5 kw_212) rfl rfl rfl ⟨rfl, mdX11_trimmed⟩ ⟨by decide, by decide⟩) (va_recv hK hP (ci := 9) (q0 := 0) rfl rfl) mZ_ok hK hP hD hS hA hZ rfl hl.1 rfl (Nat.le_of_ble_eq_true rfl) dX11_status_29 ⟨Nat.zero_le _, Nat.zero_le _⟩ (fun H locs hP hD hS => ?_)
  refine va_iast hx hb hK hP hD hS 2 0 rfl rfl (by unfold vp_in; decide) dX11_status_32 (fun H locs hP hD hS => ?_)
  have hP := kP_eq (mWs_r G (y_Model_putStatus (t_thrown σ 0) v0) (upd (m_r (y_Model_putStatus (t_thrown σ 0) v0)) (15 : Int32).toNatClampNeg (y_Model_trimmed (y_Model_putStatus (t_thrown σ 0) v0) (m_r (y_Model_putStatus (t_thrown σ 0) v0) (15 : Int32).toNatClampNeg)))) hP
  have hD := kD_eq (mWs_r G (y_Model_putStatus (t_thrown σ 0) v0) (upd (m_r (y_Model_putStatus (t_thrown σ 0) v0)) (15 : Int32).toNatClampNeg (y_Model_trimmed (y_Model_putStatus (t_thrown σ 0) v0) (m_r (y_Model_putStatus (t_thrown σ 0) v0) (15 : Int32).toNatClampNeg)))) hD
  refine lv_iload_n hx hb dX11_status_33 rfl (lv_at hl 0 rfl) ?_
  exact hret (m_cpsr (t_thrown σ 0)) (t_r (y_Model_putStatus (t_thrown σ 0) v0) (upd (m_r (y_Model_putStatus (t_thrown σ 0) v0)) (15 : Int32).toNatClampNeg (y_Model_trimmed (y_Model_putStatus (t_thrown σ 0) v0) (m_r (y_Model_putStatus (t_thrown σ 0) v0) (15 : Int32).toNatClampNeg)))) _ _ _ _ hf hP hD hS dX11_status_34
