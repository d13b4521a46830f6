def y_Model_kept (σ : MS) : Int32 := (if (y_Model_hasSaved σ) = true then m_spsr σ (y_Model_bank (y_Model_mode σ)).toNatClampNeg else m_cpsr σ)
set_option maxRecDepth 20000 in
set_option maxHeartbeats 4000000 in
theorem cy_Model_kept (l : Launch) (G : KG) (σ : MS) : KB l yX11_kept (Cond.code yX11_kept cX11_kept 1 (some .int) :: lw_all) (kr 2) (gD G) vwCl (gT G) (mZ G) (mW G) [.ref (gA G 20)] σ (y_Model_kept σ, σ) := by
  refine kc_in_r (q := y_Model_kept σ) (by decide) rfl (Nat.le_of_ble_eq_true rfl) ?_
  intro p e s m args below meth c A Q ls hx hb hml hown hts hK hP hD hA hS hZ hl hret
  have hts := fun w h => hts w (List.mem_cons_of_mem _ h)
  have hl : lv_has ls 1 [(0, .ref (gA G 20))] := hl
  have hf : y_Model_kept σ = y_Model_kept σ := rfl
  refine lv_aload_n hx hb dX11_kept_0 rfl (lv_at hl 0 rfl) ?_
  refine kc_Vr (rest := []) (cy_Model_hasSaved l G σ) ⟨hx, hb, hml, hown, hts⟩ (cwV 0 hts (gi_V kw_882 kw_883 kw_884 kw_5 kw_885) rfl rfl rfl ⟨rfl, mdX11_hasSaved⟩ ⟨by decide, by decide⟩) (va_recv hK hP (ci := 9) (q0 := 0) rfl rfl) mZ_ok hK hP hD hS hA hZ rfl hl.1 rfl (Nat.le_of_ble_eq_true rfl) dX11_kept_1 ⟨Nat.zero_le _, Nat.zero_le _⟩ (fun H locs hP hD hS => ?_)
  refine kz_eq (tgt := 22) hx hb dX11_kept_4 (by decide) (fun h_2 => ?_) (fun h_2 => ?_)
  · have hf := hf.trans (if_neg h_2)
    refine lv_aload_n hx hb dX11_kept_22 rfl (lv_at hl 0 rfl) ?_
    refine va_get (D := gD G) (ci := 9) hx hb hts ku_11 hown hK hP 0 rfl rfl 4 (by decide) (hts _ kw_109) (fun _ h9 => h9) rfl dX11_kept_23 ?_
    exact hret (m_cpsr σ) _ _ _ _ hf hP hD hS dX11_kept_26
  · have hf := hf.trans (if_pos h_2)
    refine lv_aload_n hx hb dX11_kept_7 rfl (lv_at hl 0 rfl) ?_
    refine va_get (D := gD G) (ci := 9) hx hb hts ku_11 hown hK hP 0 rfl rfl 3 (by decide) (hts _ kw_108) (fun _ h9 => h9) rfl dX11_kept_8 ?_
    refine lv_aload_n hx hb dX11_kept_11 rfl (lv_at hl 0 rfl) ?_
    refine kc_Vr (rest := [.ref (gA G 23)]) (cy_Model_mode l G σ) ⟨hx, hb, hml, hown, hts⟩ (cwV 0 hts (gi_V kw_259 kw_260 kw_261 kw_5 kw_262) rfl rfl rfl ⟨rfl, mdX11_mode⟩ ⟨by decide, by decide⟩) (va_recv hK hP (ci := 9) (q0 := 0) rfl rfl) mZ_ok hK hP hD hS hA hZ rfl hl.1 rfl (Nat.le_of_ble_eq_true rfl) dX11_kept_12 ⟨Nat.zero_le _, Nat.zero_le _⟩ (fun H locs hP hD hS => ?_)
    refine kp_Si (rest := [.ref (gA G 23)]) (cy_Model_bank l (y_Model_mode σ)) ⟨hx, hb, hml, hown, hts⟩ (va_cwS 1 hts (gi_S kw_203 kw_204 kw_5 kw_205) rfl rfl rfl mdX11_bank ⟨by decide, by decide⟩) rfl hl.1 rfl (Nat.le_of_ble_eq_true rfl) dX11_kept_15 ⟨Nat.zero_le _, Nat.zero_le _⟩ ?_
    refine va_iald hx hb hK hP 3 0 rfl rfl (hs_in (by assumption)) dX11_kept_18 ?_
    refine lv_goto (tgt := 26) hx hb dX11_kept_19 (by decide) ?_
    exact hret (m_spsr σ (y_Model_bank (y_Model_mode σ)).toNatClampNeg) _ _ _ _ hf hP hD hS dX11_kept_26
