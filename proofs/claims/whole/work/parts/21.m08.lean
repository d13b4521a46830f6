def y_Model_at (σ : MS) (v0 : Int32) : Int32 := m_r σ (y_Model_placeOf (y_Model_mode σ) v0).toNatClampNeg
set_option maxRecDepth 20000 in
set_option maxHeartbeats 4000000 in
theorem cy_Model_at (l : Launch) (G : KG) (σ : MS) (v0 : Int32) (hv0 : vp_in v0 16) : KB l yX11_at (Cond.code yX11_at cX11_at 2 (some .int) :: lw_all) (kr 2) (gD G) vwCl (gT G) (mZ G) (mW G) [.ref (gA G 20), .int v0] σ (y_Model_at σ v0, σ) := by
  refine kc_in_r (q := y_Model_at σ v0) (by decide) rfl (Nat.le_of_ble_eq_true rfl) ?_
  intro p e s m args below meth c A Q ls hx hb hml hown hts hK hP hD hA hS hZ hl hret
  have hts := fun w h => hts w (List.mem_cons_of_mem _ h)
  have hl : lv_has ls 2 [(0, .ref (gA G 20)), (1, .int v0)] := hl
  have hf : y_Model_at σ v0 = y_Model_at σ v0 := rfl
  refine lv_aload_n hx hb dX11_at_0 rfl (lv_at hl 0 rfl) ?_
  refine va_get (D := gD G) (ci := 9) hx hb hts ku_11 hown hK hP 0 rfl rfl 2 (by decide) (hts _ kw_107) (fun _ h9 => h9) rfl dX11_at_1 ?_
  refine lv_aload_n hx hb dX11_at_4 rfl (lv_at hl 0 rfl) ?_
  refine kc_Vr (rest := [.ref (gA G 22)]) (cy_Model_mode l G σ) ⟨hx, hb, hml, hown, hts⟩ (cwV 0 hts (gi_V kw_259 kw_260 kw_261 kw_5 kw_262) rfl rfl rfl ⟨rfl, mdX11_mode⟩ ⟨by decide, by decide⟩) (va_recv hK hP (ci := 9) (q0 := 0) rfl rfl) mZ_ok hK hP hD hS hA hZ rfl hl.1 rfl (Nat.le_of_ble_eq_true rfl) dX11_at_5 ⟨Nat.zero_le _, Nat.zero_le _⟩ (fun H locs hP hD hS => ?_)
  refine lv_iload_n hx hb dX11_at_8 rfl (lv_at hl 1 rfl) ?_
  refine kp_Si (rest := [.ref (gA G 22)]) (cy_Model_placeOf l (y_Model_mode σ) v0) ⟨hx, hb, hml, hown, hts⟩ (va_cwS 2 hts (gi_S kw_206 kw_207 kw_5 kw_208) rfl rfl rfl mdX11_placeOf ⟨by decide, by decide⟩) rfl hl.1 rfl (Nat.le_of_ble_eq_true rfl) dX11_at_9 ⟨Nat.zero_le _, Nat.zero_le _⟩ ?_
  refine va_iald hx hb hK hP 2 0 rfl rfl (place_in _ hv0) dX11_at_12 ?_
  exact hret (m_r σ (y_Model_placeOf (y_Model_mode σ) v0).toNatClampNeg) _ _ _ _ hf hP hD hS dX11_at_13
