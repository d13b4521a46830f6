def y_Model_trimmed (σ : MS) (v0 : Int32) : Int32 := (if (y_Model_isThumb σ) = true then v0 &&& (-2) else v0 &&& (-4))
set_option maxRecDepth 20000 in
set_option maxHeartbeats 4000000 in
theorem cy_Model_trimmed (l : Launch) (G : KG) (σ : MS) (v0 : Int32) : KB l yX11_trimmed (Cond.code yX11_trimmed cX11_trimmed 2 (some .int) :: lw_all) (kr 1) (gD G) vwCl (gT G) (mZ G) (mW G) [.ref (gA G 20), .int v0] σ (y_Model_trimmed σ v0, σ) := by
  refine kc_in_r (q := y_Model_trimmed σ v0) (by decide) rfl (Nat.le_of_ble_eq_true rfl) ?_
  intro p e s m args below meth c A Q ls hx hb hml hown hts hK hP hD hA hS hZ hl hret
  have hts := fun w h => hts w (List.mem_cons_of_mem _ h)
  have hl : lv_has ls 2 [(0, .ref (gA G 20)), (1, .int v0)] := hl
  have hf : y_Model_trimmed σ v0 = y_Model_trimmed σ v0 := rfl
  refine lv_iload_n hx hb dX11_trimmed_0 rfl (lv_at hl 1 rfl) ?_
  refine lv_aload_n hx hb dX11_trimmed_1 rfl (lv_at hl 0 rfl) ?_
  refine kc_Vr (rest := [.int v0]) (cy_Model_isThumb l G σ) ⟨hx, hb, hml, hown, hts⟩ (cwV 0 hts (gi_V kw_213 kw_214 kw_215 kw_5 kw_216) rfl rfl rfl ⟨rfl, mdX11_isThumb⟩ ⟨by decide, by decide⟩) (va_recv hK hP (ci := 9) (q0 := 0) rfl rfl) mZ_ok hK hP hD hS hA hZ rfl hl.1 rfl (Nat.le_of_ble_eq_true rfl) dX11_trimmed_2 ⟨Nat.zero_le _, Nat.zero_le _⟩ (fun H locs hP hD hS => ?_)
  refine kz_eq (tgt := 13) hx hb dX11_trimmed_5 (by decide) (fun h_2 => ?_) (fun h_2 => ?_)
  · have hf := hf.trans (if_neg h_2)
    refine lv_bipush (v := (-4)) hx hb dX11_trimmed_13 (by decide) ?_
    refine lv_iand hx hb dX11_trimmed_15 ?_
    exact hret (v0 &&& (-4)) _ _ _ _ hf hP hD hS dX11_trimmed_16
  · have hf := hf.trans (if_pos h_2)
    refine lv_bipush (v := (-2)) hx hb dX11_trimmed_8 (by decide) ?_
    refine lv_goto (tgt := 15) hx hb dX11_trimmed_10 (by decide) ?_
    refine lv_iand hx hb dX11_trimmed_15 ?_
    exact hret (v0 &&& (-2)) _ _ _ _ hf hP hD hS dX11_trimmed_16
