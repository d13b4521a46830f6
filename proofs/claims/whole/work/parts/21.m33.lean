def y_Model_carryIn (σ : MS) : Int32 := (if (y_Model_is σ 29) = true then 1 else 0)
set_option maxRecDepth 20000 in
set_option maxHeartbeats 4000000 in
theorem cy_Model_carryIn (l : Launch) (G : KG) (σ : MS) : KB l yX11_carryIn (Cond.code yX11_carryIn cX11_carryIn 1 (some .int) :: lw_all) (kr 1) (gD G) vwCl (gT G) (mZ G) (mW G) [.ref (gA G 20)] σ (y_Model_carryIn σ, σ) := by
  refine kc_in_r (q := y_Model_carryIn σ) (by decide) rfl (Nat.le_of_ble_eq_true rfl) ?_
  intro p e s m args below meth c A Q ls hx hb hml hown hts hK hP hD hA hS hZ hl hret
  have hts := fun w h => hts w (List.mem_cons_of_mem _ h)
  have hl : lv_has ls 1 [(0, .ref (gA G 20))] := hl
  have hf : y_Model_carryIn σ = y_Model_carryIn σ := rfl
  refine lv_aload_n hx hb dX11_carryIn_0 rfl (lv_at hl 0 rfl) ?_
  refine lv_bipush (v := 29) hx hb dX11_carryIn_1 (by decide) ?_
  refine kc_Vr (rest := []) (cy_Model_is l G σ 29) ⟨hx, hb, hml, hown, hts⟩ (cwV 1 hts (gi_V kw_729 kw_730 kw_731 kw_5 kw_732) rfl rfl rfl ⟨rfl, mdX11_is⟩ ⟨by decide, by decide⟩) (va_recv hK hP (ci := 9) (q0 := 0) rfl rfl) mZ_ok hK hP hD hS hA hZ rfl hl.1 rfl (Nat.le_of_ble_eq_true rfl) dX11_carryIn_3 ⟨Nat.zero_le _, Nat.zero_le _⟩ (fun H locs hP hD hS => ?_)
  refine kz_eq (tgt := 13) hx hb dX11_carryIn_6 (by decide) (fun h_2 => ?_) (fun h_2 => ?_)
  · have hf := hf.trans (if_neg h_2)
    refine lv_iconst (v := 0) hx hb dX11_carryIn_13 (by decide) ?_
    exact hret 0 _ _ _ _ hf hP hD hS dX11_carryIn_14
  · have hf := hf.trans (if_pos h_2)
    refine lv_iconst (v := 1) hx hb dX11_carryIn_9 (by decide) ?_
    refine lv_goto (tgt := 14) hx hb dX11_carryIn_10 (by decide) ?_
    exact hret 1 _ _ _ _ hf hP hD hS dX11_carryIn_14
