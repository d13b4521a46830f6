def y_Model_turnedNumber (σ : MS) (v0 : Int32) : Int32 × MS := (y_Model_shift σ 3 (v0 &&& 255) (2 * ((v0 >>> ((8 : Int32) &&& 31)) &&& 15)))
set_option maxRecDepth 20000 in
set_option maxHeartbeats 4000000 in
theorem cy_Model_turnedNumber (l : Launch) (G : KG) (σ : MS) (v0 : Int32) : KB l yX11_turnedNumber (Cond.code yX11_turnedNumber cX11_turnedNumber 3 (some .int) :: lw_all) (kr 2) (gD G) vwCl (gT G) (mZ G) (mW G) [.ref (gA G 20), .int v0] σ (y_Model_turnedNumber σ v0) := by
  refine kc_in_b (q := y_Model_turnedNumber σ v0) (by decide) rfl (Nat.le_of_ble_eq_true rfl) ?_
  intro p e s m args below meth c A Q ls hx hb hml hown hts hK hP hD hA hS hZ hl hret
  have hts := fun w h => hts w (List.mem_cons_of_mem _ h)
  have hl : lv_has ls 3 [(0, .ref (gA G 20)), (1, .int v0)] := hl
  have hf : y_Model_turnedNumber σ v0 = y_Model_turnedNumber σ v0 := rfl
  refine lv_iconst (v := 2) hx hb dX11_turnedNumber_0 (by decide) ?_
  refine lv_iload_n hx hb dX11_turnedNumber_1 rfl (lv_at hl 1 rfl) ?_
  refine lv_bipush (v := 8) hx hb dX11_turnedNumber_2 (by decide) ?_
  refine lv_ishr hx hb dX11_turnedNumber_4 ?_
  refine lv_bipush (v := 15) hx hb dX11_turnedNumber_5 (by decide) ?_
  refine lv_iand hx hb dX11_turnedNumber_7 ?_
  refine lv_imul hx hb dX11_turnedNumber_8 ?_
  refine lv_istore_n (lv' := [(2, .int (2 * ((v0 >>> ((8 : Int32) &&& 31)) &&& 15))), (0, .ref (gA G 20)), (1, .int v0)]) hx hb dX11_turnedNumber_9 rfl hl (by decide) rfl (fun ls hl => ?_)
  refine lv_aload_n hx hb dX11_turnedNumber_10 rfl (lv_at hl 1 rfl) ?_
  refine lv_iconst (v := 3) hx hb dX11_turnedNumber_11 (by decide) ?_
  refine lv_iload_n hx hb dX11_turnedNumber_12 rfl (lv_at hl 2 rfl) ?_
  refine lv_sipush (v := 255) hx hb dX11_turnedNumber_13 (by decide) ?_
  refine lv_iand hx hb dX11_turnedNumber_16 ?_
  refine lv_iload_n hx hb dX11_turnedNumber_17 rfl (lv_at hl 0 rfl) ?_
  refine kc_Vb (rest := []) (cy_Model_shift l G σ 3 (v0 &&& 255) (2 * ((v0 >>> ((8 : Int32) &&& 31)) &&& 15))) ⟨hx, hb, hml, hown, hts⟩ (cwV 3 hts (gi_V kw_763 kw_764 kw_765 kw_5 kw_766) rfl rfl rfl ⟨rfl, mdX11_shift⟩ ⟨by decide, by decide⟩) (va_recv hK hP (ci := 9) (q0 := 0) rfl rfl) mZ_ok hK hP hD hS hA hZ rfl hl.1 rfl (Nat.le_of_ble_eq_true rfl) dX11_turnedNumber_18 ⟨Nat.zero_le _, Nat.zero_le _⟩ (fun H locs hP hD hS => ?_)
  exact hret ((y_Model_shift σ 3 (v0 &&& 255) (2 * ((v0 >>> ((8 : Int32) &&& 31)) &&& 15))).1) ((y_Model_shift σ 3 (v0 &&& 255) (2 * ((v0 >>> ((8 : Int32) &&& 31)) &&& 15))).2) _ _ _ _ hf hP hD hS dX11_turnedNumber_21
