def y_Model_numbers_40 (σ : MS) (v0 : Int32) (v1 : Int32) (v2 : Int32) (k0_40 : Int32) : MS := y_Model_finish (t_carry σ (y_Model_is σ 29)) k0_40 v1 (y_Model_at (t_carry σ (y_Model_is σ 29)) v1) v2 true
def y_Model_numbers (σ : MS) (v0 : Int32) (v1 : Int32) (v2 : Int32) : MS := (if v0 = 0 then y_Model_numbers_40 σ v0 v1 v2 13 else (if v0 = 1 then y_Model_numbers_40 σ v0 v1 v2 10 else (if v0 = 2 then y_Model_numbers_40 σ v0 v1 v2 4 else y_Model_numbers_40 σ v0 v1 v2 2)))
set_option maxRecDepth 20000 in
set_option maxHeartbeats 4000000 in
theorem cy_Model_numbers (l : Launch) (G : KG) (σ : MS) (v0 : Int32) (v1 : Int32) (v2 : Int32) (hv1 : vp_in v1 16) : KV l yX11_numbers (Cond.code yX11_numbers cX11_numbers 4 none :: lw_all) (kr 4) (gD G) vwCl (gT G) (mZ G) (mW G) [.ref (gA G 20), .int v0, .int v1, .int v2] σ (y_Model_numbers σ v0 v1 v2) := by
  refine kc_in_v (q := y_Model_numbers σ v0 v1 v2) (by decide) rfl (Nat.le_of_ble_eq_true rfl) ?_
  intro p e s m args below meth c A Q ls hx hb hml hown hts hK hP hD hA hS hZ hl hret
  have hts := fun w h => hts w (List.mem_cons_of_mem _ h)
  have hl : lv_has ls 4 [(0, .ref (gA G 20)), (1, .int v0), (2, .int v1), (3, .int v2)] := hl
  have hf : y_Model_numbers σ v0 v1 v2 = y_Model_numbers σ v0 v1 v2 := rfl
  have J40 : ∀ (k0_40 : Int32) (H : Heap) (locs : List Loc) (ls : Array Slot), va_P (gD G) vwCl (mW G (t_carry σ (y_Model_is σ 29))) H → va_D A (mW G (t_carry σ (y_Model_is σ 29))) → va_S A s.heap H locs → lv_has ls 4 [(0, .ref (gA G 20)), (2, .int v1), (3, .int v2)] → y_Model_numbers σ v0 v1 v2 = y_Model_numbers_40 σ v0 v1 v2 k0_40 → W p l e (kr 4) s m args below meth c H locs 0 0 Q (F0 m 40 ls [.int k0_40, .ref (gA G 20)]) := by
    intro k0_40 H locs ls hP hD hS hl hf
    refine lv_iload_n hx hb dX11_numbers_40 rfl (lv_at hl 1 rfl) ?_
    refine lv_aload_n hx hb dX11_numbers_41 rfl (lv_at hl 0 rfl) ?_
    refine lv_iload_n hx hb dX11_numbers_42 rfl (lv_at hl 1 rfl) ?_
    refine kc_Vr (rest := [.int v1, .int k0_40, .ref (gA G 20)]) (cy_Model_at l G (t_carry σ (y_Model_is σ 29)) v1 hv1) ⟨hx, hb, hml, hown, hts⟩ (cwV 1 hts (gi_V kw_753 kw_754 kw_755 kw_5 kw_756) rfl rfl rfl ⟨rfl, mdX11_at⟩ ⟨by decide, by decide⟩) (va_recv hK hP (ci := 9) (q0 := 0) rfl rfl) mZ_ok hK hP hD hS hA hZ rfl hl.1 rfl (Nat.le_of_ble_eq_true rfl) dX11_numbers_43 ⟨Nat.zero_le _, Nat.zero_le _⟩ (fun H locs hP hD hS => ?_)
    refine lv_iload_n hx hb dX11_numbers_46 rfl (lv_at hl 2 rfl) ?_
    refine lv_iconst (v := 1) hx hb dX11_numbers_47 (by decide) ?_
    refine kc_Vv (rest := []) (cy_Model_finish l G (t_carry σ (y_Model_is σ 29)) k0_40 v1 (y_Model_at (t_carry σ (y_Model_is σ 29)) v1) v2 true hv1) ⟨hx, hb, hml, hown, hts⟩ (cwV 5 hts (gi_V kw_767 kw_768 kw_769 kw_5 kw_770) rfl rfl rfl ⟨rfl, mdX11_finish⟩ ⟨by decide, by decide⟩) (va_recv hK hP (ci := 9) (q0 := 0) rfl rfl) mZ_ok hK hP hD hS hA hZ rfl hl.1 rfl (Nat.le_of_ble_eq_true rfl) dX11_numbers_48 ⟨Nat.zero_le _, Nat.zero_le _⟩ (fun H locs hP hD hS => ?_)
    exact hret (y_Model_finish (t_carry σ (y_Model_is σ 29)) k0_40 v1 (y_Model_at (t_carry σ (y_Model_is σ 29)) v1) v2 true) _ _ _ _ hf hP hD hS dX11_numbers_51
  refine lv_aload_n hx hb dX11_numbers_0 rfl (lv_at hl 0 rfl) ?_
  refine lv_aload_n hx hb dX11_numbers_1 rfl (lv_at hl 0 rfl) ?_
  refine lv_bipush (v := 29) hx hb dX11_numbers_2 (by decide) ?_
  refine kc_Vr (rest := [.ref (gA G 20)]) (cy_Model_is l G σ 29) ⟨hx, hb, hml, hown, hts⟩ (cwV 1 hts (gi_V kw_729 kw_730 kw_731 kw_5 kw_732) rfl rfl rfl ⟨rfl, mdX11_is⟩ ⟨by decide, by decide⟩) (va_recv hK hP (ci := 9) (q0 := 0) rfl rfl) mZ_ok hK hP hD hS hA hZ rfl hl.1 rfl (Nat.le_of_ble_eq_true rfl) dX11_numbers_4 ⟨Nat.zero_le _, Nat.zero_le _⟩ (fun H locs hP hD hS => ?_)
  refine va_put (D := gD G) (ci := 9) (v := .int (b01 (y_Model_is σ 29))) (ty := .boolean) hx hb hts ku_11 tyX11 tyX11_ok nmX11 hown hK hP hD hS 0 rfl rfl 12 (by decide) (hts _ kw_762) (fun _ h9 => h9) rfl (tyX11_ok 12 (by decide)) (b01_nar _) (b01_fit _) (Nat.le_of_ble_eq_true rfl) dX11_numbers_7 (fun H locs hP hD hS => ?_)
  have hP := kP_eq (mWs_carry G σ (y_Model_is σ 29)) hP
  have hD := kD_eq (mWs_carry G σ (y_Model_is σ 29)) hD
  refine lv_aload_n hx hb dX11_numbers_10 rfl (lv_at hl 0 rfl) ?_
  refine lv_iload_n hx hb dX11_numbers_11 rfl (lv_at hl 1 rfl) ?_
  refine lv_if_ne (tgt := 20) hx hb dX11_numbers_12 (by decide) (fun h_4 => ?_) (fun h_4 => ?_)
  · have hf := hf.trans (if_neg h_4)
    refine lv_iload_n hx hb dX11_numbers_20 rfl (lv_at hl 1 rfl) ?_
    refine lv_iconst (v := 1) hx hb dX11_numbers_21 (by decide) ?_
    refine lv_icmp_ne (tgt := 30) hx hb dX11_numbers_22 (by decide) (fun h_5 => ?_) (fun h_5 => ?_)
    · have hf := hf.trans (if_neg h_5)
      refine lv_iload_n hx hb dX11_numbers_30 rfl (lv_at hl 1 rfl) ?_
      refine lv_iconst (v := 2) hx hb dX11_numbers_31 (by decide) ?_
      refine lv_icmp_ne (tgt := 39) hx hb dX11_numbers_32 (by decide) (fun h_6 => ?_) (fun h_6 => ?_)
      · have hf := hf.trans (if_neg h_6)
        refine lv_iconst (v := 2) hx hb dX11_numbers_39 (by decide) ?_
        exact J40 2 _ _ _ hP hD hS (lv_sub hl [0, 2, 3] rfl) hf
      · have hf := hf.trans (if_pos h_6)
        refine lv_iconst (v := 4) hx hb dX11_numbers_35 (by decide) ?_
        refine lv_goto (tgt := 40) hx hb dX11_numbers_36 (by decide) ?_
        exact J40 4 _ _ _ hP hD hS (lv_sub hl [0, 2, 3] rfl) hf
    · have hf := hf.trans (if_pos h_5)
      refine lv_bipush (v := 10) hx hb dX11_numbers_25 (by decide) ?_
      refine lv_goto (tgt := 40) hx hb dX11_numbers_27 (by decide) ?_
      exact J40 10 _ _ _ hP hD hS (lv_sub hl [0, 2, 3] rfl) hf
  · have hf := hf.trans (if_pos h_4)
    refine lv_bipush (v := 13) hx hb dX11_numbers_15 (by decide) ?_
    refine lv_goto (tgt := 40) hx hb dX11_numbers_17 (by decide) ?_
    exact J40 13 _ _ _ hP hD hS (lv_sub hl [0, 2, 3] rfl) hf
