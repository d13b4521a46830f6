def y_Model_shiftBy_8 (σ : MS) (v0 : Int32) (v1 : Int32) (v2 : Int32) : Int32 × MS := (y_Model_shift σ v0 v1 v2)
def y_Model_shiftBy_48 (σ : MS) (v0 : Int32) (v1 : Int32) (v2 : Int32) (k0_48 : Int32) : Int32 × MS := ((iu v1 1) ||| k0_48, t_carry σ (decide ((v1 &&& 1) = 1)))
def y_Model_shiftBy (σ : MS) (v0 : Int32) (v1 : Int32) (v2 : Int32) : Int32 × MS := (if 0 < v2 then y_Model_shiftBy_8 σ v0 v1 v2 else (if v0 = 0 then y_Model_shiftBy_8 σ v0 v1 v2 else (if 3 ≤ v0 then (if (y_Model_is σ 29) = true then y_Model_shiftBy_48 σ v0 v1 v2 (-2147483648) else y_Model_shiftBy_48 σ v0 v1 v2 0) else (y_Model_shift σ v0 v1 32))))
set_option maxRecDepth 20000 in
set_option maxHeartbeats 4000000 in
theorem cy_Model_shiftBy (l : Launch) (G : KG) (σ : MS) (v0 : Int32) (v1 : Int32) (v2 : Int32) : KB l yX11_shiftBy (Cond.code yX11_shiftBy cX11_shiftBy 5 (some .int) :: lw_all) (kr 2) (gD G) vwCl (gT G) (mZ G) (mW G) [.ref (gA G 20), .int v0, .int v1, .int v2] σ (y_Model_shiftBy σ v0 v1 v2) := by
  refine kc_in_b (q := y_Model_shiftBy σ v0 v1 v2) (by decide) rfl (Nat.le_of_ble_eq_true rfl) ?_
  intro p e s m args below meth c A Q ls hx hb hml hown hts hK hP hD hA hS hZ hl hret
  have hts := fun w h => hts w (List.mem_cons_of_mem _ h)
  have hl : lv_has ls 5 [(0, .ref (gA G 20)), (1, .int v0), (2, .int v1), (3, .int v2)] := hl
  have hf : y_Model_shiftBy σ v0 v1 v2 = y_Model_shiftBy σ v0 v1 v2 := rfl
  have J8 : ∀ (H : Heap) (locs : List Loc) (ls : Array Slot), va_P (gD G) vwCl (mW G (σ)) H → va_D A (mW G (σ)) → va_S A s.heap H locs → lv_has ls 5 [(0, .ref (gA G 20)), (1, .int v0), (2, .int v1), (3, .int v2)] → y_Model_shiftBy σ v0 v1 v2 = y_Model_shiftBy_8 σ v0 v1 v2 → W p l e (kr 2) s m args below meth c H locs 0 0 Q (F0 m 8 ls []) := by
    intro H locs ls hP hD hS hl hf
    refine lv_aload_n hx hb dX11_shiftBy_8 rfl (lv_at hl 0 rfl) ?_
    refine lv_iload_n hx hb dX11_shiftBy_9 rfl (lv_at hl 1 rfl) ?_
    refine lv_iload_n hx hb dX11_shiftBy_10 rfl (lv_at hl 2 rfl) ?_
    refine lv_iload_n hx hb dX11_shiftBy_11 rfl (lv_at hl 3 rfl) ?_
    refine kc_Vb (rest := []) (cy_Model_shift l G σ v0 v1 v2) ⟨hx, hb, hml, hown, hts⟩ (cwV 3 hts (gi_V kw_763 kw_764 kw_765 kw_5 kw_766) rfl rfl rfl ⟨rfl, mdX11_shift⟩ ⟨by decide, by decide⟩) (va_recv hK hP (ci := 9) (q0 := 0) rfl rfl) mZ_ok hK hP hD hS hA hZ rfl hl.1 rfl (Nat.le_of_ble_eq_true rfl) dX11_shiftBy_12 ⟨Nat.zero_le _, Nat.zero_le _⟩ (fun H locs hP hD hS => ?_)
    exact hret ((y_Model_shift σ v0 v1 v2).1) ((y_Model_shift σ v0 v1 v2).2) _ _ _ _ hf hP hD hS dX11_shiftBy_15
  have J48 : ∀ (k0_48 : Int32) (H : Heap) (locs : List Loc) (ls : Array Slot), va_P (gD G) vwCl (mW G (σ)) H → va_D A (mW G (σ)) → va_S A s.heap H locs → lv_has ls 5 [(0, .ref (gA G 20)), (2, .int v1)] → y_Model_shiftBy σ v0 v1 v2 = y_Model_shiftBy_48 σ v0 v1 v2 k0_48 → W p l e (kr 2) s m args below meth c H locs 0 0 Q (F0 m 48 ls [.int k0_48, .int (iu v1 1)]) := by
    intro k0_48 H locs ls hP hD hS hl hf
    refine lv_ior hx hb dX11_shiftBy_48 ?_
    refine lv_istore (lv' := [(4, .int ((iu v1 1) ||| k0_48)), (0, .ref (gA G 20)), (2, .int v1)]) hx hb dX11_shiftBy_49 hl (by decide) rfl (fun ls hl => ?_)
    refine lv_aload_n hx hb dX11_shiftBy_51 rfl (lv_at hl 1 rfl) ?_
    refine lv_iload_n hx hb dX11_shiftBy_52 rfl (lv_at hl 2 rfl) ?_
    refine lv_iconst (v := 1) hx hb dX11_shiftBy_53 (by decide) ?_
    refine lv_iand hx hb dX11_shiftBy_54 ?_
    refine lv_iconst (v := 1) hx hb dX11_shiftBy_55 (by decide) ?_
    refine kz_dN0 (P := (v1 &&& 1) = 1) (tgt := 63) (M := 64) (fun a b => lv_icmp_ne (tgt := 63) hx hb dX11_shiftBy_56 (by decide) a b) hx hb dX11_shiftBy_59 dX11_shiftBy_60 (by decide) dX11_shiftBy_63 rfl ?_
    refine va_put (D := gD G) (ci := 9) (v := .int (b01 (decide ((v1 &&& 1) = 1)))) (ty := .boolean) hx hb hts ku_11 tyX11 tyX11_ok nmX11 hown hK hP hD hS 0 rfl rfl 12 (by decide) (hts _ kw_762) (fun _ h9 => h9) rfl (tyX11_ok 12 (by decide)) (b01_nar _) (b01_fit _) (Nat.le_of_ble_eq_true rfl) dX11_shiftBy_64 (fun H locs hP hD hS => ?_)
    have hP := kP_eq (mWs_carry G σ (decide ((v1 &&& 1) = 1))) hP
    have hD := kD_eq (mWs_carry G σ (decide ((v1 &&& 1) = 1))) hD
    refine lv_iload hx hb dX11_shiftBy_67 (lv_at hl 0 rfl) ?_
    exact hret ((iu v1 1) ||| k0_48) (t_carry σ (decide ((v1 &&& 1) = 1))) _ _ _ _ hf hP hD hS dX11_shiftBy_69
  refine lv_iload_n hx hb dX11_shiftBy_0 rfl (lv_at hl 3 rfl) ?_
  refine lv_if_gt (tgt := 8) hx hb dX11_shiftBy_1 (by decide) (fun h_7 => ?_) (fun h_7 => ?_)
  · have hf := hf.trans (if_pos h_7)
    exact J8 _ _ _ hP hD hS (lv_sub hl [0, 1, 2, 3] rfl) hf
  · have hf := hf.trans (if_neg h_7)
    refine lv_iload_n hx hb dX11_shiftBy_4 rfl (lv_at hl 1 rfl) ?_
    refine lv_if_ne (tgt := 16) hx hb dX11_shiftBy_5 (by decide) (fun h_8 => ?_) (fun h_8 => ?_)
    · have hf := hf.trans (if_neg h_8)
      refine lv_iload_n hx hb dX11_shiftBy_16 rfl (lv_at hl 1 rfl) ?_
      refine lv_iconst (v := 3) hx hb dX11_shiftBy_17 (by decide) ?_
      refine lv_icmp_ge (tgt := 30) hx hb dX11_shiftBy_18 (by decide) (fun h_9 => ?_) (fun h_9 => ?_)
      · have hf := hf.trans (if_pos h_9)
        refine lv_iload_n hx hb dX11_shiftBy_30 rfl (lv_at hl 2 rfl) ?_
        refine lv_iconst (v := 1) hx hb dX11_shiftBy_31 (by decide) ?_
        refine lv_iushr (v := iu v1 1) hx hb dX11_shiftBy_32 rfl ?_
        refine lv_aload_n hx hb dX11_shiftBy_33 rfl (lv_at hl 0 rfl) ?_
        refine lv_bipush (v := 29) hx hb dX11_shiftBy_34 (by decide) ?_
        refine kc_Vr (rest := [.int (iu v1 1)]) (cy_Model_is l G σ 29) ⟨hx, hb, hml, hown, hts⟩ (cwV 1 hts (gi_V kw_729 kw_730 kw_731 kw_5 kw_732) rfl rfl rfl ⟨rfl, mdX11_is⟩ ⟨by decide, by decide⟩) (va_recv hK hP (ci := 9) (q0 := 0) rfl rfl) mZ_ok hK hP hD hS hA hZ rfl hl.1 rfl (Nat.le_of_ble_eq_true rfl) dX11_shiftBy_36 ⟨Nat.zero_le _, Nat.zero_le _⟩ (fun H locs hP hD hS => ?_)
        refine kz_eq (tgt := 47) hx hb dX11_shiftBy_39 (by decide) (fun h_10 => ?_) (fun h_10 => ?_)
        · have hf := hf.trans (if_neg h_10)
          refine lv_iconst (v := 0) hx hb dX11_shiftBy_47 (by decide) ?_
          exact J48 0 _ _ _ hP hD hS (lv_sub hl [0, 2] rfl) hf
        · have hf := hf.trans (if_pos h_10)
          refine lv_ldc (v := (-2147483648)) hx hb hown (hts _ kw_761) dX11_shiftBy_42 ?_
          refine lv_goto (tgt := 48) hx hb dX11_shiftBy_44 (by decide) ?_
          exact J48 (-2147483648) _ _ _ hP hD hS (lv_sub hl [0, 2] rfl) hf
      · have hf := hf.trans (if_neg h_9)
        refine lv_aload_n hx hb dX11_shiftBy_21 rfl (lv_at hl 0 rfl) ?_
        refine lv_iload_n hx hb dX11_shiftBy_22 rfl (lv_at hl 1 rfl) ?_
        refine lv_iload_n hx hb dX11_shiftBy_23 rfl (lv_at hl 2 rfl) ?_
        refine lv_bipush (v := 32) hx hb dX11_shiftBy_24 (by decide) ?_
        refine kc_Vb (rest := []) (cy_Model_shift l G σ v0 v1 32) ⟨hx, hb, hml, hown, hts⟩ (cwV 3 hts (gi_V kw_763 kw_764 kw_765 kw_5 kw_766) rfl rfl rfl ⟨rfl, mdX11_shift⟩ ⟨by decide, by decide⟩) (va_recv hK hP (ci := 9) (q0 := 0) rfl rfl) mZ_ok hK hP hD hS hA hZ rfl hl.1 rfl (Nat.le_of_ble_eq_true rfl) dX11_shiftBy_26 ⟨Nat.zero_le _, Nat.zero_le _⟩ (fun H locs hP hD hS => ?_)
        exact hret ((y_Model_shift σ v0 v1 32).1) ((y_Model_shift σ v0 v1 32).2) _ _ _ _ hf hP hD hS dX11_shiftBy_29
    · have hf := hf.trans (if_pos h_8)
      exact J8 _ _ _ hP hD hS (lv_sub hl [0, 1, 2, 3] rfl) hf
