def y_Model_single_51 (σ : MS) (v0 : Int32) (k0_51 : Int32) : MS := (if (decide (((v0 >>> ((25 : Int32) &&& 31)) &&& 1) = 1)) = true then y_Model_indexed ((y_Model_shiftBy σ ((v0 >>> ((5 : Int32) &&& 31)) &&& 3) (y_Model_value σ (v0 &&& 15)) ((v0 >>> ((7 : Int32) &&& 31)) &&& 31)).2) v0 k0_51 ((y_Model_shiftBy σ ((v0 >>> ((5 : Int32) &&& 31)) &&& 3) (y_Model_value σ (v0 &&& 15)) ((v0 >>> ((7 : Int32) &&& 31)) &&& 31)).1) else y_Model_indexed σ v0 k0_51 (v0 &&& 4095))
def y_Model_single_34 (σ : MS) (v0 : Int32) : MS := (if ((v0 >>> ((22 : Int32) &&& 31)) &&& 1) = 1 then y_Model_single_51 σ v0 1 else y_Model_single_51 σ v0 4)
def y_Model_single (σ : MS) (v0 : Int32) : MS := (if (decide (((v0 >>> ((25 : Int32) &&& 31)) &&& 1) = 1)) = true then (if ((v0 >>> ((4 : Int32) &&& 31)) &&& 1) = 1 then y_Model_undefined σ else y_Model_single_34 σ v0) else y_Model_single_34 σ v0)
set_option maxRecDepth 20000 in
set_option maxHeartbeats 4000000 in
theorem cy_Model_single (l : Launch) (G : KG) (σ : MS) (v0 : Int32) : KV l yX11_single (Cond.code yX11_single cX11_single 3 none :: lw_all) (kr 6) (gD G) vwCl (gT G) (mZ G) (mW G) [.ref (gA G 20), .int v0] σ (y_Model_single σ v0) := by
  refine kc_in_v (q := y_Model_single σ v0) (by decide) rfl (Nat.le_of_ble_eq_true rfl) ?_
  intro p e s m args below meth c A Q ls hx hb hml hown hts hK hP hD hA hS hZ hl hret
  have hts := fun w h => hts w (List.mem_cons_of_mem _ h)
  have hl : lv_has ls 3 [(0, .ref (gA G 20)), (1, .int v0)] := hl
  have hf : y_Model_single σ v0 = y_Model_single σ v0 := rfl
  have J51 : ∀ (k0_51 : Int32) (H : Heap) (locs : List Loc) (ls : Array Slot), va_P (gD G) vwCl (mW G (σ)) H → va_D A (mW G (σ)) → va_S A s.heap H locs → lv_has ls 3 [(0, .ref (gA G 20)), (1, .int v0), (2, .int (b01 (decide (((v0 >>> ((25 : Int32) &&& 31)) &&& 1) = 1))))] → y_Model_single σ v0 = y_Model_single_51 σ v0 k0_51 → W p l e (kr 6) s m args below meth c H locs 0 0 Q (F0 m 51 ls [.int k0_51, .int v0, .ref (gA G 20)]) := by
    intro k0_51 H locs ls hP hD hS hl hf
    refine lv_iload_n hx hb dX11_single_51 rfl (lv_at hl 2 rfl) ?_
    refine kz_eq (tgt := 82) hx hb dX11_single_52 (by decide) (fun h_6 => ?_) (fun h_6 => ?_)
    · have hf := hf.trans (if_neg h_6)
      refine lv_iload_n hx hb dX11_single_82 rfl (lv_at hl 1 rfl) ?_
      refine lv_sipush (v := 4095) hx hb dX11_single_83 (by decide) ?_
      refine lv_iand hx hb dX11_single_86 ?_
      refine kc_Vv (rest := []) (cy_Model_indexed l G σ v0 k0_51 (v0 &&& 4095)) ⟨hx, hb, hml, hown, hts⟩ (cwV 3 hts (gi_V kw_920 kw_921 kw_922 kw_5 kw_923) rfl rfl rfl ⟨rfl, mdX11_indexed⟩ ⟨by decide, by decide⟩) (va_recv hK hP (ci := 9) (q0 := 0) rfl rfl) mZ_ok hK hP hD hS hA hZ rfl hl.1 rfl (Nat.le_of_ble_eq_true rfl) dX11_single_87 ⟨Nat.zero_le _, Nat.zero_le _⟩ (fun H locs hP hD hS => ?_)
      exact hret (y_Model_indexed σ v0 k0_51 (v0 &&& 4095)) _ _ _ _ hf hP hD hS dX11_single_90
    · have hf := hf.trans (if_pos h_6)
      refine lv_aload_n hx hb dX11_single_55 rfl (lv_at hl 0 rfl) ?_
      refine lv_iload_n hx hb dX11_single_56 rfl (lv_at hl 1 rfl) ?_
      refine lv_iconst (v := 5) hx hb dX11_single_57 (by decide) ?_
      refine lv_ishr hx hb dX11_single_58 ?_
      refine lv_iconst (v := 3) hx hb dX11_single_59 (by decide) ?_
      refine lv_iand hx hb dX11_single_60 ?_
      refine lv_aload_n hx hb dX11_single_61 rfl (lv_at hl 0 rfl) ?_
      refine lv_iload_n hx hb dX11_single_62 rfl (lv_at hl 1 rfl) ?_
      refine lv_bipush (v := 15) hx hb dX11_single_63 (by decide) ?_
      refine lv_iand hx hb dX11_single_65 ?_
      refine kc_Vr (rest := [.int ((v0 >>> ((5 : Int32) &&& 31)) &&& 3), .ref (gA G 20), .int k0_51, .int v0, .ref (gA G 20)]) (cy_Model_value l G σ (v0 &&& 15) (pk_andIn _ 4 (by decide) (by decide))) ⟨hx, hb, hml, hown, hts⟩ (cwV 1 hts (gi_V kw_826 kw_827 kw_828 kw_5 kw_829) rfl rfl rfl ⟨rfl, mdX11_value⟩ ⟨by decide, by decide⟩) (va_recv hK hP (ci := 9) (q0 := 0) rfl rfl) mZ_ok hK hP hD hS hA hZ rfl hl.1 rfl (Nat.le_of_ble_eq_true rfl) dX11_single_66 ⟨Nat.zero_le _, Nat.zero_le _⟩ (fun H locs hP hD hS => ?_)
      refine lv_iload_n hx hb dX11_single_69 rfl (lv_at hl 1 rfl) ?_
      refine lv_bipush (v := 7) hx hb dX11_single_70 (by decide) ?_
      refine lv_ishr hx hb dX11_single_72 ?_
      refine lv_bipush (v := 31) hx hb dX11_single_73 (by decide) ?_
      refine lv_iand hx hb dX11_single_75 ?_
      refine kc_Vb (rest := [.int k0_51, .int v0, .ref (gA G 20)]) (cy_Model_shiftBy l G σ ((v0 >>> ((5 : Int32) &&& 31)) &&& 3) (y_Model_value σ (v0 &&& 15)) ((v0 >>> ((7 : Int32) &&& 31)) &&& 31)) ⟨hx, hb, hml, hown, hts⟩ (cwV 3 hts (gi_V kw_757 kw_758 kw_759 kw_5 kw_760) rfl rfl rfl ⟨rfl, mdX11_shiftBy⟩ ⟨by decide, by decide⟩) (va_recv hK hP (ci := 9) (q0 := 0) rfl rfl) mZ_ok hK hP hD hS hA hZ rfl hl.1 rfl (Nat.le_of_ble_eq_true rfl) dX11_single_76 ⟨Nat.zero_le _, Nat.zero_le _⟩ (fun H locs hP hD hS => ?_)
      refine lv_goto (tgt := 87) hx hb dX11_single_79 (by decide) ?_
      refine kc_Vv (rest := []) (cy_Model_indexed l G ((y_Model_shiftBy σ ((v0 >>> ((5 : Int32) &&& 31)) &&& 3) (y_Model_value σ (v0 &&& 15)) ((v0 >>> ((7 : Int32) &&& 31)) &&& 31)).2) v0 k0_51 ((y_Model_shiftBy σ ((v0 >>> ((5 : Int32) &&& 31)) &&& 3) (y_Model_value σ (v0 &&& 15)) ((v0 >>> ((7 : Int32) &&& 31)) &&& 31)).1)) ⟨hx, hb, hml, hown, hts⟩ (cwV 3 hts (gi_V kw_920 kw_921 kw_922 kw_5 kw_923) rfl rfl rfl ⟨rfl, mdX11_indexed⟩ ⟨by decide, by decide⟩) (va_recv hK hP (ci := 9) (q0 := 0) rfl rfl) mZ_ok hK hP hD hS hA hZ rfl hl.1 rfl (Nat.le_of_ble_eq_true rfl) dX11_single_87 ⟨Nat.zero_le _, Nat.zero_le _⟩ (fun H locs hP hD hS => ?_)
      exact hret (y_Model_indexed ((y_Model_shiftBy σ ((v0 >>> ((5 : Int32) &&& 31)) &&& 3) (y_Model_value σ (v0 &&& 15)) ((v0 >>> ((7 : Int32) &&& 31)) &&& 31)).2) v0 k0_51 ((y_Model_shiftBy σ ((v0 >>> ((5 : Int32) &&& 31)) &&& 3) (y_Model_value σ (v0 &&& 15)) ((v0 >>> ((7 : Int32) &&& 31)) &&& 31)).1)) _ _ _ _ hf hP hD hS dX11_single_90
  have J34 : ∀ (H : Heap) (locs : List Loc) (ls : Array Slot), va_P (gD G) vwCl (mW G (σ)) H → va_D A (mW G (σ)) → va_S A s.heap H locs → lv_has ls 3 [(0, .ref (gA G 20)), (1, .int v0), (2, .int (b01 (decide (((v0 >>> ((25 : Int32) &&& 31)) &&& 1) = 1))))] → y_Model_single σ v0 = y_Model_single_34 σ v0 → W p l e (kr 6) s m args below meth c H locs 0 0 Q (F0 m 34 ls []) := by
    intro H locs ls hP hD hS hl hf
    refine lv_aload_n hx hb dX11_single_34 rfl (lv_at hl 0 rfl) ?_
    refine lv_iload_n hx hb dX11_single_35 rfl (lv_at hl 1 rfl) ?_
    refine lv_iload_n hx hb dX11_single_36 rfl (lv_at hl 1 rfl) ?_
    refine lv_bipush (v := 22) hx hb dX11_single_37 (by decide) ?_
    refine lv_ishr hx hb dX11_single_39 ?_
    refine lv_iconst (v := 1) hx hb dX11_single_40 (by decide) ?_
    refine lv_iand hx hb dX11_single_41 ?_
    refine lv_iconst (v := 1) hx hb dX11_single_42 (by decide) ?_
    refine lv_icmp_ne (tgt := 50) hx hb dX11_single_43 (by decide) (fun h_7 => ?_) (fun h_7 => ?_)
    · have hf := hf.trans (if_neg h_7)
      refine lv_iconst (v := 4) hx hb dX11_single_50 (by decide) ?_
      exact J51 4 _ _ _ hP hD hS (lv_sub hl [0, 1, 2] rfl) hf
    · have hf := hf.trans (if_pos h_7)
      refine lv_iconst (v := 1) hx hb dX11_single_46 (by decide) ?_
      refine lv_goto (tgt := 51) hx hb dX11_single_47 (by decide) ?_
      exact J51 1 _ _ _ hP hD hS (lv_sub hl [0, 1, 2] rfl) hf
  refine lv_iload_n hx hb dX11_single_0 rfl (lv_at hl 1 rfl) ?_
  refine lv_bipush (v := 25) hx hb dX11_single_1 (by decide) ?_
  refine lv_ishr hx hb dX11_single_3 ?_
  refine lv_iconst (v := 1) hx hb dX11_single_4 (by decide) ?_
  refine lv_iand hx hb dX11_single_5 ?_
  refine lv_iconst (v := 1) hx hb dX11_single_6 (by decide) ?_
  refine kz_dN0 (P := ((v0 >>> ((25 : Int32) &&& 31)) &&& 1) = 1) (tgt := 14) (M := 15) (fun a b => lv_icmp_ne (tgt := 14) hx hb dX11_single_7 (by decide) a b) hx hb dX11_single_10 dX11_single_11 (by decide) dX11_single_14 rfl ?_
  refine lv_istore_n (lv' := [(2, .int (b01 (decide (((v0 >>> ((25 : Int32) &&& 31)) &&& 1) = 1)))), (0, .ref (gA G 20)), (1, .int v0)]) hx hb dX11_single_15 rfl hl (by decide) rfl (fun ls hl => ?_)
  refine lv_iload_n hx hb dX11_single_16 rfl (lv_at hl 0 rfl) ?_
  refine kz_eq (tgt := 34) hx hb dX11_single_17 (by decide) (fun h_9 => ?_) (fun h_9 => ?_)
  · have hf := hf.trans (if_neg h_9)
    exact J34 _ _ _ hP hD hS (lv_sub hl [1, 2, 0] rfl) hf
  · have hf := hf.trans (if_pos h_9)
    refine lv_iload_n hx hb dX11_single_20 rfl (lv_at hl 2 rfl) ?_
    refine lv_iconst (v := 4) hx hb dX11_single_21 (by decide) ?_
    refine lv_ishr hx hb dX11_single_22 ?_
    refine lv_iconst (v := 1) hx hb dX11_single_23 (by decide) ?_
    refine lv_iand hx hb dX11_single_24 ?_
    refine lv_iconst (v := 1) hx hb dX11_single_25 (by decide) ?_
    refine lv_icmp_ne (tgt := 34) hx hb dX11_single_26 (by decide) (fun h_10 => ?_) (fun h_10 => ?_)
    · have hf := hf.trans (if_neg h_10)
      exact J34 _ _ _ hP hD hS (lv_sub hl [1, 2, 0] rfl) hf
    · have hf := hf.trans (if_pos h_10)
      refine lv_aload_n hx hb dX11_single_29 rfl (lv_at hl 1 rfl) ?_
      refine kc_Vv (rest := []) (cy_Model_undefined l G σ) ⟨hx, hb, hml, hown, hts⟩ (cwV 0 hts (gi_V kw_822 kw_823 kw_824 kw_5 kw_825) rfl rfl rfl ⟨rfl, mdX11_undefined⟩ ⟨by decide, by decide⟩) (va_recv hK hP (ci := 9) (q0 := 0) rfl rfl) mZ_ok hK hP hD hS hA hZ rfl hl.1 rfl (Nat.le_of_ble_eq_true rfl) dX11_single_30 ⟨Nat.zero_le _, Nat.zero_le _⟩ (fun H locs hP hD hS => ?_)
      exact hret (y_Model_undefined σ) _ _ _ _ hf hP hD hS dX11_single_33
