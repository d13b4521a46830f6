def y_Model_transfer_90 (σ : MS) (v0 : Bool) (v1 : Int32) (v2 : Int32) (v3 : Int32) (v4 : Int32) (v5 : Int32) (k0_46 : Int32) (τ_90 : MS) : MS := (if v0 = true then y_Model_put τ_90 v2 k0_46 else τ_90)
def y_Model_transfer_70 (σ : MS) (v0 : Bool) (v1 : Int32) (v2 : Int32) (v3 : Int32) (v4 : Int32) (v5 : Int32) (k0_46 : Int32) (τ_70 : MS) : MS := (if v4 < 0 then y_Model_transfer_90 σ v0 v1 v2 v3 v4 v5 k0_46 τ_70 else (if v4 = 15 then y_Model_transfer_90 σ v0 v1 v2 v3 v4 v5 k0_46 τ_70 else y_Model_transfer_90 σ v0 v1 v2 v3 v4 v5 k0_46 (y_Model_put τ_70 v4 v5)))
def y_Model_transfer_65 (σ : MS) (v0 : Bool) (v1 : Int32) (v2 : Int32) (v3 : Int32) (v4 : Int32) (v5 : Int32) (k0_46 : Int32) (k0_65 : Int32) : MS := y_Model_transfer_70 σ v0 v1 v2 v3 v4 v5 k0_46 (y_Model_storeAt σ v3 k0_65 k0_46)
def y_Model_transfer_46 (σ : MS) (v0 : Bool) (v1 : Int32) (v2 : Int32) (v3 : Int32) (v4 : Int32) (v5 : Int32) (k0_46 : Int32) : MS := (if v0 = true then y_Model_transfer_70 σ v0 v1 v2 v3 v4 v5 k0_46 σ else (if 0 ≤ v1 then y_Model_transfer_65 σ v0 v1 v2 v3 v4 v5 k0_46 v1 else y_Model_transfer_65 σ v0 v1 v2 v3 v4 v5 k0_46 (-v1)))
def y_Model_transfer_43 (σ : MS) (v0 : Bool) (v1 : Int32) (v2 : Int32) (v3 : Int32) (v4 : Int32) (v5 : Int32) (k0_43 : Int32) : MS := y_Model_transfer_46 σ v0 v1 v2 v3 v4 v5 (y_Model_operand σ v2 k0_43)
def y_Model_transfer (σ : MS) (v0 : Bool) (v1 : Int32) (v2 : Int32) (v3 : Int32) (v4 : Int32) (v5 : Int32) : MS := (if (y_Model_isThere v3) = true then (if v0 = true then y_Model_transfer_46 σ v0 v1 v2 v3 v4 v5 (y_Model_loaded σ v3 v1) else (if (y_Model_isThumb σ) = true then y_Model_transfer_43 σ v0 v1 v2 v3 v4 v5 4 else y_Model_transfer_43 σ v0 v1 v2 v3 v4 v5 12)) else t_fault σ 3)
set_option maxRecDepth 20000 in
set_option maxHeartbeats 4000000 in
theorem cy_Model_transfer (l : Launch) (G : KG) (σ : MS) (v0 : Bool) (v1 : Int32) (v2 : Int32) (v3 : Int32) (v4 : Int32) (v5 : Int32) (hv2 : vp_in v2 16) (hv4 : n16 v4) : KV l yX11_transfer (Cond.code yX11_transfer cX11_transfer 8 none :: lw_all) (kr 4) (gD G) vwCl (gT G) (mZ G) (mW G) [.ref (gA G 20), .int (b01 v0), .int v1, .int v2, .int v3, .int v4, .int v5] σ (y_Model_transfer σ v0 v1 v2 v3 v4 v5) := by
  refine kc_in_v (q := y_Model_transfer σ v0 v1 v2 v3 v4 v5) (by decide) rfl (Nat.le_of_ble_eq_true rfl) ?_
  intro p e s m args below meth c A Q ls hx hb hml hown hts hK hP hD hA hS hZ hl hret
  have hts := fun w h => hts w (List.mem_cons_of_mem _ h)
  have hl : lv_has ls 8 [(0, .ref (gA G 20)), (1, .int (b01 v0)), (2, .int v1), (3, .int v2), (4, .int v3), (5, .int v4), (6, .int v5)] := hl
  have hf : y_Model_transfer σ v0 v1 v2 v3 v4 v5 = y_Model_transfer σ v0 v1 v2 v3 v4 v5 := rfl
  have J90 : ∀ (k0_46 : Int32) (τ_90 : MS) (H : Heap) (locs : List Loc) (ls : Array Slot), va_P (gD G) vwCl (mW G (τ_90)) H → va_D A (mW G (τ_90)) → va_S A s.heap H locs → lv_has ls 8 [(0, .ref (gA G 20)), (1, .int (b01 v0)), (3, .int v2), (7, .int k0_46)] → y_Model_transfer σ v0 v1 v2 v3 v4 v5 = y_Model_transfer_90 σ v0 v1 v2 v3 v4 v5 k0_46 τ_90 → W p l e (kr 4) s m args below meth c H locs 0 0 Q (F0 m 90 ls []) := by
    intro k0_46 τ_90 H locs ls hP hD hS hl hf
    refine lv_iload_n hx hb dX11_transfer_90 rfl (lv_at hl 1 rfl) ?_
    refine kz_eq (tgt := 101) hx hb dX11_transfer_91 (by decide) (fun h_9 => ?_) (fun h_9 => ?_)
    · have hf := hf.trans (if_neg h_9)
      exact hret τ_90 _ _ _ _ hf hP hD hS dX11_transfer_101
    · have hf := hf.trans (if_pos h_9)
      refine lv_aload_n hx hb dX11_transfer_94 rfl (lv_at hl 0 rfl) ?_
      refine lv_iload_n hx hb dX11_transfer_95 rfl (lv_at hl 2 rfl) ?_
      refine lv_iload hx hb dX11_transfer_96 (lv_at hl 3 rfl) ?_
      refine kc_Vv (rest := []) (cy_Model_put l G τ_90 v2 k0_46 hv2) ⟨hx, hb, hml, hown, hts⟩ (cwV 2 hts (gi_V kw_806 kw_807 kw_808 kw_5 kw_809) rfl rfl rfl ⟨rfl, mdX11_put⟩ ⟨by decide, by decide⟩) (va_recv hK hP (ci := 9) (q0 := 0) rfl rfl) mZ_ok hK hP hD hS hA hZ rfl hl.1 rfl (Nat.le_of_ble_eq_true rfl) dX11_transfer_98 ⟨Nat.zero_le _, Nat.zero_le _⟩ (fun H locs hP hD hS => ?_)
      exact hret (y_Model_put τ_90 v2 k0_46) _ _ _ _ hf hP hD hS dX11_transfer_101
  have J70 : ∀ (k0_46 : Int32) (τ_70 : MS) (H : Heap) (locs : List Loc) (ls : Array Slot), va_P (gD G) vwCl (mW G (τ_70)) H → va_D A (mW G (τ_70)) → va_S A s.heap H locs → lv_has ls 8 [(0, .ref (gA G 20)), (1, .int (b01 v0)), (3, .int v2), (5, .int v4), (6, .int v5), (7, .int k0_46)] → y_Model_transfer σ v0 v1 v2 v3 v4 v5 = y_Model_transfer_70 σ v0 v1 v2 v3 v4 v5 k0_46 τ_70 → W p l e (kr 4) s m args below meth c H locs 0 0 Q (F0 m 70 ls []) := by
    intro k0_46 τ_70 H locs ls hP hD hS hl hf
    refine lv_iload hx hb dX11_transfer_70 (lv_at hl 3 rfl) ?_
    refine lv_if_lt (tgt := 90) hx hb dX11_transfer_72 (by decide) (fun h_10 => ?_) (fun h_10 => ?_)
    · have hf := hf.trans (if_pos h_10)
      exact J90 k0_46 τ_70 _ _ _ hP hD hS (lv_sub hl [0, 1, 2, 5] rfl) hf
    · have hf := hf.trans (if_neg h_10)
      refine lv_iload hx hb dX11_transfer_75 (lv_at hl 3 rfl) ?_
      refine lv_bipush (v := 15) hx hb dX11_transfer_77 (by decide) ?_
      refine lv_icmp_eq (tgt := 90) hx hb dX11_transfer_79 (by decide) (fun h_11 => ?_) (fun h_11 => ?_)
      · have hf := hf.trans (if_pos h_11)
        exact J90 k0_46 τ_70 _ _ _ hP hD hS (lv_sub hl [0, 1, 2, 5] rfl) hf
      · have hf := hf.trans (if_neg h_11)
        refine lv_aload_n hx hb dX11_transfer_82 rfl (lv_at hl 0 rfl) ?_
        refine lv_iload hx hb dX11_transfer_83 (lv_at hl 3 rfl) ?_
        refine lv_iload hx hb dX11_transfer_85 (lv_at hl 4 rfl) ?_
        refine kc_Vv (rest := []) (cy_Model_put l G τ_70 v4 v5 (n16_in hv4 (by assumption))) ⟨hx, hb, hml, hown, hts⟩ (cwV 2 hts (gi_V kw_806 kw_807 kw_808 kw_5 kw_809) rfl rfl rfl ⟨rfl, mdX11_put⟩ ⟨by decide, by decide⟩) (va_recv hK hP (ci := 9) (q0 := 0) rfl rfl) mZ_ok hK hP hD hS hA hZ rfl hl.1 rfl (Nat.le_of_ble_eq_true rfl) dX11_transfer_87 ⟨Nat.zero_le _, Nat.zero_le _⟩ (fun H locs hP hD hS => ?_)
        exact J90 k0_46 (y_Model_put τ_70 v4 v5) _ _ _ hP hD hS (lv_sub hl [0, 1, 2, 5] rfl) hf
  have J65 : ∀ (k0_46 : Int32) (k0_65 : Int32) (ha : vp_in v3 262144) (H : Heap) (locs : List Loc) (ls : Array Slot), va_P (gD G) vwCl (mW G (σ)) H → va_D A (mW G (σ)) → va_S A s.heap H locs → lv_has ls 8 [(0, .ref (gA G 20)), (1, .int (b01 v0)), (3, .int v2), (5, .int v4), (6, .int v5), (7, .int k0_46)] → y_Model_transfer σ v0 v1 v2 v3 v4 v5 = y_Model_transfer_65 σ v0 v1 v2 v3 v4 v5 k0_46 k0_65 → W p l e (kr 4) s m args below meth c H locs 0 0 Q (F0 m 65 ls [.int k0_65, .int v3, .ref (gA G 20)]) := by
    intro k0_46 k0_65 ha H locs ls hP hD hS hl hf
    refine lv_iload hx hb dX11_transfer_65 (lv_at hl 5 rfl) ?_
    refine kc_Vv (rest := []) (cy_Model_storeAt l G σ v3 k0_65 k0_46 (by first | assumption | exact th_in (by assumption))) ⟨hx, hb, hml, hown, hts⟩ (cwV 3 hts (gi_V kw_854 kw_855 kw_856 kw_5 kw_857) rfl rfl rfl ⟨rfl, mdX11_storeAt⟩ ⟨by decide, by decide⟩) (va_recv hK hP (ci := 9) (q0 := 0) rfl rfl) mZ_ok hK hP hD hS hA hZ rfl hl.1 rfl (Nat.le_of_ble_eq_true rfl) dX11_transfer_67 ⟨Nat.zero_le _, Nat.zero_le _⟩ (fun H locs hP hD hS => ?_)
    exact J70 k0_46 (y_Model_storeAt σ v3 k0_65 k0_46) _ _ _ hP hD hS (lv_sub hl [0, 1, 2, 3, 4, 5] rfl) hf
  have J46 : ∀ (k0_46 : Int32) (ha : vp_in v3 262144) (H : Heap) (locs : List Loc) (ls : Array Slot), va_P (gD G) vwCl (mW G (σ)) H → va_D A (mW G (σ)) → va_S A s.heap H locs → lv_has ls 8 [(0, .ref (gA G 20)), (1, .int (b01 v0)), (2, .int v1), (3, .int v2), (4, .int v3), (5, .int v4), (6, .int v5)] → y_Model_transfer σ v0 v1 v2 v3 v4 v5 = y_Model_transfer_46 σ v0 v1 v2 v3 v4 v5 k0_46 → W p l e (kr 4) s m args below meth c H locs 0 0 Q (F0 m 46 ls [.int k0_46]) := by
    intro k0_46 ha H locs ls hP hD hS hl hf
    refine lv_istore (lv' := [(7, .int k0_46), (0, .ref (gA G 20)), (1, .int (b01 v0)), (2, .int v1), (3, .int v2), (4, .int v3), (5, .int v4), (6, .int v5)]) hx hb dX11_transfer_46 hl (by decide) rfl (fun ls hl => ?_)
    refine lv_iload_n hx hb dX11_transfer_48 rfl (lv_at hl 2 rfl) ?_
    refine kz_ne (tgt := 70) hx hb dX11_transfer_49 (by decide) (fun h_12 => ?_) (fun h_12 => ?_)
    · have hf := hf.trans (if_pos h_12)
      exact J70 k0_46 σ _ _ _ hP hD hS (lv_sub hl [1, 2, 4, 6, 7, 0] rfl) hf
    · have hf := hf.trans (if_neg h_12)
      refine lv_aload_n hx hb dX11_transfer_52 rfl (lv_at hl 1 rfl) ?_
      refine lv_iload hx hb dX11_transfer_53 (lv_at hl 5 rfl) ?_
      refine lv_iload_n hx hb dX11_transfer_55 rfl (lv_at hl 3 rfl) ?_
      refine lv_if_ge (tgt := 64) hx hb dX11_transfer_56 (by decide) (fun h_13 => ?_) (fun h_13 => ?_)
      · have hf := hf.trans (if_pos h_13)
        refine lv_iload_n hx hb dX11_transfer_64 rfl (lv_at hl 3 rfl) ?_
        exact J65 k0_46 v1 (by first | assumption | exact th_in (by assumption)) _ _ _ hP hD hS (lv_sub hl [1, 2, 4, 6, 7, 0] rfl) hf
      · have hf := hf.trans (if_neg h_13)
        refine lv_iload_n hx hb dX11_transfer_59 rfl (lv_at hl 3 rfl) ?_
        refine lv_ineg hx hb dX11_transfer_60 ?_
        refine lv_goto (tgt := 65) hx hb dX11_transfer_61 (by decide) ?_
        exact J65 k0_46 (-v1) (by first | assumption | exact th_in (by assumption)) _ _ _ hP hD hS (lv_sub hl [1, 2, 4, 6, 7, 0] rfl) hf
  have J43 : ∀ (k0_43 : Int32) (ha : vp_in v3 262144) (H : Heap) (locs : List Loc) (ls : Array Slot), va_P (gD G) vwCl (mW G (σ)) H → va_D A (mW G (σ)) → va_S A s.heap H locs → lv_has ls 8 [(0, .ref (gA G 20)), (1, .int (b01 v0)), (2, .int v1), (3, .int v2), (4, .int v3), (5, .int v4), (6, .int v5)] → y_Model_transfer σ v0 v1 v2 v3 v4 v5 = y_Model_transfer_43 σ v0 v1 v2 v3 v4 v5 k0_43 → W p l e (kr 4) s m args below meth c H locs 0 0 Q (F0 m 43 ls [.int k0_43, .int v2, .ref (gA G 20)]) := by
    intro k0_43 ha H locs ls hP hD hS hl hf
    refine kc_Vr (rest := []) (cy_Model_operand l G σ v2 k0_43 hv2) ⟨hx, hb, hml, hown, hts⟩ (cwV 2 hts (gi_V kw_830 kw_831 kw_832 kw_5 kw_833) rfl rfl rfl ⟨rfl, mdX11_operand⟩ ⟨by decide, by decide⟩) (va_recv hK hP (ci := 9) (q0 := 0) rfl rfl) mZ_ok hK hP hD hS hA hZ rfl hl.1 rfl (Nat.le_of_ble_eq_true rfl) dX11_transfer_43 ⟨Nat.zero_le _, Nat.zero_le _⟩ (fun H locs hP hD hS => ?_)
    exact J46 (y_Model_operand σ v2 k0_43) (by first | assumption | exact th_in (by assumption)) _ _ _ hP hD hS (lv_sub hl [0, 1, 2, 3, 4, 5, 6] rfl) hf
  refine lv_iload hx hb dX11_transfer_0 (lv_at hl 4 rfl) ?_
  refine kp_Si (rest := []) (cy_Model_isThere l v3) ⟨hx, hb, hml, hown, hts⟩ (va_cwS 1 hts (gi_S kw_737 kw_738 kw_5 kw_739) rfl rfl rfl mdX11_isThere ⟨by decide, by decide⟩) rfl hl.1 rfl (Nat.le_of_ble_eq_true rfl) dX11_transfer_2 ⟨Nat.zero_le _, Nat.zero_le _⟩ ?_
  refine kz_ne (tgt := 14) hx hb dX11_transfer_5 (by decide) (fun h_14 => ?_) (fun h_14 => ?_)
  · have hf := hf.trans (if_pos h_14)
    refine lv_iload_n hx hb dX11_transfer_14 rfl (lv_at hl 1 rfl) ?_
    refine kz_eq (tgt := 28) hx hb dX11_transfer_15 (by decide) (fun h_15 => ?_) (fun h_15 => ?_)
    · have hf := hf.trans (if_neg h_15)
      refine lv_aload_n hx hb dX11_transfer_28 rfl (lv_at hl 0 rfl) ?_
      refine lv_iload_n hx hb dX11_transfer_29 rfl (lv_at hl 3 rfl) ?_
      refine lv_aload_n hx hb dX11_transfer_30 rfl (lv_at hl 0 rfl) ?_
      refine kc_Vr (rest := [.int v2, .ref (gA G 20)]) (cy_Model_isThumb l G σ) ⟨hx, hb, hml, hown, hts⟩ (cwV 0 hts (gi_V kw_213 kw_214 kw_215 kw_5 kw_216) rfl rfl rfl ⟨rfl, mdX11_isThumb⟩ ⟨by decide, by decide⟩) (va_recv hK hP (ci := 9) (q0 := 0) rfl rfl) mZ_ok hK hP hD hS hA hZ rfl hl.1 rfl (Nat.le_of_ble_eq_true rfl) dX11_transfer_31 ⟨Nat.zero_le _, Nat.zero_le _⟩ (fun H locs hP hD hS => ?_)
      refine kz_eq (tgt := 41) hx hb dX11_transfer_34 (by decide) (fun h_16 => ?_) (fun h_16 => ?_)
      · have hf := hf.trans (if_neg h_16)
        refine lv_bipush (v := 12) hx hb dX11_transfer_41 (by decide) ?_
        exact J43 12 (by first | assumption | exact th_in (by assumption)) _ _ _ hP hD hS (lv_sub hl [0, 1, 2, 3, 4, 5, 6] rfl) hf
      · have hf := hf.trans (if_pos h_16)
        refine lv_iconst (v := 4) hx hb dX11_transfer_37 (by decide) ?_
        refine lv_goto (tgt := 43) hx hb dX11_transfer_38 (by decide) ?_
        exact J43 4 (by first | assumption | exact th_in (by assumption)) _ _ _ hP hD hS (lv_sub hl [0, 1, 2, 3, 4, 5, 6] rfl) hf
    · have hf := hf.trans (if_pos h_15)
      refine lv_aload_n hx hb dX11_transfer_18 rfl (lv_at hl 0 rfl) ?_
      refine lv_iload hx hb dX11_transfer_19 (lv_at hl 4 rfl) ?_
      refine lv_iload_n hx hb dX11_transfer_21 rfl (lv_at hl 2 rfl) ?_
      refine kc_Vr (rest := []) (cy_Model_loaded l G σ v3 v1 (by first | assumption | exact th_in (by assumption))) ⟨hx, hb, hml, hown, hts⟩ (cwV 2 hts (gi_V kw_842 kw_843 kw_844 kw_5 kw_845) rfl rfl rfl ⟨rfl, mdX11_loaded⟩ ⟨by decide, by decide⟩) (va_recv hK hP (ci := 9) (q0 := 0) rfl rfl) mZ_ok hK hP hD hS hA hZ rfl hl.1 rfl (Nat.le_of_ble_eq_true rfl) dX11_transfer_22 ⟨Nat.zero_le _, Nat.zero_le _⟩ (fun H locs hP hD hS => ?_)
      refine lv_goto (tgt := 46) hx hb dX11_transfer_25 (by decide) ?_
      exact J46 (y_Model_loaded σ v3 v1) (by first | assumption | exact th_in (by assumption)) _ _ _ hP hD hS (lv_sub hl [0, 1, 2, 3, 4, 5, 6] rfl) hf
  · have hf := hf.trans (if_neg h_14)
    refine lv_aload_n hx hb dX11_transfer_8 rfl (lv_at hl 0 rfl) ?_
    refine lv_iconst (v := 3) hx hb dX11_transfer_9 (by decide) ?_
    refine kc_top (fixF_c (by decide)) ?_
    refine va_put (D := gD G) (ci := 9) (v := .int (fixF 3)) (ty := .int) hx hb hts ku_11 tyX11 tyX11_ok nmX11 hown hK hP hD hS 0 rfl rfl 10 (by decide) (hts _ kw_727) (fun _ h9 => h9) rfl (tyX11_ok 10 (by decide)) rfl rfl (Nat.le_of_ble_eq_true rfl) dX11_transfer_10 (fun H locs hP hD hS => ?_)
    have hP := kP_eq (mWs_fault G σ 3) hP
    have hD := kD_eq (mWs_fault G σ 3) hD
    exact hret (t_fault σ 3) _ _ _ _ hf hP hD hS dX11_transfer_13
