def y_Model_loaded_34 (σ : MS) (v0 : Int32) (v1 : Int32) (k0_34 : Int32) : Int32 := (if v1 = (-1) then (k0_34 <<< ((24 : Int32) &&& 31)) >>> ((24 : Int32) &&& 31) else (if v1 = (-2) then (k0_34 <<< ((16 : Int32) &&& 31)) >>> ((16 : Int32) &&& 31) else k0_34))
def y_Model_loaded_21 (σ : MS) (v0 : Int32) (v1 : Int32) : Int32 := y_Model_loaded_34 σ v0 v1 (y_Model_byteAt σ v0)
def y_Model_loaded (σ : MS) (v0 : Int32) (v1 : Int32) : Int32 := (if v1 = 4 then y_Model_wordAt σ v0 else (if v1 = 1 then y_Model_loaded_21 σ v0 v1 else (if v1 = (-1) then y_Model_loaded_21 σ v0 v1 else y_Model_loaded_34 σ v0 v1 (y_Model_halfAt σ v0))))
set_option maxRecDepth 20000 in
set_option maxHeartbeats 4000000 in
theorem cy_Model_loaded (l : Launch) (G : KG) (σ : MS) (v0 : Int32) (v1 : Int32) (hv0 : vp_in v0 262144) : KB l yX11_loaded (Cond.code yX11_loaded cX11_loaded 4 (some .int) :: lw_all) (kr 1) (gD G) vwCl (gT G) (mZ G) (mW G) [.ref (gA G 20), .int v0, .int v1] σ (y_Model_loaded σ v0 v1, σ) := by
  refine kc_in_r (q := y_Model_loaded σ v0 v1) (by decide) rfl (Nat.le_of_ble_eq_true rfl) ?_
  intro p e s m args below meth c A Q ls hx hb hml hown hts hK hP hD hA hS hZ hl hret
  have hts := fun w h => hts w (List.mem_cons_of_mem _ h)
  have hl : lv_has ls 4 [(0, .ref (gA G 20)), (1, .int v0), (2, .int v1)] := hl
  have hf : y_Model_loaded σ v0 v1 = y_Model_loaded σ v0 v1 := rfl
  have J34 : ∀ (k0_34 : Int32) (H : Heap) (locs : List Loc) (ls : Array Slot), va_P (gD G) vwCl (mW G (σ)) H → va_D A (mW G (σ)) → va_S A s.heap H locs → lv_has ls 4 [(2, .int v1)] → y_Model_loaded σ v0 v1 = y_Model_loaded_34 σ v0 v1 k0_34 → W p l e (kr 1) s m args below meth c H locs 0 0 Q (F0 m 34 ls [.int k0_34]) := by
    intro k0_34 H locs ls hP hD hS hl hf
    refine lv_istore_n (lv' := [(3, .int k0_34), (2, .int v1)]) hx hb dX11_loaded_34 rfl hl (by decide) rfl (fun ls hl => ?_)
    refine lv_iload_n hx hb dX11_loaded_35 rfl (lv_at hl 1 rfl) ?_
    refine lv_iconst (v := (-1)) hx hb dX11_loaded_36 (by decide) ?_
    refine lv_icmp_ne (tgt := 50) hx hb dX11_loaded_37 (by decide) (fun h_6 => ?_) (fun h_6 => ?_)
    · have hf := hf.trans (if_neg h_6)
      refine lv_iload_n hx hb dX11_loaded_50 rfl (lv_at hl 1 rfl) ?_
      refine lv_bipush (v := (-2)) hx hb dX11_loaded_51 (by decide) ?_
      refine lv_icmp_ne (tgt := 66) hx hb dX11_loaded_53 (by decide) (fun h_7 => ?_) (fun h_7 => ?_)
      · have hf := hf.trans (if_neg h_7)
        refine lv_iload_n hx hb dX11_loaded_66 rfl (lv_at hl 0 rfl) ?_
        exact hret k0_34 _ _ _ _ hf hP hD hS dX11_loaded_67
      · have hf := hf.trans (if_pos h_7)
        refine lv_iload_n hx hb dX11_loaded_56 rfl (lv_at hl 0 rfl) ?_
        refine lv_bipush (v := 16) hx hb dX11_loaded_57 (by decide) ?_
        refine lv_ishl hx hb dX11_loaded_59 ?_
        refine lv_bipush (v := 16) hx hb dX11_loaded_60 (by decide) ?_
        refine lv_ishr hx hb dX11_loaded_62 ?_
        refine lv_goto (tgt := 67) hx hb dX11_loaded_63 (by decide) ?_
        exact hret ((k0_34 <<< ((16 : Int32) &&& 31)) >>> ((16 : Int32) &&& 31)) _ _ _ _ hf hP hD hS dX11_loaded_67
    · have hf := hf.trans (if_pos h_6)
      refine lv_iload_n hx hb dX11_loaded_40 rfl (lv_at hl 0 rfl) ?_
      refine lv_bipush (v := 24) hx hb dX11_loaded_41 (by decide) ?_
      refine lv_ishl hx hb dX11_loaded_43 ?_
      refine lv_bipush (v := 24) hx hb dX11_loaded_44 (by decide) ?_
      refine lv_ishr hx hb dX11_loaded_46 ?_
      refine lv_goto (tgt := 67) hx hb dX11_loaded_47 (by decide) ?_
      exact hret ((k0_34 <<< ((24 : Int32) &&& 31)) >>> ((24 : Int32) &&& 31)) _ _ _ _ hf hP hD hS dX11_loaded_67
  have J21 : ∀ (H : Heap) (locs : List Loc) (ls : Array Slot), va_P (gD G) vwCl (mW G (σ)) H → va_D A (mW G (σ)) → va_S A s.heap H locs → lv_has ls 4 [(0, .ref (gA G 20)), (1, .int v0), (2, .int v1)] → y_Model_loaded σ v0 v1 = y_Model_loaded_21 σ v0 v1 → W p l e (kr 1) s m args below meth c H locs 0 0 Q (F0 m 21 ls []) := by
    intro H locs ls hP hD hS hl hf
    refine lv_aload_n hx hb dX11_loaded_21 rfl (lv_at hl 0 rfl) ?_
    refine lv_iload_n hx hb dX11_loaded_22 rfl (lv_at hl 1 rfl) ?_
    refine kc_Vr (rest := []) (cy_Model_byteAt l G σ v0 hv0) ⟨hx, hb, hml, hown, hts⟩ (cwV 1 hts (gi_V kw_850 kw_851 kw_852 kw_5 kw_853) rfl rfl rfl ⟨rfl, mdX11_byteAt⟩ ⟨by decide, by decide⟩) (va_recv hK hP (ci := 9) (q0 := 0) rfl rfl) mZ_ok hK hP hD hS hA hZ rfl hl.1 rfl (Nat.le_of_ble_eq_true rfl) dX11_loaded_23 ⟨Nat.zero_le _, Nat.zero_le _⟩ (fun H locs hP hD hS => ?_)
    refine lv_goto (tgt := 34) hx hb dX11_loaded_26 (by decide) ?_
    exact J34 (y_Model_byteAt σ v0) _ _ _ hP hD hS (lv_sub hl [2] rfl) hf
  refine lv_iload_n hx hb dX11_loaded_0 rfl (lv_at hl 2 rfl) ?_
  refine lv_iconst (v := 4) hx hb dX11_loaded_1 (by decide) ?_
  refine lv_icmp_ne (tgt := 11) hx hb dX11_loaded_2 (by decide) (fun h_8 => ?_) (fun h_8 => ?_)
  · have hf := hf.trans (if_neg h_8)
    refine lv_iload_n hx hb dX11_loaded_11 rfl (lv_at hl 2 rfl) ?_
    refine lv_iconst (v := 1) hx hb dX11_loaded_12 (by decide) ?_
    refine lv_icmp_eq (tgt := 21) hx hb dX11_loaded_13 (by decide) (fun h_9 => ?_) (fun h_9 => ?_)
    · have hf := hf.trans (if_pos h_9)
      exact J21 _ _ _ hP hD hS (lv_sub hl [0, 1, 2] rfl) hf
    · have hf := hf.trans (if_neg h_9)
      refine lv_iload_n hx hb dX11_loaded_16 rfl (lv_at hl 2 rfl) ?_
      refine lv_iconst (v := (-1)) hx hb dX11_loaded_17 (by decide) ?_
      refine lv_icmp_ne (tgt := 29) hx hb dX11_loaded_18 (by decide) (fun h_10 => ?_) (fun h_10 => ?_)
      · have hf := hf.trans (if_neg h_10)
        refine lv_aload_n hx hb dX11_loaded_29 rfl (lv_at hl 0 rfl) ?_
        refine lv_iload_n hx hb dX11_loaded_30 rfl (lv_at hl 1 rfl) ?_
        refine kc_Vr (rest := []) (cy_Model_halfAt l G σ v0 hv0) ⟨hx, hb, hml, hown, hts⟩ (cwV 1 hts (gi_V kw_740 kw_741 kw_742 kw_5 kw_743) rfl rfl rfl ⟨rfl, mdX11_halfAt⟩ ⟨by decide, by decide⟩) (va_recv hK hP (ci := 9) (q0 := 0) rfl rfl) mZ_ok hK hP hD hS hA hZ rfl hl.1 rfl (Nat.le_of_ble_eq_true rfl) dX11_loaded_31 ⟨Nat.zero_le _, Nat.zero_le _⟩ (fun H locs hP hD hS => ?_)
        exact J34 (y_Model_halfAt σ v0) _ _ _ hP hD hS (lv_sub hl [2] rfl) hf
      · have hf := hf.trans (if_pos h_10)
        exact J21 _ _ _ hP hD hS (lv_sub hl [0, 1, 2] rfl) hf
  · have hf := hf.trans (if_pos h_8)
    refine lv_aload_n hx hb dX11_loaded_5 rfl (lv_at hl 0 rfl) ?_
    refine lv_iload_n hx hb dX11_loaded_6 rfl (lv_at hl 1 rfl) ?_
    refine kc_Vr (rest := []) (cy_Model_wordAt l G σ v0 hv0) ⟨hx, hb, hml, hown, hts⟩ (cwV 1 hts (gi_V kw_846 kw_847 kw_848 kw_5 kw_849) rfl rfl rfl ⟨rfl, mdX11_wordAt⟩ ⟨by decide, by decide⟩) (va_recv hK hP (ci := 9) (q0 := 0) rfl rfl) mZ_ok hK hP hD hS hA hZ rfl hl.1 rfl (Nat.le_of_ble_eq_true rfl) dX11_loaded_7 ⟨Nat.zero_le _, Nat.zero_le _⟩ (fun H locs hP hD hS => ?_)
    exact hret (y_Model_wordAt σ v0) _ _ _ _ hf hP hD hS dX11_loaded_10
