def y_Model_early_76 (σ : MS) (v0 : Int32) (v1 : Int32) (v2 : Int32) (v3 : Int32) (v4 : Int32) (k0_58 : Int32) (k0_76 : Int32) : MS := y_Model_finish σ k0_76 v1 (y_Model_at σ v2) k0_58 true
def y_Model_early_58 (σ : MS) (v0 : Int32) (v1 : Int32) (v2 : Int32) (v3 : Int32) (v4 : Int32) (k0_58 : Int32) : MS := (if ((v0 >>> ((9 : Int32) &&& 31)) &&& 1) = 1 then y_Model_early_76 σ v0 v1 v2 v3 v4 k0_58 2 else y_Model_early_76 σ v0 v1 v2 v3 v4 k0_58 4)
def y_Model_early (σ : MS) (v0 : Int32) (v1 : Int32) (v2 : Int32) (v3 : Int32) (v4 : Int32) : MS := (if 3 ≤ ((v0 >>> ((11 : Int32) &&& 31)) &&& 3) then (if ((v0 >>> ((10 : Int32) &&& 31)) &&& 1) = 1 then y_Model_early_58 σ v0 v1 v2 v3 v4 v3 else y_Model_early_58 σ v0 v1 v2 v3 v4 (y_Model_at σ v3)) else y_Model_finish ((y_Model_shiftBy σ ((v0 >>> ((11 : Int32) &&& 31)) &&& 3) (y_Model_at σ v2) v4).2) 13 v1 0 ((y_Model_shiftBy σ ((v0 >>> ((11 : Int32) &&& 31)) &&& 3) (y_Model_at σ v2) v4).1) true)
set_option maxRecDepth 20000 in
set_option maxHeartbeats 4000000 in
theorem cy_Model_early (l : Launch) (G : KG) (σ : MS) (v0 : Int32) (v1 : Int32) (v2 : Int32) (v3 : Int32) (v4 : Int32) (hv1 : vp_in v1 16) (hv2 : vp_in v2 16) (hv3 : vp_in v3 16) : KV l yX11_early (Cond.code yX11_early cX11_early 8 none :: lw_all) (kr 4) (gD G) vwCl (gT G) (mZ G) (mW G) [.ref (gA G 20), .int v0, .int v1, .int v2, .int v3, .int v4] σ (y_Model_early σ v0 v1 v2 v3 v4) := by
  refine kc_in_v (q := y_Model_early σ v0 v1 v2 v3 v4) (by decide) rfl (Nat.le_of_ble_eq_true rfl) ?_
  intro p e s m args below meth c A Q ls hx hb hml hown hts hK hP hD hA hS hZ hl hret
  have hts := fun w h => hts w (List.mem_cons_of_mem _ h)
  have hl : lv_has ls 8 [(0, .ref (gA G 20)), (1, .int v0), (2, .int v1), (3, .int v2), (4, .int v3), (5, .int v4)] := hl
  have hf : y_Model_early σ v0 v1 v2 v3 v4 = y_Model_early σ v0 v1 v2 v3 v4 := rfl
  have J76 : ∀ (k0_58 : Int32) (k0_76 : Int32) (H : Heap) (locs : List Loc) (ls : Array Slot), va_P (gD G) vwCl (mW G (σ)) H → va_D A (mW G (σ)) → va_S A s.heap H locs → lv_has ls 8 [(0, .ref (gA G 20)), (2, .int v1), (3, .int v2), (7, .int k0_58)] → y_Model_early σ v0 v1 v2 v3 v4 = y_Model_early_76 σ v0 v1 v2 v3 v4 k0_58 k0_76 → W p l e (kr 4) s m args below meth c H locs 0 0 Q (F0 m 76 ls [.int k0_76, .ref (gA G 20)]) := by
    intro k0_58 k0_76 H locs ls hP hD hS hl hf
    refine lv_iload_n hx hb dX11_early_76 rfl (lv_at hl 1 rfl) ?_
    refine lv_aload_n hx hb dX11_early_77 rfl (lv_at hl 0 rfl) ?_
    refine lv_iload_n hx hb dX11_early_78 rfl (lv_at hl 2 rfl) ?_
    refine kc_Vr (rest := [.int v1, .int k0_76, .ref (gA G 20)]) (cy_Model_at l G σ v2 hv2) ⟨hx, hb, hml, hown, hts⟩ (cwV 1 hts (gi_V kw_753 kw_754 kw_755 kw_5 kw_756) rfl rfl rfl ⟨rfl, mdX11_at⟩ ⟨by decide, by decide⟩) (va_recv hK hP (ci := 9) (q0 := 0) rfl rfl) mZ_ok hK hP hD hS hA hZ rfl hl.1 rfl (Nat.le_of_ble_eq_true rfl) dX11_early_79 ⟨Nat.zero_le _, Nat.zero_le _⟩ (fun H locs hP hD hS => ?_)
    refine lv_iload hx hb dX11_early_82 (lv_at hl 3 rfl) ?_
    refine lv_iconst (v := 1) hx hb dX11_early_84 (by decide) ?_
    refine kc_Vv (rest := []) (cy_Model_finish l G σ k0_76 v1 (y_Model_at σ v2) k0_58 true hv1) ⟨hx, hb, hml, hown, hts⟩ (cwV 5 hts (gi_V kw_767 kw_768 kw_769 kw_5 kw_770) rfl rfl rfl ⟨rfl, mdX11_finish⟩ ⟨by decide, by decide⟩) (va_recv hK hP (ci := 9) (q0 := 0) rfl rfl) mZ_ok hK hP hD hS hA hZ rfl hl.1 rfl (Nat.le_of_ble_eq_true rfl) dX11_early_85 ⟨Nat.zero_le _, Nat.zero_le _⟩ (fun H locs hP hD hS => ?_)
    exact hret (y_Model_finish σ k0_76 v1 (y_Model_at σ v2) k0_58 true) _ _ _ _ hf hP hD hS dX11_early_88
  have J58 : ∀ (k0_58 : Int32) (H : Heap) (locs : List Loc) (ls : Array Slot), va_P (gD G) vwCl (mW G (σ)) H → va_D A (mW G (σ)) → va_S A s.heap H locs → lv_has ls 8 [(0, .ref (gA G 20)), (1, .int v0), (2, .int v1), (3, .int v2)] → y_Model_early σ v0 v1 v2 v3 v4 = y_Model_early_58 σ v0 v1 v2 v3 v4 k0_58 → W p l e (kr 4) s m args below meth c H locs 0 0 Q (F0 m 58 ls [.int k0_58]) := by
    intro k0_58 H locs ls hP hD hS hl hf
    refine lv_istore (lv' := [(7, .int k0_58), (0, .ref (gA G 20)), (1, .int v0), (2, .int v1), (3, .int v2)]) hx hb dX11_early_58 hl (by decide) rfl (fun ls hl => ?_)
    refine lv_aload_n hx hb dX11_early_60 rfl (lv_at hl 1 rfl) ?_
    refine lv_iload_n hx hb dX11_early_61 rfl (lv_at hl 2 rfl) ?_
    refine lv_bipush (v := 9) hx hb dX11_early_62 (by decide) ?_
    refine lv_ishr hx hb dX11_early_64 ?_
    refine lv_iconst (v := 1) hx hb dX11_early_65 (by decide) ?_
    refine lv_iand hx hb dX11_early_66 ?_
    refine lv_iconst (v := 1) hx hb dX11_early_67 (by decide) ?_
    refine lv_icmp_ne (tgt := 75) hx hb dX11_early_68 (by decide) (fun h_4 => ?_) (fun h_4 => ?_)
    · have hf := hf.trans (if_neg h_4)
      refine lv_iconst (v := 4) hx hb dX11_early_75 (by decide) ?_
      exact J76 k0_58 4 _ _ _ hP hD hS (lv_sub hl [1, 3, 4, 0] rfl) hf
    · have hf := hf.trans (if_pos h_4)
      refine lv_iconst (v := 2) hx hb dX11_early_71 (by decide) ?_
      refine lv_goto (tgt := 76) hx hb dX11_early_72 (by decide) ?_
      exact J76 k0_58 2 _ _ _ hP hD hS (lv_sub hl [1, 3, 4, 0] rfl) hf
  refine lv_iload_n hx hb dX11_early_0 rfl (lv_at hl 1 rfl) ?_
  refine lv_bipush (v := 11) hx hb dX11_early_1 (by decide) ?_
  refine lv_ishr hx hb dX11_early_3 ?_
  refine lv_iconst (v := 3) hx hb dX11_early_4 (by decide) ?_
  refine lv_iand hx hb dX11_early_5 ?_
  refine lv_istore (lv' := [(6, .int ((v0 >>> ((11 : Int32) &&& 31)) &&& 3)), (0, .ref (gA G 20)), (1, .int v0), (2, .int v1), (3, .int v2), (4, .int v3), (5, .int v4)]) hx hb dX11_early_6 hl (by decide) rfl (fun ls hl => ?_)
  refine lv_iload hx hb dX11_early_8 (lv_at hl 0 rfl) ?_
  refine lv_iconst (v := 3) hx hb dX11_early_10 (by decide) ?_
  refine lv_icmp_ge (tgt := 37) hx hb dX11_early_11 (by decide) (fun h_5 => ?_) (fun h_5 => ?_)
  · have hf := hf.trans (if_pos h_5)
    refine lv_iload_n hx hb dX11_early_37 rfl (lv_at hl 2 rfl) ?_
    refine lv_bipush (v := 10) hx hb dX11_early_38 (by decide) ?_
    refine lv_ishr hx hb dX11_early_40 ?_
    refine lv_iconst (v := 1) hx hb dX11_early_41 (by decide) ?_
    refine lv_iand hx hb dX11_early_42 ?_
    refine lv_iconst (v := 1) hx hb dX11_early_43 (by decide) ?_
    refine lv_icmp_ne (tgt := 52) hx hb dX11_early_44 (by decide) (fun h_6 => ?_) (fun h_6 => ?_)
    · have hf := hf.trans (if_neg h_6)
      refine lv_aload_n hx hb dX11_early_52 rfl (lv_at hl 1 rfl) ?_
      refine lv_iload hx hb dX11_early_53 (lv_at hl 5 rfl) ?_
      refine kc_Vr (rest := []) (cy_Model_at l G σ v3 hv3) ⟨hx, hb, hml, hown, hts⟩ (cwV 1 hts (gi_V kw_753 kw_754 kw_755 kw_5 kw_756) rfl rfl rfl ⟨rfl, mdX11_at⟩ ⟨by decide, by decide⟩) (va_recv hK hP (ci := 9) (q0 := 0) rfl rfl) mZ_ok hK hP hD hS hA hZ rfl hl.1 rfl (Nat.le_of_ble_eq_true rfl) dX11_early_55 ⟨Nat.zero_le _, Nat.zero_le _⟩ (fun H locs hP hD hS => ?_)
      exact J58 (y_Model_at σ v3) _ _ _ hP hD hS (lv_sub hl [1, 2, 3, 4] rfl) hf
    · have hf := hf.trans (if_pos h_6)
      refine lv_iload hx hb dX11_early_47 (lv_at hl 5 rfl) ?_
      refine lv_goto (tgt := 58) hx hb dX11_early_49 (by decide) ?_
      exact J58 v3 _ _ _ hP hD hS (lv_sub hl [1, 2, 3, 4] rfl) hf
  · have hf := hf.trans (if_neg h_5)
    refine lv_aload_n hx hb dX11_early_14 rfl (lv_at hl 1 rfl) ?_
    refine lv_bipush (v := 13) hx hb dX11_early_15 (by decide) ?_
    refine lv_iload_n hx hb dX11_early_17 rfl (lv_at hl 3 rfl) ?_
    refine lv_iconst (v := 0) hx hb dX11_early_18 (by decide) ?_
    refine lv_aload_n hx hb dX11_early_19 rfl (lv_at hl 1 rfl) ?_
    refine lv_iload hx hb dX11_early_20 (lv_at hl 0 rfl) ?_
    refine lv_aload_n hx hb dX11_early_22 rfl (lv_at hl 1 rfl) ?_
    refine lv_iload_n hx hb dX11_early_23 rfl (lv_at hl 4 rfl) ?_
    refine kc_Vr (rest := [.int ((v0 >>> ((11 : Int32) &&& 31)) &&& 3), .ref (gA G 20), .int 0, .int v1, .int 13, .ref (gA G 20)]) (cy_Model_at l G σ v2 hv2) ⟨hx, hb, hml, hown, hts⟩ (cwV 1 hts (gi_V kw_753 kw_754 kw_755 kw_5 kw_756) rfl rfl rfl ⟨rfl, mdX11_at⟩ ⟨by decide, by decide⟩) (va_recv hK hP (ci := 9) (q0 := 0) rfl rfl) mZ_ok hK hP hD hS hA hZ rfl hl.1 rfl (Nat.le_of_ble_eq_true rfl) dX11_early_24 ⟨Nat.zero_le _, Nat.zero_le _⟩ (fun H locs hP hD hS => ?_)
    refine lv_iload hx hb dX11_early_27 (lv_at hl 6 rfl) ?_
    refine kc_Vb (rest := [.int 0, .int v1, .int 13, .ref (gA G 20)]) (cy_Model_shiftBy l G σ ((v0 >>> ((11 : Int32) &&& 31)) &&& 3) (y_Model_at σ v2) v4) ⟨hx, hb, hml, hown, hts⟩ (cwV 3 hts (gi_V kw_757 kw_758 kw_759 kw_5 kw_760) rfl rfl rfl ⟨rfl, mdX11_shiftBy⟩ ⟨by decide, by decide⟩) (va_recv hK hP (ci := 9) (q0 := 0) rfl rfl) mZ_ok hK hP hD hS hA hZ rfl hl.1 rfl (Nat.le_of_ble_eq_true rfl) dX11_early_29 ⟨Nat.zero_le _, Nat.zero_le _⟩ (fun H locs hP hD hS => ?_)
    refine lv_iconst (v := 1) hx hb dX11_early_32 (by decide) ?_
    refine kc_Vv (rest := []) (cy_Model_finish l G ((y_Model_shiftBy σ ((v0 >>> ((11 : Int32) &&& 31)) &&& 3) (y_Model_at σ v2) v4).2) 13 v1 0 ((y_Model_shiftBy σ ((v0 >>> ((11 : Int32) &&& 31)) &&& 3) (y_Model_at σ v2) v4).1) true hv1) ⟨hx, hb, hml, hown, hts⟩ (cwV 5 hts (gi_V kw_767 kw_768 kw_769 kw_5 kw_770) rfl rfl rfl ⟨rfl, mdX11_finish⟩ ⟨by decide, by decide⟩) (va_recv hK hP (ci := 9) (q0 := 0) rfl rfl) mZ_ok hK hP hD hS hA hZ rfl hl.1 rfl (Nat.le_of_ble_eq_true rfl) dX11_early_33 ⟨Nat.zero_le _, Nat.zero_le _⟩ (fun H locs hP hD hS => ?_)
    exact hret (y_Model_finish ((y_Model_shiftBy σ ((v0 >>> ((11 : Int32) &&& 31)) &&& 3) (y_Model_at σ v2) v4).2) 13 v1 0 ((y_Model_shiftBy σ ((v0 >>> ((11 : Int32) &&& 31)) &&& 3) (y_Model_at σ v2) v4).1) true) _ _ _ _ hf hP hD hS dX11_early_36
