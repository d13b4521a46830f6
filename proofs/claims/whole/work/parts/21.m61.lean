def y_Model_halves_69 (σ : MS) (v0 : Int32) (k0_69 : Int32) : MS := (if ((v0 >>> ((5 : Int32) &&& 31)) &&& 3) = 1 then y_Model_indexed σ v0 2 k0_69 else (if ((v0 >>> ((5 : Int32) &&& 31)) &&& 3) = 2 then y_Model_indexed σ v0 (-1) k0_69 else y_Model_indexed σ v0 (-2) k0_69))
def y_Model_halves_36 (σ : MS) (v0 : Int32) : MS := (if ((v0 >>> ((22 : Int32) &&& 31)) &&& 1) = 1 then y_Model_halves_69 σ v0 (((v0 >>> ((4 : Int32) &&& 31)) &&& 240) ||| (v0 &&& 15)) else y_Model_halves_69 σ v0 (y_Model_value σ (v0 &&& 15)))
def y_Model_halves (σ : MS) (v0 : Int32) : MS := (if (decide (((v0 >>> ((20 : Int32) &&& 31)) &&& 1) = 1)) = true then y_Model_halves_36 σ v0 else (if ((v0 >>> ((5 : Int32) &&& 31)) &&& 3) ≤ 1 then y_Model_halves_36 σ v0 else y_Model_undefined σ))
set_option maxRecDepth 20000 in
set_option maxHeartbeats 4000000 in
theorem cy_Model_halves (l : Launch) (G : KG) (σ : MS) (v0 : Int32) : KV l yX11_halves (Cond.code yX11_halves cX11_halves 5 none :: lw_all) (kr 6) (gD G) vwCl (gT G) (mZ G) (mW G) [.ref (gA G 20), .int v0] σ (y_Model_halves σ v0) := by
  refine kc_in_v (q := y_Model_halves σ v0) (by decide) rfl (Nat.le_of_ble_eq_true rfl) ?_
  intro p e s m args below meth c A Q ls hx hb hml hown hts hK hP hD hA hS hZ hl hret
  have hts := fun w h => hts w (List.mem_cons_of_mem _ h)
  have hl : lv_has ls 5 [(0, .ref (gA G 20)), (1, .int v0)] := hl
  have hf : y_Model_halves σ v0 = y_Model_halves σ v0 := rfl
  have J69 : ∀ (k0_69 : Int32) (H : Heap) (locs : List Loc) (ls : Array Slot), va_P (gD G) vwCl (mW G (σ)) H → va_D A (mW G (σ)) → va_S A s.heap H locs → lv_has ls 5 [(0, .ref (gA G 20)), (1, .int v0), (2, .int ((v0 >>> ((5 : Int32) &&& 31)) &&& 3))] → y_Model_halves σ v0 = y_Model_halves_69 σ v0 k0_69 → W p l e (kr 6) s m args below meth c H locs 0 0 Q (F0 m 69 ls [.int k0_69]) := by
    intro k0_69 H locs ls hP hD hS hl hf
    refine lv_istore (lv' := [(4, .int k0_69), (0, .ref (gA G 20)), (1, .int v0), (2, .int ((v0 >>> ((5 : Int32) &&& 31)) &&& 3))]) hx hb dX11_halves_69 hl (by decide) rfl (fun ls hl => ?_)
    refine lv_aload_n hx hb dX11_halves_71 rfl (lv_at hl 1 rfl) ?_
    refine lv_iload_n hx hb dX11_halves_72 rfl (lv_at hl 2 rfl) ?_
    refine lv_iload_n hx hb dX11_halves_73 rfl (lv_at hl 3 rfl) ?_
    refine lv_iconst (v := 1) hx hb dX11_halves_74 (by decide) ?_
    refine lv_icmp_ne (tgt := 82) hx hb dX11_halves_75 (by decide) (fun h_7 => ?_) (fun h_7 => ?_)
    · have hf := hf.trans (if_neg h_7)
      refine lv_iload_n hx hb dX11_halves_82 rfl (lv_at hl 3 rfl) ?_
      refine lv_iconst (v := 2) hx hb dX11_halves_83 (by decide) ?_
      refine lv_icmp_ne (tgt := 91) hx hb dX11_halves_84 (by decide) (fun h_8 => ?_) (fun h_8 => ?_)
      · have hf := hf.trans (if_neg h_8)
        refine lv_bipush (v := (-2)) hx hb dX11_halves_91 (by decide) ?_
        refine lv_iload hx hb dX11_halves_93 (lv_at hl 0 rfl) ?_
        refine kc_Vv (rest := []) (cy_Model_indexed l G σ v0 (-2) k0_69) ⟨hx, hb, hml, hown, hts⟩ (cwV 3 hts (gi_V kw_920 kw_921 kw_922 kw_5 kw_923) rfl rfl rfl ⟨rfl, mdX11_indexed⟩ ⟨by decide, by decide⟩) (va_recv hK hP (ci := 9) (q0 := 0) rfl rfl) mZ_ok hK hP hD hS hA hZ rfl hl.1 rfl (Nat.le_of_ble_eq_true rfl) dX11_halves_95 ⟨Nat.zero_le _, Nat.zero_le _⟩ (fun H locs hP hD hS => ?_)
        exact hret (y_Model_indexed σ v0 (-2) k0_69) _ _ _ _ hf hP hD hS dX11_halves_98
      · have hf := hf.trans (if_pos h_8)
        refine lv_iconst (v := (-1)) hx hb dX11_halves_87 (by decide) ?_
        refine lv_goto (tgt := 93) hx hb dX11_halves_88 (by decide) ?_
        refine lv_iload hx hb dX11_halves_93 (lv_at hl 0 rfl) ?_
        refine kc_Vv (rest := []) (cy_Model_indexed l G σ v0 (-1) k0_69) ⟨hx, hb, hml, hown, hts⟩ (cwV 3 hts (gi_V kw_920 kw_921 kw_922 kw_5 kw_923) rfl rfl rfl ⟨rfl, mdX11_indexed⟩ ⟨by decide, by decide⟩) (va_recv hK hP (ci := 9) (q0 := 0) rfl rfl) mZ_ok hK hP hD hS hA hZ rfl hl.1 rfl (Nat.le_of_ble_eq_true rfl) dX11_halves_95 ⟨Nat.zero_le _, Nat.zero_le _⟩ (fun H locs hP hD hS => ?_)
        exact hret (y_Model_indexed σ v0 (-1) k0_69) _ _ _ _ hf hP hD hS dX11_halves_98
    · have hf := hf.trans (if_pos h_7)
      refine lv_iconst (v := 2) hx hb dX11_halves_78 (by decide) ?_
      refine lv_goto (tgt := 93) hx hb dX11_halves_79 (by decide) ?_
      refine lv_iload hx hb dX11_halves_93 (lv_at hl 0 rfl) ?_
      refine kc_Vv (rest := []) (cy_Model_indexed l G σ v0 2 k0_69) ⟨hx, hb, hml, hown, hts⟩ (cwV 3 hts (gi_V kw_920 kw_921 kw_922 kw_5 kw_923) rfl rfl rfl ⟨rfl, mdX11_indexed⟩ ⟨by decide, by decide⟩) (va_recv hK hP (ci := 9) (q0 := 0) rfl rfl) mZ_ok hK hP hD hS hA hZ rfl hl.1 rfl (Nat.le_of_ble_eq_true rfl) dX11_halves_95 ⟨Nat.zero_le _, Nat.zero_le _⟩ (fun H locs hP hD hS => ?_)
      exact hret (y_Model_indexed σ v0 2 k0_69) _ _ _ _ hf hP hD hS dX11_halves_98
  have J36 : ∀ (H : Heap) (locs : List Loc) (ls : Array Slot), va_P (gD G) vwCl (mW G (σ)) H → va_D A (mW G (σ)) → va_S A s.heap H locs → lv_has ls 5 [(0, .ref (gA G 20)), (1, .int v0), (2, .int ((v0 >>> ((5 : Int32) &&& 31)) &&& 3))] → y_Model_halves σ v0 = y_Model_halves_36 σ v0 → W p l e (kr 6) s m args below meth c H locs 0 0 Q (F0 m 36 ls []) := by
    intro H locs ls hP hD hS hl hf
    refine lv_iload_n hx hb dX11_halves_36 rfl (lv_at hl 1 rfl) ?_
    refine lv_bipush (v := 22) hx hb dX11_halves_37 (by decide) ?_
    refine lv_ishr hx hb dX11_halves_39 ?_
    refine lv_iconst (v := 1) hx hb dX11_halves_40 (by decide) ?_
    refine lv_iand hx hb dX11_halves_41 ?_
    refine lv_iconst (v := 1) hx hb dX11_halves_42 (by decide) ?_
    refine lv_icmp_ne (tgt := 61) hx hb dX11_halves_43 (by decide) (fun h_9 => ?_) (fun h_9 => ?_)
    · have hf := hf.trans (if_neg h_9)
      refine lv_aload_n hx hb dX11_halves_61 rfl (lv_at hl 0 rfl) ?_
      refine lv_iload_n hx hb dX11_halves_62 rfl (lv_at hl 1 rfl) ?_
      refine lv_bipush (v := 15) hx hb dX11_halves_63 (by decide) ?_
      refine lv_iand hx hb dX11_halves_65 ?_
      refine kc_Vr (rest := []) (cy_Model_value l G σ (v0 &&& 15) (pk_andIn _ 4 (by decide) (by decide))) ⟨hx, hb, hml, hown, hts⟩ (cwV 1 hts (gi_V kw_826 kw_827 kw_828 kw_5 kw_829) rfl rfl rfl ⟨rfl, mdX11_value⟩ ⟨by decide, by decide⟩) (va_recv hK hP (ci := 9) (q0 := 0) rfl rfl) mZ_ok hK hP hD hS hA hZ rfl hl.1 rfl (Nat.le_of_ble_eq_true rfl) dX11_halves_66 ⟨Nat.zero_le _, Nat.zero_le _⟩ (fun H locs hP hD hS => ?_)
      exact J69 (y_Model_value σ (v0 &&& 15)) _ _ _ hP hD hS (lv_sub hl [0, 1, 2] rfl) hf
    · have hf := hf.trans (if_pos h_9)
      refine lv_iload_n hx hb dX11_halves_46 rfl (lv_at hl 1 rfl) ?_
      refine lv_iconst (v := 4) hx hb dX11_halves_47 (by decide) ?_
      refine lv_ishr hx hb dX11_halves_48 ?_
      refine lv_sipush (v := 240) hx hb dX11_halves_49 (by decide) ?_
      refine lv_iand hx hb dX11_halves_52 ?_
      refine lv_iload_n hx hb dX11_halves_53 rfl (lv_at hl 1 rfl) ?_
      refine lv_bipush (v := 15) hx hb dX11_halves_54 (by decide) ?_
      refine lv_iand hx hb dX11_halves_56 ?_
      refine lv_ior hx hb dX11_halves_57 ?_
      refine lv_goto (tgt := 69) hx hb dX11_halves_58 (by decide) ?_
      exact J69 (((v0 >>> ((4 : Int32) &&& 31)) &&& 240) ||| (v0 &&& 15)) _ _ _ hP hD hS (lv_sub hl [0, 1, 2] rfl) hf
  refine lv_iload_n hx hb dX11_halves_0 rfl (lv_at hl 1 rfl) ?_
  refine lv_iconst (v := 5) hx hb dX11_halves_1 (by decide) ?_
  refine lv_ishr hx hb dX11_halves_2 ?_
  refine lv_iconst (v := 3) hx hb dX11_halves_3 (by decide) ?_
  refine lv_iand hx hb dX11_halves_4 ?_
  refine lv_istore_n (lv' := [(2, .int ((v0 >>> ((5 : Int32) &&& 31)) &&& 3)), (0, .ref (gA G 20)), (1, .int v0)]) hx hb dX11_halves_5 rfl hl (by decide) rfl (fun ls hl => ?_)
  refine lv_iload_n hx hb dX11_halves_6 rfl (lv_at hl 2 rfl) ?_
  refine lv_bipush (v := 20) hx hb dX11_halves_7 (by decide) ?_
  refine lv_ishr hx hb dX11_halves_9 ?_
  refine lv_iconst (v := 1) hx hb dX11_halves_10 (by decide) ?_
  refine lv_iand hx hb dX11_halves_11 ?_
  refine lv_iconst (v := 1) hx hb dX11_halves_12 (by decide) ?_
  refine kz_dN0 (P := ((v0 >>> ((20 : Int32) &&& 31)) &&& 1) = 1) (tgt := 20) (M := 21) (fun a b => lv_icmp_ne (tgt := 20) hx hb dX11_halves_13 (by decide) a b) hx hb dX11_halves_16 dX11_halves_17 (by decide) dX11_halves_20 rfl ?_
  refine lv_istore_n (lv' := [(3, .int (b01 (decide (((v0 >>> ((20 : Int32) &&& 31)) &&& 1) = 1)))), (2, .int ((v0 >>> ((5 : Int32) &&& 31)) &&& 3)), (0, .ref (gA G 20)), (1, .int v0)]) hx hb dX11_halves_21 rfl hl (by decide) rfl (fun ls hl => ?_)
  refine lv_iload_n hx hb dX11_halves_22 rfl (lv_at hl 0 rfl) ?_
  refine kz_ne (tgt := 36) hx hb dX11_halves_23 (by decide) (fun h_11 => ?_) (fun h_11 => ?_)
  · have hf := hf.trans (if_pos h_11)
    exact J36 _ _ _ hP hD hS (lv_sub hl [2, 3, 1] rfl) hf
  · have hf := hf.trans (if_neg h_11)
    refine lv_iload_n hx hb dX11_halves_26 rfl (lv_at hl 1 rfl) ?_
    refine lv_iconst (v := 1) hx hb dX11_halves_27 (by decide) ?_
    refine lv_icmp_le (tgt := 36) hx hb dX11_halves_28 (by decide) (fun h_12 => ?_) (fun h_12 => ?_)
    · have hf := hf.trans (if_pos h_12)
      exact J36 _ _ _ hP hD hS (lv_sub hl [2, 3, 1] rfl) hf
    · have hf := hf.trans (if_neg h_12)
      refine lv_aload_n hx hb dX11_halves_31 rfl (lv_at hl 2 rfl) ?_
      refine kc_Vv (rest := []) (cy_Model_undefined l G σ) ⟨hx, hb, hml, hown, hts⟩ (cwV 0 hts (gi_V kw_822 kw_823 kw_824 kw_5 kw_825) rfl rfl rfl ⟨rfl, mdX11_undefined⟩ ⟨by decide, by decide⟩) (va_recv hK hP (ci := 9) (q0 := 0) rfl rfl) mZ_ok hK hP hD hS hA hZ rfl hl.1 rfl (Nat.le_of_ble_eq_true rfl) dX11_halves_32 ⟨Nat.zero_le _, Nat.zero_le _⟩ (fun H locs hP hD hS => ?_)
      exact hret (y_Model_undefined σ) _ _ _ _ hf hP hD hS dX11_halves_35
