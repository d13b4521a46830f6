theorem an78_16 (a b : Int32) : vp_in ((a &&& 7) ||| (b &&& 8)) 16 := by
  have e : ((a &&& 7) ||| (b &&& 8)) = ((a &&& 7) ||| (b &&& 8)) &&& 15 := by
    rw [i_or_and, i_and_assoc, i_and_assoc]
    rfl
  rw [e]
  exact pk_andIn _ 4 (by decide) (by decide)
def y_Model_highOnes_85 (σ : MS) (v0 : Int32) (k0_85 : Int32) : MS := y_Model_finish σ k0_85 ((v0 &&& 7) ||| ((v0 >>> ((4 : Int32) &&& 31)) &&& 8)) (y_Model_value σ ((v0 &&& 7) ||| ((v0 >>> ((4 : Int32) &&& 31)) &&& 8))) (y_Model_value σ ((v0 >>> ((3 : Int32) &&& 31)) &&& 15)) (decide (((v0 >>> ((8 : Int32) &&& 31)) &&& 3) = 1))
def y_Model_highOnes (σ : MS) (v0 : Int32) : MS := (if ((v0 >>> ((8 : Int32) &&& 31)) &&& 3) = 3 then (if ((v0 >>> ((7 : Int32) &&& 31)) &&& 1) = 1 then y_Model_undefined σ else y_Model_exchange σ (y_Model_value σ ((v0 >>> ((3 : Int32) &&& 31)) &&& 15))) else (if ((v0 >>> ((8 : Int32) &&& 31)) &&& 3) = 0 then y_Model_highOnes_85 σ v0 4 else (if ((v0 >>> ((8 : Int32) &&& 31)) &&& 3) = 1 then y_Model_highOnes_85 σ v0 10 else y_Model_highOnes_85 σ v0 13)))
set_option maxRecDepth 20000 in
set_option maxHeartbeats 4000000 in
theorem cy_Model_highOnes (l : Launch) (G : KG) (σ : MS) (v0 : Int32) : KV l yX11_highOnes (Cond.code yX11_highOnes cX11_highOnes 5 none :: lw_all) (kr 5) (gD G) vwCl (gT G) (mZ G) (mW G) [.ref (gA G 20), .int v0] σ (y_Model_highOnes σ v0) := by
  refine kc_in_v (q := y_Model_highOnes σ v0) (by decide) rfl (Nat.le_of_ble_eq_true rfl) ?_
  intro p e s m args below meth c A Q ls hx hb hml hown hts hK hP hD hA hS hZ hl hret
  have hts := fun w h => hts w (List.mem_cons_of_mem _ h)
  have hl : lv_has ls 5 [(0, .ref (gA G 20)), (1, .int v0)] := hl
  have hf : y_Model_highOnes σ v0 = y_Model_highOnes σ v0 := rfl
  have J85 : ∀ (k0_85 : Int32) (H : Heap) (locs : List Loc) (ls : Array Slot), va_P (gD G) vwCl (mW G (σ)) H → va_D A (mW G (σ)) → va_S A s.heap H locs → lv_has ls 5 [(0, .ref (gA G 20)), (2, .int ((v0 &&& 7) ||| ((v0 >>> ((4 : Int32) &&& 31)) &&& 8))), (3, .int ((v0 >>> ((3 : Int32) &&& 31)) &&& 15)), (4, .int ((v0 >>> ((8 : Int32) &&& 31)) &&& 3))] → y_Model_highOnes σ v0 = y_Model_highOnes_85 σ v0 k0_85 → W p l e (kr 5) s m args below meth c H locs 0 0 Q (F0 m 85 ls [.int k0_85, .ref (gA G 20)]) := by
    intro k0_85 H locs ls hP hD hS hl hf
    refine lv_iload_n hx hb dX11_highOnes_85 rfl (lv_at hl 1 rfl) ?_
    refine lv_aload_n hx hb dX11_highOnes_86 rfl (lv_at hl 0 rfl) ?_
    refine lv_iload_n hx hb dX11_highOnes_87 rfl (lv_at hl 1 rfl) ?_
    refine kc_Vr (rest := [.int ((v0 &&& 7) ||| ((v0 >>> ((4 : Int32) &&& 31)) &&& 8)), .int k0_85, .ref (gA G 20)]) (cy_Model_value l G σ ((v0 &&& 7) ||| ((v0 >>> ((4 : Int32) &&& 31)) &&& 8)) (an78_16 _ _)) ⟨hx, hb, hml, hown, hts⟩ (cwV 1 hts (gi_V kw_826 kw_827 kw_828 kw_5 kw_829) rfl rfl rfl ⟨rfl, mdX11_value⟩ ⟨by decide, by decide⟩) (va_recv hK hP (ci := 9) (q0 := 0) rfl rfl) mZ_ok hK hP hD hS hA hZ rfl hl.1 rfl (Nat.le_of_ble_eq_true rfl) dX11_highOnes_88 ⟨Nat.zero_le _, Nat.zero_le _⟩ (fun H locs hP hD hS => ?_)
    refine lv_aload_n hx hb dX11_highOnes_91 rfl (lv_at hl 0 rfl) ?_
    refine lv_iload_n hx hb dX11_highOnes_92 rfl (lv_at hl 2 rfl) ?_
    refine kc_Vr (rest := [.int (y_Model_value σ ((v0 &&& 7) ||| ((v0 >>> ((4 : Int32) &&& 31)) &&& 8))), .int ((v0 &&& 7) ||| ((v0 >>> ((4 : Int32) &&& 31)) &&& 8)), .int k0_85, .ref (gA G 20)]) (cy_Model_value l G σ ((v0 >>> ((3 : Int32) &&& 31)) &&& 15) (pk_andIn _ 4 (by decide) (by decide))) ⟨hx, hb, hml, hown, hts⟩ (cwV 1 hts (gi_V kw_826 kw_827 kw_828 kw_5 kw_829) rfl rfl rfl ⟨rfl, mdX11_value⟩ ⟨by decide, by decide⟩) (va_recv hK hP (ci := 9) (q0 := 0) rfl rfl) mZ_ok hK hP hD hS hA hZ rfl hl.1 rfl (Nat.le_of_ble_eq_true rfl) dX11_highOnes_93 ⟨Nat.zero_le _, Nat.zero_le _⟩ (fun H locs hP hD hS => ?_)
    refine lv_iload hx hb dX11_highOnes_96 (lv_at hl 3 rfl) ?_
    refine lv_iconst (v := 1) hx hb dX11_highOnes_98 (by decide) ?_
    refine kz_dN0 (P := ((v0 >>> ((8 : Int32) &&& 31)) &&& 3) = 1) (tgt := 106) (M := 107) (fun a b => lv_icmp_ne (tgt := 106) hx hb dX11_highOnes_99 (by decide) a b) hx hb dX11_highOnes_102 dX11_highOnes_103 (by decide) dX11_highOnes_106 rfl ?_
    refine kc_Vv (rest := []) (cy_Model_finish l G σ k0_85 ((v0 &&& 7) ||| ((v0 >>> ((4 : Int32) &&& 31)) &&& 8)) (y_Model_value σ ((v0 &&& 7) ||| ((v0 >>> ((4 : Int32) &&& 31)) &&& 8))) (y_Model_value σ ((v0 >>> ((3 : Int32) &&& 31)) &&& 15)) (decide (((v0 >>> ((8 : Int32) &&& 31)) &&& 3) = 1)) (an78_16 _ _)) ⟨hx, hb, hml, hown, hts⟩ (cwV 5 hts (gi_V kw_767 kw_768 kw_769 kw_5 kw_770) rfl rfl rfl ⟨rfl, mdX11_finish⟩ ⟨by decide, by decide⟩) (va_recv hK hP (ci := 9) (q0 := 0) rfl rfl) mZ_ok hK hP hD hS hA hZ rfl hl.1 rfl (Nat.le_of_ble_eq_true rfl) dX11_highOnes_107 ⟨Nat.zero_le _, Nat.zero_le _⟩ (fun H locs hP hD hS => ?_)
    exact hret (y_Model_finish σ k0_85 ((v0 &&& 7) ||| ((v0 >>> ((4 : Int32) &&& 31)) &&& 8)) (y_Model_value σ ((v0 &&& 7) ||| ((v0 >>> ((4 : Int32) &&& 31)) &&& 8))) (y_Model_value σ ((v0 >>> ((3 : Int32) &&& 31)) &&& 15)) (decide (((v0 >>> ((8 : Int32) &&& 31)) &&& 3) = 1))) _ _ _ _ hf hP hD hS dX11_highOnes_110
  refine lv_iload_n hx hb dX11_highOnes_0 rfl (lv_at hl 1 rfl) ?_
  refine lv_bipush (v := 7) hx hb dX11_highOnes_1 (by decide) ?_
  refine lv_iand hx hb dX11_highOnes_3 ?_
  refine lv_iload_n hx hb dX11_highOnes_4 rfl (lv_at hl 1 rfl) ?_
  refine lv_iconst (v := 4) hx hb dX11_highOnes_5 (by decide) ?_
  refine lv_ishr hx hb dX11_highOnes_6 ?_
  refine lv_bipush (v := 8) hx hb dX11_highOnes_7 (by decide) ?_
  refine lv_iand hx hb dX11_highOnes_9 ?_
  refine lv_ior hx hb dX11_highOnes_10 ?_
  refine lv_istore_n (lv' := [(2, .int ((v0 &&& 7) ||| ((v0 >>> ((4 : Int32) &&& 31)) &&& 8))), (0, .ref (gA G 20)), (1, .int v0)]) hx hb dX11_highOnes_11 rfl hl (by decide) rfl (fun ls hl => ?_)
  refine lv_iload_n hx hb dX11_highOnes_12 rfl (lv_at hl 2 rfl) ?_
  refine lv_iconst (v := 3) hx hb dX11_highOnes_13 (by decide) ?_
  refine lv_ishr hx hb dX11_highOnes_14 ?_
  refine lv_bipush (v := 15) hx hb dX11_highOnes_15 (by decide) ?_
  refine lv_iand hx hb dX11_highOnes_17 ?_
  refine lv_istore_n (lv' := [(3, .int ((v0 >>> ((3 : Int32) &&& 31)) &&& 15)), (2, .int ((v0 &&& 7) ||| ((v0 >>> ((4 : Int32) &&& 31)) &&& 8))), (0, .ref (gA G 20)), (1, .int v0)]) hx hb dX11_highOnes_18 rfl hl (by decide) rfl (fun ls hl => ?_)
  refine lv_iload_n hx hb dX11_highOnes_19 rfl (lv_at hl 3 rfl) ?_
  refine lv_bipush (v := 8) hx hb dX11_highOnes_20 (by decide) ?_
  refine lv_ishr hx hb dX11_highOnes_22 ?_
  refine lv_iconst (v := 3) hx hb dX11_highOnes_23 (by decide) ?_
  refine lv_iand hx hb dX11_highOnes_24 ?_
  refine lv_istore (lv' := [(4, .int ((v0 >>> ((8 : Int32) &&& 31)) &&& 3)), (3, .int ((v0 >>> ((3 : Int32) &&& 31)) &&& 15)), (2, .int ((v0 &&& 7) ||| ((v0 >>> ((4 : Int32) &&& 31)) &&& 8))), (0, .ref (gA G 20)), (1, .int v0)]) hx hb dX11_highOnes_25 hl (by decide) rfl (fun ls hl => ?_)
  refine lv_iload hx hb dX11_highOnes_27 (lv_at hl 0 rfl) ?_
  refine lv_iconst (v := 3) hx hb dX11_highOnes_29 (by decide) ?_
  refine lv_icmp_ne (tgt := 62) hx hb dX11_highOnes_30 (by decide) (fun h_7 => ?_) (fun h_7 => ?_)
  · have hf := hf.trans (if_neg h_7)
    refine lv_aload_n hx hb dX11_highOnes_62 rfl (lv_at hl 3 rfl) ?_
    refine lv_iload hx hb dX11_highOnes_63 (lv_at hl 0 rfl) ?_
    refine lv_if_ne (tgt := 72) hx hb dX11_highOnes_65 (by decide) (fun h_8 => ?_) (fun h_8 => ?_)
    · have hf := hf.trans (if_neg h_8)
      refine lv_iload hx hb dX11_highOnes_72 (lv_at hl 0 rfl) ?_
      refine lv_iconst (v := 1) hx hb dX11_highOnes_74 (by decide) ?_
      refine lv_icmp_ne (tgt := 83) hx hb dX11_highOnes_75 (by decide) (fun h_9 => ?_) (fun h_9 => ?_)
      · have hf := hf.trans (if_neg h_9)
        refine lv_bipush (v := 13) hx hb dX11_highOnes_83 (by decide) ?_
        exact J85 13 _ _ _ hP hD hS (lv_sub hl [3, 2, 1, 0] rfl) hf
      · have hf := hf.trans (if_pos h_9)
        refine lv_bipush (v := 10) hx hb dX11_highOnes_78 (by decide) ?_
        refine lv_goto (tgt := 85) hx hb dX11_highOnes_80 (by decide) ?_
        exact J85 10 _ _ _ hP hD hS (lv_sub hl [3, 2, 1, 0] rfl) hf
    · have hf := hf.trans (if_pos h_8)
      refine lv_iconst (v := 4) hx hb dX11_highOnes_68 (by decide) ?_
      refine lv_goto (tgt := 85) hx hb dX11_highOnes_69 (by decide) ?_
      exact J85 4 _ _ _ hP hD hS (lv_sub hl [3, 2, 1, 0] rfl) hf
  · have hf := hf.trans (if_pos h_7)
    refine lv_iload_n hx hb dX11_highOnes_33 rfl (lv_at hl 4 rfl) ?_
    refine lv_bipush (v := 7) hx hb dX11_highOnes_34 (by decide) ?_
    refine lv_ishr hx hb dX11_highOnes_36 ?_
    refine lv_iconst (v := 1) hx hb dX11_highOnes_37 (by decide) ?_
    refine lv_iand hx hb dX11_highOnes_38 ?_
    refine lv_iconst (v := 1) hx hb dX11_highOnes_39 (by decide) ?_
    refine lv_icmp_ne (tgt := 50) hx hb dX11_highOnes_40 (by decide) (fun h_10 => ?_) (fun h_10 => ?_)
    · have hf := hf.trans (if_neg h_10)
      refine lv_aload_n hx hb dX11_highOnes_50 rfl (lv_at hl 3 rfl) ?_
      refine lv_aload_n hx hb dX11_highOnes_51 rfl (lv_at hl 3 rfl) ?_
      refine lv_iload_n hx hb dX11_highOnes_52 rfl (lv_at hl 1 rfl) ?_
      refine kc_Vr (rest := [.ref (gA G 20)]) (cy_Model_value l G σ ((v0 >>> ((3 : Int32) &&& 31)) &&& 15) (pk_andIn _ 4 (by decide) (by decide))) ⟨hx, hb, hml, hown, hts⟩ (cwV 1 hts (gi_V kw_826 kw_827 kw_828 kw_5 kw_829) rfl rfl rfl ⟨rfl, mdX11_value⟩ ⟨by decide, by decide⟩) (va_recv hK hP (ci := 9) (q0 := 0) rfl rfl) mZ_ok hK hP hD hS hA hZ rfl hl.1 rfl (Nat.le_of_ble_eq_true rfl) dX11_highOnes_53 ⟨Nat.zero_le _, Nat.zero_le _⟩ (fun H locs hP hD hS => ?_)
      refine kc_Vv (rest := []) (cy_Model_exchange l G σ (y_Model_value σ ((v0 >>> ((3 : Int32) &&& 31)) &&& 15))) ⟨hx, hb, hml, hown, hts⟩ (cwV 1 hts (gi_V kw_834 kw_835 kw_836 kw_5 kw_837) rfl rfl rfl ⟨rfl, mdX11_exchange⟩ ⟨by decide, by decide⟩) (va_recv hK hP (ci := 9) (q0 := 0) rfl rfl) mZ_ok hK hP hD hS hA hZ rfl hl.1 rfl (Nat.le_of_ble_eq_true rfl) dX11_highOnes_56 ⟨Nat.zero_le _, Nat.zero_le _⟩ (fun H locs hP hD hS => ?_)
      refine lv_goto (tgt := 110) hx hb dX11_highOnes_59 (by decide) ?_
      exact hret (y_Model_exchange σ (y_Model_value σ ((v0 >>> ((3 : Int32) &&& 31)) &&& 15))) _ _ _ _ hf hP hD hS dX11_highOnes_110
    · have hf := hf.trans (if_pos h_10)
      refine lv_aload_n hx hb dX11_highOnes_43 rfl (lv_at hl 3 rfl) ?_
      refine kc_Vv (rest := []) (cy_Model_undefined l G σ) ⟨hx, hb, hml, hown, hts⟩ (cwV 0 hts (gi_V kw_822 kw_823 kw_824 kw_5 kw_825) rfl rfl rfl ⟨rfl, mdX11_undefined⟩ ⟨by decide, by decide⟩) (va_recv hK hP (ci := 9) (q0 := 0) rfl rfl) mZ_ok hK hP hD hS hA hZ rfl hl.1 rfl (Nat.le_of_ble_eq_true rfl) dX11_highOnes_44 ⟨Nat.zero_le _, Nat.zero_le _⟩ (fun H locs hP hD hS => ?_)
      refine lv_goto (tgt := 110) hx hb dX11_highOnes_47 (by decide) ?_
      exact hret (y_Model_undefined σ) _ _ _ _ hf hP hD hS dX11_highOnes_110
