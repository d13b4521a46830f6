def y_Model_swap_82 (σ : MS) (v0 : Int32) (k0_82 : Int32) : MS := y_Model_put (y_Model_storeAt σ (y_Model_at σ ((v0 >>> ((16 : Int32) &&& 31)) &&& 15)) k0_82 (y_Model_at σ (v0 &&& 15))) ((v0 >>> ((12 : Int32) &&& 31)) &&& 15) (y_Model_loaded σ (y_Model_at σ ((v0 >>> ((16 : Int32) &&& 31)) &&& 15)) k0_82)
def y_Model_swap (σ : MS) (v0 : Int32) : MS := (if ((v0 >>> ((16 : Int32) &&& 31)) &&& 15) = 15 then y_Model_undefined σ else (if ((v0 >>> ((12 : Int32) &&& 31)) &&& 15) = 15 then y_Model_undefined σ else (if (v0 &&& 15) = 15 then y_Model_undefined σ else (if (y_Model_isThere (y_Model_at σ ((v0 >>> ((16 : Int32) &&& 31)) &&& 15))) = true then (if ((v0 >>> ((22 : Int32) &&& 31)) &&& 1) = 1 then y_Model_swap_82 σ v0 1 else y_Model_swap_82 σ v0 4) else t_fault σ 3))))
set_option maxRecDepth 20000 in
set_option maxHeartbeats 4000000 in
theorem cy_Model_swap (l : Launch) (G : KG) (σ : MS) (v0 : Int32) : KV l yX11_swap (Cond.code yX11_swap cX11_swap 8 none :: lw_all) (kr 3) (gD G) vwCl (gT G) (mZ G) (mW G) [.ref (gA G 20), .int v0] σ (y_Model_swap σ v0) := by
  refine kc_in_v (q := y_Model_swap σ v0) (by decide) rfl (Nat.le_of_ble_eq_true rfl) ?_
  intro p e s m args below meth c A Q ls hx hb hml hown hts hK hP hD hA hS hZ hl hret
  have hts := fun w h => hts w (List.mem_cons_of_mem _ h)
  have hl : lv_has ls 8 [(0, .ref (gA G 20)), (1, .int v0)] := hl
  have hf : y_Model_swap σ v0 = y_Model_swap σ v0 := rfl
  have J82 : ∀ (k0_82 : Int32) (hth : y_Model_isThere (y_Model_at σ ((v0 >>> ((16 : Int32) &&& 31)) &&& 15)) = true) (H : Heap) (locs : List Loc) (ls : Array Slot), va_P (gD G) vwCl (mW G (σ)) H → va_D A (mW G (σ)) → va_S A s.heap H locs → lv_has ls 8 [(0, .ref (gA G 20)), (3, .int ((v0 >>> ((12 : Int32) &&& 31)) &&& 15)), (4, .int (v0 &&& 15)), (5, .int (y_Model_at σ ((v0 >>> ((16 : Int32) &&& 31)) &&& 15)))] → y_Model_swap σ v0 = y_Model_swap_82 σ v0 k0_82 → W p l e (kr 3) s m args below meth c H locs 0 0 Q (F0 m 82 ls [.int k0_82]) := by
    intro k0_82 hth H locs ls hP hD hS hl hf
    refine lv_istore (lv' := [(6, .int k0_82), (0, .ref (gA G 20)), (3, .int ((v0 >>> ((12 : Int32) &&& 31)) &&& 15)), (4, .int (v0 &&& 15)), (5, .int (y_Model_at σ ((v0 >>> ((16 : Int32) &&& 31)) &&& 15)))]) hx hb dX11_swap_82 hl (by decide) rfl (fun ls hl => ?_)
    refine lv_aload_n hx hb dX11_swap_84 rfl (lv_at hl 1 rfl) ?_
    refine lv_iload hx hb dX11_swap_85 (lv_at hl 4 rfl) ?_
    refine lv_iload hx hb dX11_swap_87 (lv_at hl 0 rfl) ?_
    refine kc_Vr (rest := []) (cy_Model_loaded l G σ (y_Model_at σ ((v0 >>> ((16 : Int32) &&& 31)) &&& 15)) k0_82 (th_in (by assumption))) ⟨hx, hb, hml, hown, hts⟩ (cwV 2 hts (gi_V kw_842 kw_843 kw_844 kw_5 kw_845) rfl rfl rfl ⟨rfl, mdX11_loaded⟩ ⟨by decide, by decide⟩) (va_recv hK hP (ci := 9) (q0 := 0) rfl rfl) mZ_ok hK hP hD hS hA hZ rfl hl.1 rfl (Nat.le_of_ble_eq_true rfl) dX11_swap_89 ⟨Nat.zero_le _, Nat.zero_le _⟩ (fun H locs hP hD hS => ?_)
    refine lv_istore (lv' := [(7, .int (y_Model_loaded σ (y_Model_at σ ((v0 >>> ((16 : Int32) &&& 31)) &&& 15)) k0_82)), (6, .int k0_82), (0, .ref (gA G 20)), (3, .int ((v0 >>> ((12 : Int32) &&& 31)) &&& 15)), (4, .int (v0 &&& 15)), (5, .int (y_Model_at σ ((v0 >>> ((16 : Int32) &&& 31)) &&& 15)))]) hx hb dX11_swap_92 hl (by decide) rfl (fun ls hl => ?_)
    refine lv_aload_n hx hb dX11_swap_94 rfl (lv_at hl 2 rfl) ?_
    refine lv_iload hx hb dX11_swap_95 (lv_at hl 5 rfl) ?_
    refine lv_iload hx hb dX11_swap_97 (lv_at hl 1 rfl) ?_
    refine lv_aload_n hx hb dX11_swap_99 rfl (lv_at hl 2 rfl) ?_
    refine lv_iload hx hb dX11_swap_100 (lv_at hl 4 rfl) ?_
    refine kc_Vr (rest := [.int k0_82, .int (y_Model_at σ ((v0 >>> ((16 : Int32) &&& 31)) &&& 15)), .ref (gA G 20)]) (cy_Model_at l G σ (v0 &&& 15) (pk_andIn _ 4 (by decide) (by decide))) ⟨hx, hb, hml, hown, hts⟩ (cwV 1 hts (gi_V kw_753 kw_754 kw_755 kw_5 kw_756) rfl rfl rfl ⟨rfl, mdX11_at⟩ ⟨by decide, by decide⟩) (va_recv hK hP (ci := 9) (q0 := 0) rfl rfl) mZ_ok hK hP hD hS hA hZ rfl hl.1 rfl (Nat.le_of_ble_eq_true rfl) dX11_swap_102 ⟨Nat.zero_le _, Nat.zero_le _⟩ (fun H locs hP hD hS => ?_)
    refine kc_Vv (rest := []) (cy_Model_storeAt l G σ (y_Model_at σ ((v0 >>> ((16 : Int32) &&& 31)) &&& 15)) k0_82 (y_Model_at σ (v0 &&& 15)) (th_in (by assumption))) ⟨hx, hb, hml, hown, hts⟩ (cwV 3 hts (gi_V kw_854 kw_855 kw_856 kw_5 kw_857) rfl rfl rfl ⟨rfl, mdX11_storeAt⟩ ⟨by decide, by decide⟩) (va_recv hK hP (ci := 9) (q0 := 0) rfl rfl) mZ_ok hK hP hD hS hA hZ rfl hl.1 rfl (Nat.le_of_ble_eq_true rfl) dX11_swap_105 ⟨Nat.zero_le _, Nat.zero_le _⟩ (fun H locs hP hD hS => ?_)
    refine lv_aload_n hx hb dX11_swap_108 rfl (lv_at hl 2 rfl) ?_
    refine lv_iload_n hx hb dX11_swap_109 rfl (lv_at hl 3 rfl) ?_
    refine lv_iload hx hb dX11_swap_110 (lv_at hl 0 rfl) ?_
    refine kc_Vv (rest := []) (cy_Model_put l G (y_Model_storeAt σ (y_Model_at σ ((v0 >>> ((16 : Int32) &&& 31)) &&& 15)) k0_82 (y_Model_at σ (v0 &&& 15))) ((v0 >>> ((12 : Int32) &&& 31)) &&& 15) (y_Model_loaded σ (y_Model_at σ ((v0 >>> ((16 : Int32) &&& 31)) &&& 15)) k0_82) (pk_andIn _ 4 (by decide) (by decide))) ⟨hx, hb, hml, hown, hts⟩ (cwV 2 hts (gi_V kw_806 kw_807 kw_808 kw_5 kw_809) rfl rfl rfl ⟨rfl, mdX11_put⟩ ⟨by decide, by decide⟩) (va_recv hK hP (ci := 9) (q0 := 0) rfl rfl) mZ_ok hK hP hD hS hA hZ rfl hl.1 rfl (Nat.le_of_ble_eq_true rfl) dX11_swap_112 ⟨Nat.zero_le _, Nat.zero_le _⟩ (fun H locs hP hD hS => ?_)
    exact hret (y_Model_put (y_Model_storeAt σ (y_Model_at σ ((v0 >>> ((16 : Int32) &&& 31)) &&& 15)) k0_82 (y_Model_at σ (v0 &&& 15))) ((v0 >>> ((12 : Int32) &&& 31)) &&& 15) (y_Model_loaded σ (y_Model_at σ ((v0 >>> ((16 : Int32) &&& 31)) &&& 15)) k0_82)) _ _ _ _ hf hP hD hS dX11_swap_115
  refine lv_iload_n hx hb dX11_swap_0 rfl (lv_at hl 1 rfl) ?_
  refine lv_bipush (v := 16) hx hb dX11_swap_1 (by decide) ?_
  refine lv_ishr hx hb dX11_swap_3 ?_
  refine lv_bipush (v := 15) hx hb dX11_swap_4 (by decide) ?_
  refine lv_iand hx hb dX11_swap_6 ?_
  refine lv_istore_n (lv' := [(2, .int ((v0 >>> ((16 : Int32) &&& 31)) &&& 15)), (0, .ref (gA G 20)), (1, .int v0)]) hx hb dX11_swap_7 rfl hl (by decide) rfl (fun ls hl => ?_)
  refine lv_iload_n hx hb dX11_swap_8 rfl (lv_at hl 2 rfl) ?_
  refine lv_bipush (v := 12) hx hb dX11_swap_9 (by decide) ?_
  refine lv_ishr hx hb dX11_swap_11 ?_
  refine lv_bipush (v := 15) hx hb dX11_swap_12 (by decide) ?_
  refine lv_iand hx hb dX11_swap_14 ?_
  refine lv_istore_n (lv' := [(3, .int ((v0 >>> ((12 : Int32) &&& 31)) &&& 15)), (2, .int ((v0 >>> ((16 : Int32) &&& 31)) &&& 15)), (0, .ref (gA G 20)), (1, .int v0)]) hx hb dX11_swap_15 rfl hl (by decide) rfl (fun ls hl => ?_)
  refine lv_iload_n hx hb dX11_swap_16 rfl (lv_at hl 3 rfl) ?_
  refine lv_bipush (v := 15) hx hb dX11_swap_17 (by decide) ?_
  refine lv_iand hx hb dX11_swap_19 ?_
  refine lv_istore (lv' := [(4, .int (v0 &&& 15)), (3, .int ((v0 >>> ((12 : Int32) &&& 31)) &&& 15)), (2, .int ((v0 >>> ((16 : Int32) &&& 31)) &&& 15)), (0, .ref (gA G 20)), (1, .int v0)]) hx hb dX11_swap_20 hl (by decide) rfl (fun ls hl => ?_)
  refine lv_iload_n hx hb dX11_swap_22 rfl (lv_at hl 2 rfl) ?_
  refine lv_bipush (v := 15) hx hb dX11_swap_23 (by decide) ?_
  refine lv_icmp_eq (tgt := 41) hx hb dX11_swap_25 (by decide) (fun h_6 => ?_) (fun h_6 => ?_)
  · have hf := hf.trans (if_pos h_6)
    refine lv_aload_n hx hb dX11_swap_41 rfl (lv_at hl 3 rfl) ?_
    refine kc_Vv (rest := []) (cy_Model_undefined l G σ) ⟨hx, hb, hml, hown, hts⟩ (cwV 0 hts (gi_V kw_822 kw_823 kw_824 kw_5 kw_825) rfl rfl rfl ⟨rfl, mdX11_undefined⟩ ⟨by decide, by decide⟩) (va_recv hK hP (ci := 9) (q0 := 0) rfl rfl) mZ_ok hK hP hD hS hA hZ rfl hl.1 rfl (Nat.le_of_ble_eq_true rfl) dX11_swap_42 ⟨Nat.zero_le _, Nat.zero_le _⟩ (fun H locs hP hD hS => ?_)
    exact hret (y_Model_undefined σ) _ _ _ _ hf hP hD hS dX11_swap_45
  · have hf := hf.trans (if_neg h_6)
    refine lv_iload_n hx hb dX11_swap_28 rfl (lv_at hl 1 rfl) ?_
    refine lv_bipush (v := 15) hx hb dX11_swap_29 (by decide) ?_
    refine lv_icmp_eq (tgt := 41) hx hb dX11_swap_31 (by decide) (fun h_7 => ?_) (fun h_7 => ?_)
    · have hf := hf.trans (if_pos h_7)
      refine lv_aload_n hx hb dX11_swap_41 rfl (lv_at hl 3 rfl) ?_
      refine kc_Vv (rest := []) (cy_Model_undefined l G σ) ⟨hx, hb, hml, hown, hts⟩ (cwV 0 hts (gi_V kw_822 kw_823 kw_824 kw_5 kw_825) rfl rfl rfl ⟨rfl, mdX11_undefined⟩ ⟨by decide, by decide⟩) (va_recv hK hP (ci := 9) (q0 := 0) rfl rfl) mZ_ok hK hP hD hS hA hZ rfl hl.1 rfl (Nat.le_of_ble_eq_true rfl) dX11_swap_42 ⟨Nat.zero_le _, Nat.zero_le _⟩ (fun H locs hP hD hS => ?_)
      exact hret (y_Model_undefined σ) _ _ _ _ hf hP hD hS dX11_swap_45
    · have hf := hf.trans (if_neg h_7)
      refine lv_iload hx hb dX11_swap_34 (lv_at hl 0 rfl) ?_
      refine lv_bipush (v := 15) hx hb dX11_swap_36 (by decide) ?_
      refine lv_icmp_ne (tgt := 46) hx hb dX11_swap_38 (by decide) (fun h_8 => ?_) (fun h_8 => ?_)
      · have hf := hf.trans (if_neg h_8)
        refine lv_aload_n hx hb dX11_swap_46 rfl (lv_at hl 3 rfl) ?_
        refine lv_iload_n hx hb dX11_swap_47 rfl (lv_at hl 2 rfl) ?_
        refine kc_Vr (rest := []) (cy_Model_at l G σ ((v0 >>> ((16 : Int32) &&& 31)) &&& 15) (pk_andIn _ 4 (by decide) (by decide))) ⟨hx, hb, hml, hown, hts⟩ (cwV 1 hts (gi_V kw_753 kw_754 kw_755 kw_5 kw_756) rfl rfl rfl ⟨rfl, mdX11_at⟩ ⟨by decide, by decide⟩) (va_recv hK hP (ci := 9) (q0 := 0) rfl rfl) mZ_ok hK hP hD hS hA hZ rfl hl.1 rfl (Nat.le_of_ble_eq_true rfl) dX11_swap_48 ⟨Nat.zero_le _, Nat.zero_le _⟩ (fun H locs hP hD hS => ?_)
        refine lv_istore (lv' := [(5, .int (y_Model_at σ ((v0 >>> ((16 : Int32) &&& 31)) &&& 15))), (4, .int (v0 &&& 15)), (3, .int ((v0 >>> ((12 : Int32) &&& 31)) &&& 15)), (2, .int ((v0 >>> ((16 : Int32) &&& 31)) &&& 15)), (0, .ref (gA G 20)), (1, .int v0)]) hx hb dX11_swap_51 hl (by decide) rfl (fun ls hl => ?_)
        refine lv_iload hx hb dX11_swap_53 (lv_at hl 0 rfl) ?_
        refine kp_Si (rest := []) (cy_Model_isThere l (y_Model_at σ ((v0 >>> ((16 : Int32) &&& 31)) &&& 15))) ⟨hx, hb, hml, hown, hts⟩ (va_cwS 1 hts (gi_S kw_737 kw_738 kw_5 kw_739) rfl rfl rfl mdX11_isThere ⟨by decide, by decide⟩) rfl hl.1 rfl (Nat.le_of_ble_eq_true rfl) dX11_swap_55 ⟨Nat.zero_le _, Nat.zero_le _⟩ ?_
        refine kz_ne (tgt := 67) hx hb dX11_swap_58 (by decide) (fun h_9 => ?_) (fun h_9 => ?_)
        · have hf := hf.trans (if_pos h_9)
          refine lv_iload_n hx hb dX11_swap_67 rfl (lv_at hl 5 rfl) ?_
          refine lv_bipush (v := 22) hx hb dX11_swap_68 (by decide) ?_
          refine lv_ishr hx hb dX11_swap_70 ?_
          refine lv_iconst (v := 1) hx hb dX11_swap_71 (by decide) ?_
          refine lv_iand hx hb dX11_swap_72 ?_
          refine lv_iconst (v := 1) hx hb dX11_swap_73 (by decide) ?_
          refine lv_icmp_ne (tgt := 81) hx hb dX11_swap_74 (by decide) (fun h_10 => ?_) (fun h_10 => ?_)
          · have hf := hf.trans (if_neg h_10)
            refine lv_iconst (v := 4) hx hb dX11_swap_81 (by decide) ?_
            exact J82 4 (by assumption) _ _ _ hP hD hS (lv_sub hl [4, 2, 1, 0] rfl) hf
          · have hf := hf.trans (if_pos h_10)
            refine lv_iconst (v := 1) hx hb dX11_swap_77 (by decide) ?_
            refine lv_goto (tgt := 82) hx hb dX11_swap_78 (by decide) ?_
            exact J82 1 (by assumption) _ _ _ hP hD hS (lv_sub hl [4, 2, 1, 0] rfl) hf
        · have hf := hf.trans (if_neg h_9)
          refine lv_aload_n hx hb dX11_swap_61 rfl (lv_at hl 4 rfl) ?_
          refine lv_iconst (v := 3) hx hb dX11_swap_62 (by decide) ?_
          refine kc_top (fixF_c (by decide)) ?_
          refine va_put (D := gD G) (ci := 9) (v := .int (fixF 3)) (ty := .int) hx hb hts ku_11 tyX11 tyX11_ok nmX11 hown hK hP hD hS 0 rfl rfl 10 (by decide) (hts _ kw_727) (fun _ h9 => h9) rfl (tyX11_ok 10 (by decide)) rfl rfl (Nat.le_of_ble_eq_true rfl) dX11_swap_63 (fun H locs hP hD hS => ?_)
          have hP := kP_eq (mWs_fault G σ 3) hP
          have hD := kD_eq (mWs_fault G σ 3) hD
          exact hret (t_fault σ 3) _ _ _ _ hf hP hD hS dX11_swap_66
      · have hf := hf.trans (if_pos h_8)
        refine lv_aload_n hx hb dX11_swap_41 rfl (lv_at hl 3 rfl) ?_
        refine kc_Vv (rest := []) (cy_Model_undefined l G σ) ⟨hx, hb, hml, hown, hts⟩ (cwV 0 hts (gi_V kw_822 kw_823 kw_824 kw_5 kw_825) rfl rfl rfl ⟨rfl, mdX11_undefined⟩ ⟨by decide, by decide⟩) (va_recv hK hP (ci := 9) (q0 := 0) rfl rfl) mZ_ok hK hP hD hS hA hZ rfl hl.1 rfl (Nat.le_of_ble_eq_true rfl) dX11_swap_42 ⟨Nat.zero_le _, Nat.zero_le _⟩ (fun H locs hP hD hS => ?_)
        exact hret (y_Model_undefined σ) _ _ _ _ hf hP hD hS dX11_swap_45
