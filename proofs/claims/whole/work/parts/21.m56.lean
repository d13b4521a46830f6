def y_Model_far (σ : MS) (v0 : Int32) : MS := (if (v0 >>> ((11 : Int32) &&& 31)) = 28 then y_Model_put σ 15 (((m_here σ) + 4) + (2 * ((v0 <<< ((21 : Int32) &&& 31)) >>> ((21 : Int32) &&& 31)))) else (if (v0 >>> ((11 : Int32) &&& 31)) = 30 then y_Model_put σ 14 (((m_here σ) + 4) + (4096 * ((v0 <<< ((21 : Int32) &&& 31)) >>> ((21 : Int32) &&& 31)))) else (if (v0 >>> ((11 : Int32) &&& 31)) = 31 then y_Model_put (y_Model_put σ 14 (((m_here σ) + 2) ||| 1)) 15 ((y_Model_at σ 14) + (2 * (v0 &&& 2047))) else y_Model_undefined σ)))
set_option maxRecDepth 20000 in
set_option maxHeartbeats 4000000 in
theorem cy_Model_far (l : Launch) (G : KG) (σ : MS) (v0 : Int32) : KV l yX11_far (Cond.code yX11_far cX11_far 5 none :: lw_all) (kr 3) (gD G) vwCl (gT G) (mZ G) (mW G) [.ref (gA G 20), .int v0] σ (y_Model_far σ v0) := by
  refine kc_in_v (q := y_Model_far σ v0) (by decide) rfl (Nat.le_of_ble_eq_true rfl) ?_
  intro p e s m args below meth c A Q ls hx hb hml hown hts hK hP hD hA hS hZ hl hret
  have hts := fun w h => hts w (List.mem_cons_of_mem _ h)
  have hl : lv_has ls 5 [(0, .ref (gA G 20)), (1, .int v0)] := hl
  have hf : y_Model_far σ v0 = y_Model_far σ v0 := rfl
  refine lv_iload_n hx hb dX11_far_0 rfl (lv_at hl 1 rfl) ?_
  refine lv_bipush (v := 11) hx hb dX11_far_1 (by decide) ?_
  refine lv_ishr hx hb dX11_far_3 ?_
  refine lv_istore_n (lv' := [(2, .int (v0 >>> ((11 : Int32) &&& 31))), (0, .ref (gA G 20)), (1, .int v0)]) hx hb dX11_far_4 rfl hl (by decide) rfl (fun ls hl => ?_)
  refine lv_iload_n hx hb dX11_far_5 rfl (lv_at hl 2 rfl) ?_
  refine lv_bipush (v := 21) hx hb dX11_far_6 (by decide) ?_
  refine lv_ishl hx hb dX11_far_8 ?_
  refine lv_bipush (v := 21) hx hb dX11_far_9 (by decide) ?_
  refine lv_ishr hx hb dX11_far_11 ?_
  refine lv_istore_n (lv' := [(3, .int ((v0 <<< ((21 : Int32) &&& 31)) >>> ((21 : Int32) &&& 31))), (2, .int (v0 >>> ((11 : Int32) &&& 31))), (0, .ref (gA G 20)), (1, .int v0)]) hx hb dX11_far_12 rfl hl (by decide) rfl (fun ls hl => ?_)
  refine lv_iload_n hx hb dX11_far_13 rfl (lv_at hl 1 rfl) ?_
  refine lv_bipush (v := 28) hx hb dX11_far_14 (by decide) ?_
  refine lv_icmp_ne (tgt := 38) hx hb dX11_far_16 (by decide) (fun h_4 => ?_) (fun h_4 => ?_)
  · have hf := hf.trans (if_neg h_4)
    refine lv_iload_n hx hb dX11_far_38 rfl (lv_at hl 1 rfl) ?_
    refine lv_bipush (v := 30) hx hb dX11_far_39 (by decide) ?_
    refine lv_icmp_ne (tgt := 65) hx hb dX11_far_41 (by decide) (fun h_5 => ?_) (fun h_5 => ?_)
    · have hf := hf.trans (if_neg h_5)
      refine lv_iload_n hx hb dX11_far_65 rfl (lv_at hl 1 rfl) ?_
      refine lv_bipush (v := 31) hx hb dX11_far_66 (by decide) ?_
      refine lv_icmp_ne (tgt := 112) hx hb dX11_far_68 (by decide) (fun h_6 => ?_) (fun h_6 => ?_)
      · have hf := hf.trans (if_neg h_6)
        refine lv_aload_n hx hb dX11_far_112 rfl (lv_at hl 2 rfl) ?_
        refine kc_Vv (rest := []) (cy_Model_undefined l G σ) ⟨hx, hb, hml, hown, hts⟩ (cwV 0 hts (gi_V kw_822 kw_823 kw_824 kw_5 kw_825) rfl rfl rfl ⟨rfl, mdX11_undefined⟩ ⟨by decide, by decide⟩) (va_recv hK hP (ci := 9) (q0 := 0) rfl rfl) mZ_ok hK hP hD hS hA hZ rfl hl.1 rfl (Nat.le_of_ble_eq_true rfl) dX11_far_113 ⟨Nat.zero_le _, Nat.zero_le _⟩ (fun H locs hP hD hS => ?_)
        exact hret (y_Model_undefined σ) _ _ _ _ hf hP hD hS dX11_far_116
      · have hf := hf.trans (if_pos h_6)
        refine lv_aload_n hx hb dX11_far_71 rfl (lv_at hl 2 rfl) ?_
        refine lv_bipush (v := 14) hx hb dX11_far_72 (by decide) ?_
        refine kc_Vr (rest := []) (cy_Model_at l G σ 14 (by unfold vp_in; decide)) ⟨hx, hb, hml, hown, hts⟩ (cwV 1 hts (gi_V kw_753 kw_754 kw_755 kw_5 kw_756) rfl rfl rfl ⟨rfl, mdX11_at⟩ ⟨by decide, by decide⟩) (va_recv hK hP (ci := 9) (q0 := 0) rfl rfl) mZ_ok hK hP hD hS hA hZ rfl hl.1 rfl (Nat.le_of_ble_eq_true rfl) dX11_far_74 ⟨Nat.zero_le _, Nat.zero_le _⟩ (fun H locs hP hD hS => ?_)
        refine lv_iconst (v := 2) hx hb dX11_far_77 (by decide) ?_
        refine lv_iload_n hx hb dX11_far_78 rfl (lv_at hl 3 rfl) ?_
        refine lv_sipush (v := 2047) hx hb dX11_far_79 (by decide) ?_
        refine lv_iand hx hb dX11_far_82 ?_
        refine lv_imul hx hb dX11_far_83 ?_
        refine lv_iadd hx hb dX11_far_84 ?_
        refine lv_istore (lv' := [(4, .int ((y_Model_at σ 14) + (2 * (v0 &&& 2047)))), (3, .int ((v0 <<< ((21 : Int32) &&& 31)) >>> ((21 : Int32) &&& 31))), (2, .int (v0 >>> ((11 : Int32) &&& 31))), (0, .ref (gA G 20)), (1, .int v0)]) hx hb dX11_far_85 hl (by decide) rfl (fun ls hl => ?_)
        refine lv_aload_n hx hb dX11_far_87 rfl (lv_at hl 3 rfl) ?_
        refine lv_bipush (v := 14) hx hb dX11_far_88 (by decide) ?_
        refine lv_aload_n hx hb dX11_far_90 rfl (lv_at hl 3 rfl) ?_
        refine va_get (D := gD G) (ci := 9) hx hb hts ku_11 hown hK hP 0 rfl rfl 8 (by decide) (hts _ kw_726) (fun _ h9 => h9) rfl dX11_far_91 ?_
        refine lv_iconst (v := 2) hx hb dX11_far_94 (by decide) ?_
        refine lv_iadd hx hb dX11_far_95 ?_
        refine lv_iconst (v := 1) hx hb dX11_far_96 (by decide) ?_
        refine lv_ior hx hb dX11_far_97 ?_
        refine kc_Vv (rest := []) (cy_Model_put l G σ 14 (((m_here σ) + 2) ||| 1) (by unfold vp_in; decide)) ⟨hx, hb, hml, hown, hts⟩ (cwV 2 hts (gi_V kw_806 kw_807 kw_808 kw_5 kw_809) rfl rfl rfl ⟨rfl, mdX11_put⟩ ⟨by decide, by decide⟩) (va_recv hK hP (ci := 9) (q0 := 0) rfl rfl) mZ_ok hK hP hD hS hA hZ rfl hl.1 rfl (Nat.le_of_ble_eq_true rfl) dX11_far_98 ⟨Nat.zero_le _, Nat.zero_le _⟩ (fun H locs hP hD hS => ?_)
        refine lv_aload_n hx hb dX11_far_101 rfl (lv_at hl 3 rfl) ?_
        refine lv_bipush (v := 15) hx hb dX11_far_102 (by decide) ?_
        refine lv_iload hx hb dX11_far_104 (lv_at hl 0 rfl) ?_
        refine kc_Vv (rest := []) (cy_Model_put l G (y_Model_put σ 14 (((m_here σ) + 2) ||| 1)) 15 ((y_Model_at σ 14) + (2 * (v0 &&& 2047))) (by unfold vp_in; decide)) ⟨hx, hb, hml, hown, hts⟩ (cwV 2 hts (gi_V kw_806 kw_807 kw_808 kw_5 kw_809) rfl rfl rfl ⟨rfl, mdX11_put⟩ ⟨by decide, by decide⟩) (va_recv hK hP (ci := 9) (q0 := 0) rfl rfl) mZ_ok hK hP hD hS hA hZ rfl hl.1 rfl (Nat.le_of_ble_eq_true rfl) dX11_far_106 ⟨Nat.zero_le _, Nat.zero_le _⟩ (fun H locs hP hD hS => ?_)
        refine lv_goto (tgt := 116) hx hb dX11_far_109 (by decide) ?_
        exact hret (y_Model_put (y_Model_put σ 14 (((m_here σ) + 2) ||| 1)) 15 ((y_Model_at σ 14) + (2 * (v0 &&& 2047)))) _ _ _ _ hf hP hD hS dX11_far_116
    · have hf := hf.trans (if_pos h_5)
      refine lv_aload_n hx hb dX11_far_44 rfl (lv_at hl 2 rfl) ?_
      refine lv_bipush (v := 14) hx hb dX11_far_45 (by decide) ?_
      refine lv_aload_n hx hb dX11_far_47 rfl (lv_at hl 2 rfl) ?_
      refine va_get (D := gD G) (ci := 9) hx hb hts ku_11 hown hK hP 0 rfl rfl 8 (by decide) (hts _ kw_726) (fun _ h9 => h9) rfl dX11_far_48 ?_
      refine lv_iconst (v := 4) hx hb dX11_far_51 (by decide) ?_
      refine lv_iadd hx hb dX11_far_52 ?_
      refine lv_sipush (v := 4096) hx hb dX11_far_53 (by decide) ?_
      refine lv_iload_n hx hb dX11_far_56 rfl (lv_at hl 0 rfl) ?_
      refine lv_imul hx hb dX11_far_57 ?_
      refine lv_iadd hx hb dX11_far_58 ?_
      refine kc_Vv (rest := []) (cy_Model_put l G σ 14 (((m_here σ) + 4) + (4096 * ((v0 <<< ((21 : Int32) &&& 31)) >>> ((21 : Int32) &&& 31)))) (by unfold vp_in; decide)) ⟨hx, hb, hml, hown, hts⟩ (cwV 2 hts (gi_V kw_806 kw_807 kw_808 kw_5 kw_809) rfl rfl rfl ⟨rfl, mdX11_put⟩ ⟨by decide, by decide⟩) (va_recv hK hP (ci := 9) (q0 := 0) rfl rfl) mZ_ok hK hP hD hS hA hZ rfl hl.1 rfl (Nat.le_of_ble_eq_true rfl) dX11_far_59 ⟨Nat.zero_le _, Nat.zero_le _⟩ (fun H locs hP hD hS => ?_)
      refine lv_goto (tgt := 116) hx hb dX11_far_62 (by decide) ?_
      exact hret (y_Model_put σ 14 (((m_here σ) + 4) + (4096 * ((v0 <<< ((21 : Int32) &&& 31)) >>> ((21 : Int32) &&& 31))))) _ _ _ _ hf hP hD hS dX11_far_116
  · have hf := hf.trans (if_pos h_4)
    refine lv_aload_n hx hb dX11_far_19 rfl (lv_at hl 2 rfl) ?_
    refine lv_bipush (v := 15) hx hb dX11_far_20 (by decide) ?_
    refine lv_aload_n hx hb dX11_far_22 rfl (lv_at hl 2 rfl) ?_
    refine va_get (D := gD G) (ci := 9) hx hb hts ku_11 hown hK hP 0 rfl rfl 8 (by decide) (hts _ kw_726) (fun _ h9 => h9) rfl dX11_far_23 ?_
    refine lv_iconst (v := 4) hx hb dX11_far_26 (by decide) ?_
    refine lv_iadd hx hb dX11_far_27 ?_
    refine lv_iconst (v := 2) hx hb dX11_far_28 (by decide) ?_
    refine lv_iload_n hx hb dX11_far_29 rfl (lv_at hl 0 rfl) ?_
    refine lv_imul hx hb dX11_far_30 ?_
    refine lv_iadd hx hb dX11_far_31 ?_
    refine kc_Vv (rest := []) (cy_Model_put l G σ 15 (((m_here σ) + 4) + (2 * ((v0 <<< ((21 : Int32) &&& 31)) >>> ((21 : Int32) &&& 31)))) (by unfold vp_in; decide)) ⟨hx, hb, hml, hown, hts⟩ (cwV 2 hts (gi_V kw_806 kw_807 kw_808 kw_5 kw_809) rfl rfl rfl ⟨rfl, mdX11_put⟩ ⟨by decide, by decide⟩) (va_recv hK hP (ci := 9) (q0 := 0) rfl rfl) mZ_ok hK hP hD hS hA hZ rfl hl.1 rfl (Nat.le_of_ble_eq_true rfl) dX11_far_32 ⟨Nat.zero_le _, Nat.zero_le _⟩ (fun H locs hP hD hS => ?_)
    refine lv_goto (tgt := 116) hx hb dX11_far_35 (by decide) ?_
    exact hret (y_Model_put σ 15 (((m_here σ) + 4) + (2 * ((v0 <<< ((21 : Int32) &&& 31)) >>> ((21 : Int32) &&& 31))))) _ _ _ _ hf hP hD hS dX11_far_116
