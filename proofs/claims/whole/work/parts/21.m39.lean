def y_Model_operations_86 (σ : MS) (v0 : Int32) (v1 : Int32) (v2 : Int32) (k0_86 : Int32) : MS := y_Model_finish ((y_Model_shift (t_carry σ (y_Model_is σ 29)) k0_86 (y_Model_at σ v1) ((y_Model_at σ v2) &&& 255)).2) 13 v1 0 ((y_Model_shift (t_carry σ (y_Model_is σ 29)) k0_86 (y_Model_at σ v1) ((y_Model_at σ v2) &&& 255)).1) true
def y_Model_operations_67 (σ : MS) (v0 : Int32) (v1 : Int32) (v2 : Int32) : MS := (if v0 = 7 then y_Model_operations_86 σ v0 v1 v2 3 else y_Model_operations_86 σ v0 v1 v2 (v0 - 2))
def y_Model_operations (σ : MS) (v0 : Int32) (v1 : Int32) (v2 : Int32) : MS := (if v0 = 13 then y_Model_setFlags (y_Model_put (t_carry σ (y_Model_is σ 29)) v1 ((y_Model_at σ v1) * (y_Model_at σ v2))) ((y_Model_at σ v1) * (y_Model_at σ v2)) else (if (y_Model_within v0 2 4) = true then y_Model_operations_67 σ v0 v1 v2 else (if v0 = 7 then y_Model_operations_67 σ v0 v1 v2 else (if v0 = 9 then y_Model_finish (t_carry σ (y_Model_is σ 29)) 3 v1 (y_Model_at σ v2) 0 true else y_Model_finish (t_carry σ (y_Model_is σ 29)) v0 v1 (y_Model_at σ v1) (y_Model_at σ v2) true))))
set_option maxRecDepth 20000 in
set_option maxHeartbeats 4000000 in
theorem cy_Model_operations (l : Launch) (G : KG) (σ : MS) (v0 : Int32) (v1 : Int32) (v2 : Int32) (hv1 : vp_in v1 16) (hv2 : vp_in v2 16) : KV l yX11_operations (Cond.code yX11_operations cX11_operations 6 none :: lw_all) (kr 4) (gD G) vwCl (gT G) (mZ G) (mW G) [.ref (gA G 20), .int v0, .int v1, .int v2] σ (y_Model_operations σ v0 v1 v2) := by
  refine kc_in_v (q := y_Model_operations σ v0 v1 v2) (by decide) rfl (Nat.le_of_ble_eq_true rfl) ?_
  intro p e s m args below meth c A Q ls hx hb hml hown hts hK hP hD hA hS hZ hl hret
  have hts := fun w h => hts w (List.mem_cons_of_mem _ h)
  have hl : lv_has ls 6 [(0, .ref (gA G 20)), (1, .int v0), (2, .int v1), (3, .int v2)] := hl
  have hf : y_Model_operations σ v0 v1 v2 = y_Model_operations σ v0 v1 v2 := rfl
  have J86 : ∀ (k0_86 : Int32) (H : Heap) (locs : List Loc) (ls : Array Slot), va_P (gD G) vwCl (mW G (t_carry σ (y_Model_is σ 29))) H → va_D A (mW G (t_carry σ (y_Model_is σ 29))) → va_S A s.heap H locs → lv_has ls 6 [(4, .int (y_Model_at σ v1)), (5, .int (y_Model_at σ v2))] → y_Model_operations σ v0 v1 v2 = y_Model_operations_86 σ v0 v1 v2 k0_86 → W p l e (kr 4) s m args below meth c H locs 0 0 Q (F0 m 86 ls [.int k0_86, .ref (gA G 20), .int 0, .int v1, .int 13, .ref (gA G 20)]) := by
    intro k0_86 H locs ls hP hD hS hl hf
    refine lv_iload hx hb dX11_operations_86 (lv_at hl 0 rfl) ?_
    refine lv_iload hx hb dX11_operations_88 (lv_at hl 1 rfl) ?_
    refine lv_sipush (v := 255) hx hb dX11_operations_90 (by decide) ?_
    refine lv_iand hx hb dX11_operations_93 ?_
    refine kc_Vb (rest := [.int 0, .int v1, .int 13, .ref (gA G 20)]) (cy_Model_shift l G (t_carry σ (y_Model_is σ 29)) k0_86 (y_Model_at σ v1) ((y_Model_at σ v2) &&& 255)) ⟨hx, hb, hml, hown, hts⟩ (cwV 3 hts (gi_V kw_763 kw_764 kw_765 kw_5 kw_766) rfl rfl rfl ⟨rfl, mdX11_shift⟩ ⟨by decide, by decide⟩) (va_recv hK hP (ci := 9) (q0 := 0) rfl rfl) mZ_ok hK hP hD hS hA hZ rfl hl.1 rfl (Nat.le_of_ble_eq_true rfl) dX11_operations_94 ⟨Nat.zero_le _, Nat.zero_le _⟩ (fun H locs hP hD hS => ?_)
    refine lv_iconst (v := 1) hx hb dX11_operations_97 (by decide) ?_
    refine kc_Vv (rest := []) (cy_Model_finish l G ((y_Model_shift (t_carry σ (y_Model_is σ 29)) k0_86 (y_Model_at σ v1) ((y_Model_at σ v2) &&& 255)).2) 13 v1 0 ((y_Model_shift (t_carry σ (y_Model_is σ 29)) k0_86 (y_Model_at σ v1) ((y_Model_at σ v2) &&& 255)).1) true hv1) ⟨hx, hb, hml, hown, hts⟩ (cwV 5 hts (gi_V kw_767 kw_768 kw_769 kw_5 kw_770) rfl rfl rfl ⟨rfl, mdX11_finish⟩ ⟨by decide, by decide⟩) (va_recv hK hP (ci := 9) (q0 := 0) rfl rfl) mZ_ok hK hP hD hS hA hZ rfl hl.1 rfl (Nat.le_of_ble_eq_true rfl) dX11_operations_98 ⟨Nat.zero_le _, Nat.zero_le _⟩ (fun H locs hP hD hS => ?_)
    refine lv_goto (tgt := 134) hx hb dX11_operations_101 (by decide) ?_
    exact hret (y_Model_finish ((y_Model_shift (t_carry σ (y_Model_is σ 29)) k0_86 (y_Model_at σ v1) ((y_Model_at σ v2) &&& 255)).2) 13 v1 0 ((y_Model_shift (t_carry σ (y_Model_is σ 29)) k0_86 (y_Model_at σ v1) ((y_Model_at σ v2) &&& 255)).1) true) _ _ _ _ hf hP hD hS dX11_operations_134
  have J67 : ∀ (H : Heap) (locs : List Loc) (ls : Array Slot), va_P (gD G) vwCl (mW G (t_carry σ (y_Model_is σ 29))) H → va_D A (mW G (t_carry σ (y_Model_is σ 29))) → va_S A s.heap H locs → lv_has ls 6 [(0, .ref (gA G 20)), (1, .int v0), (2, .int v1), (4, .int (y_Model_at σ v1)), (5, .int (y_Model_at σ v2))] → y_Model_operations σ v0 v1 v2 = y_Model_operations_67 σ v0 v1 v2 → W p l e (kr 4) s m args below meth c H locs 0 0 Q (F0 m 67 ls []) := by
    intro H locs ls hP hD hS hl hf
    refine lv_aload_n hx hb dX11_operations_67 rfl (lv_at hl 0 rfl) ?_
    refine lv_bipush (v := 13) hx hb dX11_operations_68 (by decide) ?_
    refine lv_iload_n hx hb dX11_operations_70 rfl (lv_at hl 2 rfl) ?_
    refine lv_iconst (v := 0) hx hb dX11_operations_71 (by decide) ?_
    refine lv_aload_n hx hb dX11_operations_72 rfl (lv_at hl 0 rfl) ?_
    refine lv_iload_n hx hb dX11_operations_73 rfl (lv_at hl 1 rfl) ?_
    refine lv_bipush (v := 7) hx hb dX11_operations_74 (by decide) ?_
    refine lv_icmp_ne (tgt := 83) hx hb dX11_operations_76 (by decide) (fun h_6 => ?_) (fun h_6 => ?_)
    · have hf := hf.trans (if_neg h_6)
      refine lv_iload_n hx hb dX11_operations_83 rfl (lv_at hl 1 rfl) ?_
      refine lv_iconst (v := 2) hx hb dX11_operations_84 (by decide) ?_
      refine lv_isub hx hb dX11_operations_85 ?_
      exact J86 (v0 - 2) _ _ _ hP hD hS (lv_sub hl [3, 4] rfl) hf
    · have hf := hf.trans (if_pos h_6)
      refine lv_iconst (v := 3) hx hb dX11_operations_79 (by decide) ?_
      refine lv_goto (tgt := 86) hx hb dX11_operations_80 (by decide) ?_
      exact J86 3 _ _ _ hP hD hS (lv_sub hl [3, 4] rfl) hf
  refine lv_aload_n hx hb dX11_operations_0 rfl (lv_at hl 0 rfl) ?_
  refine lv_iload_n hx hb dX11_operations_1 rfl (lv_at hl 2 rfl) ?_
  refine kc_Vr (rest := []) (cy_Model_at l G σ v1 hv1) ⟨hx, hb, hml, hown, hts⟩ (cwV 1 hts (gi_V kw_753 kw_754 kw_755 kw_5 kw_756) rfl rfl rfl ⟨rfl, mdX11_at⟩ ⟨by decide, by decide⟩) (va_recv hK hP (ci := 9) (q0 := 0) rfl rfl) mZ_ok hK hP hD hS hA hZ rfl hl.1 rfl (Nat.le_of_ble_eq_true rfl) dX11_operations_2 ⟨Nat.zero_le _, Nat.zero_le _⟩ (fun H locs hP hD hS => ?_)
  refine lv_istore (lv' := [(4, .int (y_Model_at σ v1)), (0, .ref (gA G 20)), (1, .int v0), (2, .int v1), (3, .int v2)]) hx hb dX11_operations_5 hl (by decide) rfl (fun ls hl => ?_)
  refine lv_aload_n hx hb dX11_operations_7 rfl (lv_at hl 1 rfl) ?_
  refine lv_iload_n hx hb dX11_operations_8 rfl (lv_at hl 4 rfl) ?_
  refine kc_Vr (rest := []) (cy_Model_at l G σ v2 hv2) ⟨hx, hb, hml, hown, hts⟩ (cwV 1 hts (gi_V kw_753 kw_754 kw_755 kw_5 kw_756) rfl rfl rfl ⟨rfl, mdX11_at⟩ ⟨by decide, by decide⟩) (va_recv hK hP (ci := 9) (q0 := 0) rfl rfl) mZ_ok hK hP hD hS hA hZ rfl hl.1 rfl (Nat.le_of_ble_eq_true rfl) dX11_operations_9 ⟨Nat.zero_le _, Nat.zero_le _⟩ (fun H locs hP hD hS => ?_)
  refine lv_istore (lv' := [(5, .int (y_Model_at σ v2)), (4, .int (y_Model_at σ v1)), (0, .ref (gA G 20)), (1, .int v0), (2, .int v1), (3, .int v2)]) hx hb dX11_operations_12 hl (by decide) rfl (fun ls hl => ?_)
  refine lv_aload_n hx hb dX11_operations_14 rfl (lv_at hl 2 rfl) ?_
  refine lv_aload_n hx hb dX11_operations_15 rfl (lv_at hl 2 rfl) ?_
  refine lv_bipush (v := 29) hx hb dX11_operations_16 (by decide) ?_
  refine kc_Vr (rest := [.ref (gA G 20)]) (cy_Model_is l G σ 29) ⟨hx, hb, hml, hown, hts⟩ (cwV 1 hts (gi_V kw_729 kw_730 kw_731 kw_5 kw_732) rfl rfl rfl ⟨rfl, mdX11_is⟩ ⟨by decide, by decide⟩) (va_recv hK hP (ci := 9) (q0 := 0) rfl rfl) mZ_ok hK hP hD hS hA hZ rfl hl.1 rfl (Nat.le_of_ble_eq_true rfl) dX11_operations_18 ⟨Nat.zero_le _, Nat.zero_le _⟩ (fun H locs hP hD hS => ?_)
  refine va_put (D := gD G) (ci := 9) (v := .int (b01 (y_Model_is σ 29))) (ty := .boolean) hx hb hts ku_11 tyX11 tyX11_ok nmX11 hown hK hP hD hS 0 rfl rfl 12 (by decide) (hts _ kw_762) (fun _ h9 => h9) rfl (tyX11_ok 12 (by decide)) (b01_nar _) (b01_fit _) (Nat.le_of_ble_eq_true rfl) dX11_operations_21 (fun H locs hP hD hS => ?_)
  have hP := kP_eq (mWs_carry G σ (y_Model_is σ 29)) hP
  have hD := kD_eq (mWs_carry G σ (y_Model_is σ 29)) hD
  refine lv_iload_n hx hb dX11_operations_24 rfl (lv_at hl 3 rfl) ?_
  refine lv_bipush (v := 13) hx hb dX11_operations_25 (by decide) ?_
  refine lv_icmp_ne (tgt := 52) hx hb dX11_operations_27 (by decide) (fun h_7 => ?_) (fun h_7 => ?_)
  · have hf := hf.trans (if_neg h_7)
    refine lv_iload_n hx hb dX11_operations_52 rfl (lv_at hl 3 rfl) ?_
    refine lv_iconst (v := 2) hx hb dX11_operations_53 (by decide) ?_
    refine lv_iconst (v := 4) hx hb dX11_operations_54 (by decide) ?_
    refine kp_Si (rest := []) (cy_Model_within l v0 2 4) ⟨hx, hb, hml, hown, hts⟩ (va_cwS 3 hts (gi_S kw_155 kw_156 kw_5 kw_157) rfl rfl rfl mdX11_within ⟨by decide, by decide⟩) rfl hl.1 rfl (Nat.le_of_ble_eq_true rfl) dX11_operations_55 ⟨Nat.zero_le _, Nat.zero_le _⟩ ?_
    refine kz_ne (tgt := 67) hx hb dX11_operations_58 (by decide) (fun h_8 => ?_) (fun h_8 => ?_)
    · have hf := hf.trans (if_pos h_8)
      exact J67 _ _ _ hP hD hS (lv_sub hl [2, 3, 4, 1, 0] rfl) hf
    · have hf := hf.trans (if_neg h_8)
      refine lv_iload_n hx hb dX11_operations_61 rfl (lv_at hl 3 rfl) ?_
      refine lv_bipush (v := 7) hx hb dX11_operations_62 (by decide) ?_
      refine lv_icmp_ne (tgt := 104) hx hb dX11_operations_64 (by decide) (fun h_9 => ?_) (fun h_9 => ?_)
      · have hf := hf.trans (if_neg h_9)
        refine lv_iload_n hx hb dX11_operations_104 rfl (lv_at hl 3 rfl) ?_
        refine lv_bipush (v := 9) hx hb dX11_operations_105 (by decide) ?_
        refine lv_icmp_ne (tgt := 123) hx hb dX11_operations_107 (by decide) (fun h_10 => ?_) (fun h_10 => ?_)
        · have hf := hf.trans (if_neg h_10)
          refine lv_aload_n hx hb dX11_operations_123 rfl (lv_at hl 2 rfl) ?_
          refine lv_iload_n hx hb dX11_operations_124 rfl (lv_at hl 3 rfl) ?_
          refine lv_iload_n hx hb dX11_operations_125 rfl (lv_at hl 4 rfl) ?_
          refine lv_iload hx hb dX11_operations_126 (lv_at hl 1 rfl) ?_
          refine lv_iload hx hb dX11_operations_128 (lv_at hl 0 rfl) ?_
          refine lv_iconst (v := 1) hx hb dX11_operations_130 (by decide) ?_
          refine kc_Vv (rest := []) (cy_Model_finish l G (t_carry σ (y_Model_is σ 29)) v0 v1 (y_Model_at σ v1) (y_Model_at σ v2) true hv1) ⟨hx, hb, hml, hown, hts⟩ (cwV 5 hts (gi_V kw_767 kw_768 kw_769 kw_5 kw_770) rfl rfl rfl ⟨rfl, mdX11_finish⟩ ⟨by decide, by decide⟩) (va_recv hK hP (ci := 9) (q0 := 0) rfl rfl) mZ_ok hK hP hD hS hA hZ rfl hl.1 rfl (Nat.le_of_ble_eq_true rfl) dX11_operations_131 ⟨Nat.zero_le _, Nat.zero_le _⟩ (fun H locs hP hD hS => ?_)
          exact hret (y_Model_finish (t_carry σ (y_Model_is σ 29)) v0 v1 (y_Model_at σ v1) (y_Model_at σ v2) true) _ _ _ _ hf hP hD hS dX11_operations_134
        · have hf := hf.trans (if_pos h_10)
          refine lv_aload_n hx hb dX11_operations_110 rfl (lv_at hl 2 rfl) ?_
          refine lv_iconst (v := 3) hx hb dX11_operations_111 (by decide) ?_
          refine lv_iload_n hx hb dX11_operations_112 rfl (lv_at hl 4 rfl) ?_
          refine lv_iload hx hb dX11_operations_113 (lv_at hl 0 rfl) ?_
          refine lv_iconst (v := 0) hx hb dX11_operations_115 (by decide) ?_
          refine lv_iconst (v := 1) hx hb dX11_operations_116 (by decide) ?_
          refine kc_Vv (rest := []) (cy_Model_finish l G (t_carry σ (y_Model_is σ 29)) 3 v1 (y_Model_at σ v2) 0 true hv1) ⟨hx, hb, hml, hown, hts⟩ (cwV 5 hts (gi_V kw_767 kw_768 kw_769 kw_5 kw_770) rfl rfl rfl ⟨rfl, mdX11_finish⟩ ⟨by decide, by decide⟩) (va_recv hK hP (ci := 9) (q0 := 0) rfl rfl) mZ_ok hK hP hD hS hA hZ rfl hl.1 rfl (Nat.le_of_ble_eq_true rfl) dX11_operations_117 ⟨Nat.zero_le _, Nat.zero_le _⟩ (fun H locs hP hD hS => ?_)
          refine lv_goto (tgt := 134) hx hb dX11_operations_120 (by decide) ?_
          exact hret (y_Model_finish (t_carry σ (y_Model_is σ 29)) 3 v1 (y_Model_at σ v2) 0 true) _ _ _ _ hf hP hD hS dX11_operations_134
      · have hf := hf.trans (if_pos h_9)
        exact J67 _ _ _ hP hD hS (lv_sub hl [2, 3, 4, 1, 0] rfl) hf
  · have hf := hf.trans (if_pos h_7)
    refine lv_aload_n hx hb dX11_operations_30 rfl (lv_at hl 2 rfl) ?_
    refine lv_iload_n hx hb dX11_operations_31 rfl (lv_at hl 4 rfl) ?_
    refine lv_iload hx hb dX11_operations_32 (lv_at hl 1 rfl) ?_
    refine lv_iload hx hb dX11_operations_34 (lv_at hl 0 rfl) ?_
    refine lv_imul hx hb dX11_operations_36 ?_
    refine kc_Vv (rest := []) (cy_Model_put l G (t_carry σ (y_Model_is σ 29)) v1 ((y_Model_at σ v1) * (y_Model_at σ v2)) hv1) ⟨hx, hb, hml, hown, hts⟩ (cwV 2 hts (gi_V kw_806 kw_807 kw_808 kw_5 kw_809) rfl rfl rfl ⟨rfl, mdX11_put⟩ ⟨by decide, by decide⟩) (va_recv hK hP (ci := 9) (q0 := 0) rfl rfl) mZ_ok hK hP hD hS hA hZ rfl hl.1 rfl (Nat.le_of_ble_eq_true rfl) dX11_operations_37 ⟨Nat.zero_le _, Nat.zero_le _⟩ (fun H locs hP hD hS => ?_)
    refine lv_aload_n hx hb dX11_operations_40 rfl (lv_at hl 2 rfl) ?_
    refine lv_iload hx hb dX11_operations_41 (lv_at hl 1 rfl) ?_
    refine lv_iload hx hb dX11_operations_43 (lv_at hl 0 rfl) ?_
    refine lv_imul hx hb dX11_operations_45 ?_
    refine kc_Vv (rest := []) (cy_Model_setFlags l G (y_Model_put (t_carry σ (y_Model_is σ 29)) v1 ((y_Model_at σ v1) * (y_Model_at σ v2))) ((y_Model_at σ v1) * (y_Model_at σ v2))) ⟨hx, hb, hml, hown, hts⟩ (cwV 1 hts (gi_V kw_785 kw_786 kw_787 kw_5 kw_788) rfl rfl rfl ⟨rfl, mdX11_setFlags⟩ ⟨by decide, by decide⟩) (va_recv hK hP (ci := 9) (q0 := 0) rfl rfl) mZ_ok hK hP hD hS hA hZ rfl hl.1 rfl (Nat.le_of_ble_eq_true rfl) dX11_operations_46 ⟨Nat.zero_le _, Nat.zero_le _⟩ (fun H locs hP hD hS => ?_)
    refine lv_goto (tgt := 134) hx hb dX11_operations_49 (by decide) ?_
    exact hret (y_Model_setFlags (y_Model_put (t_carry σ (y_Model_is σ 29)) v1 ((y_Model_at σ v1) * (y_Model_at σ v2))) ((y_Model_at σ v1) * (y_Model_at σ v2))) _ _ _ _ hf hP hD hS dX11_operations_134
