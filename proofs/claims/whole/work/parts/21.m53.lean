def y_Model_stack_146 (σ : MS) (v0 : Int32) (k0_146 : Int32) : MS := y_Model_many σ true 13 k0_146 true false true false
def y_Model_stack_111 (σ : MS) (v0 : Int32) (k0_111 : Int32) : MS := y_Model_many σ false 13 k0_111 false true true false
def y_Model_stack (σ : MS) (v0 : Int32) : MS := (if (v0 >>> ((8 : Int32) &&& 31)) = 176 then (if ((v0 >>> ((7 : Int32) &&& 31)) &&& 1) = 1 then y_Model_put σ 13 ((y_Model_at σ 13) - (4 * (v0 &&& 127))) else y_Model_put σ 13 ((y_Model_at σ 13) + (4 * (v0 &&& 127)))) else (if (v0 >>> ((9 : Int32) &&& 31)) = 90 then (if (decide (((v0 >>> ((8 : Int32) &&& 31)) &&& 1) = 1)) = true then y_Model_stack_111 σ v0 ((v0 &&& 255) ||| 16384) else y_Model_stack_111 σ v0 (v0 &&& 255)) else (if (v0 >>> ((9 : Int32) &&& 31)) = 94 then (if (decide (((v0 >>> ((8 : Int32) &&& 31)) &&& 1) = 1)) = true then y_Model_stack_146 σ v0 ((v0 &&& 255) ||| 32768) else y_Model_stack_146 σ v0 (v0 &&& 255)) else y_Model_undefined σ)))
set_option maxRecDepth 20000 in
set_option maxHeartbeats 4000000 in
theorem cy_Model_stack (l : Launch) (G : KG) (σ : MS) (v0 : Int32) : KV l yX11_stack (Cond.code yX11_stack cX11_stack 5 none :: lw_all) (kr 6) (gD G) vwCl (gT G) (mZ G) (mW G) [.ref (gA G 20), .int v0] σ (y_Model_stack σ v0) := by
  refine kc_in_v (q := y_Model_stack σ v0) (by decide) rfl (Nat.le_of_ble_eq_true rfl) ?_
  intro p e s m args below meth c A Q ls hx hb hml hown hts hK hP hD hA hS hZ hl hret
  have hts := fun w h => hts w (List.mem_cons_of_mem _ h)
  have hl : lv_has ls 5 [(0, .ref (gA G 20)), (1, .int v0)] := hl
  have hf : y_Model_stack σ v0 = y_Model_stack σ v0 := rfl
  have J146 : ∀ (k0_146 : Int32) (H : Heap) (locs : List Loc) (ls : Array Slot), va_P (gD G) vwCl (mW G (σ)) H → va_D A (mW G (σ)) → va_S A s.heap H locs → lv_has ls 5 [] → y_Model_stack σ v0 = y_Model_stack_146 σ v0 k0_146 → W p l e (kr 6) s m args below meth c H locs 0 0 Q (F0 m 146 ls [.int k0_146, .int 13, .int 1, .ref (gA G 20)]) := by
    intro k0_146 H locs ls hP hD hS hl hf
    refine lv_iconst (v := 1) hx hb dX11_stack_146 (by decide) ?_
    refine lv_iconst (v := 0) hx hb dX11_stack_147 (by decide) ?_
    refine lv_iconst (v := 1) hx hb dX11_stack_148 (by decide) ?_
    refine lv_iconst (v := 0) hx hb dX11_stack_149 (by decide) ?_
    refine kc_Vv (rest := []) (cy_Model_many l G σ true 13 k0_146 true false true false (by unfold vp_in; decide)) ⟨hx, hb, hml, hown, hts⟩ (cwV 7 hts (gi_V kw_867 kw_868 kw_869 kw_5 kw_870) rfl rfl rfl ⟨rfl, mdX11_many⟩ ⟨by decide, by decide⟩) (va_recv hK hP (ci := 9) (q0 := 0) rfl rfl) mZ_ok hK hP hD hS hA hZ rfl hl.1 rfl (Nat.le_of_ble_eq_true rfl) dX11_stack_150 ⟨Nat.zero_le _, Nat.zero_le _⟩ (fun H locs hP hD hS => ?_)
    refine lv_goto (tgt := 160) hx hb dX11_stack_153 (by decide) ?_
    exact hret (y_Model_many σ true 13 k0_146 true false true false) _ _ _ _ hf hP hD hS dX11_stack_160
  have J111 : ∀ (k0_111 : Int32) (H : Heap) (locs : List Loc) (ls : Array Slot), va_P (gD G) vwCl (mW G (σ)) H → va_D A (mW G (σ)) → va_S A s.heap H locs → lv_has ls 5 [] → y_Model_stack σ v0 = y_Model_stack_111 σ v0 k0_111 → W p l e (kr 6) s m args below meth c H locs 0 0 Q (F0 m 111 ls [.int k0_111, .int 13, .int 0, .ref (gA G 20)]) := by
    intro k0_111 H locs ls hP hD hS hl hf
    refine lv_iconst (v := 0) hx hb dX11_stack_111 (by decide) ?_
    refine lv_iconst (v := 1) hx hb dX11_stack_112 (by decide) ?_
    refine lv_iconst (v := 1) hx hb dX11_stack_113 (by decide) ?_
    refine lv_iconst (v := 0) hx hb dX11_stack_114 (by decide) ?_
    refine kc_Vv (rest := []) (cy_Model_many l G σ false 13 k0_111 false true true false (by unfold vp_in; decide)) ⟨hx, hb, hml, hown, hts⟩ (cwV 7 hts (gi_V kw_867 kw_868 kw_869 kw_5 kw_870) rfl rfl rfl ⟨rfl, mdX11_many⟩ ⟨by decide, by decide⟩) (va_recv hK hP (ci := 9) (q0 := 0) rfl rfl) mZ_ok hK hP hD hS hA hZ rfl hl.1 rfl (Nat.le_of_ble_eq_true rfl) dX11_stack_115 ⟨Nat.zero_le _, Nat.zero_le _⟩ (fun H locs hP hD hS => ?_)
    refine lv_goto (tgt := 160) hx hb dX11_stack_118 (by decide) ?_
    exact hret (y_Model_many σ false 13 k0_111 false true true false) _ _ _ _ hf hP hD hS dX11_stack_160
  refine lv_iload_n hx hb dX11_stack_0 rfl (lv_at hl 1 rfl) ?_
  refine lv_bipush (v := 9) hx hb dX11_stack_1 (by decide) ?_
  refine lv_ishr hx hb dX11_stack_3 ?_
  refine lv_istore_n (lv' := [(2, .int (v0 >>> ((9 : Int32) &&& 31))), (0, .ref (gA G 20)), (1, .int v0)]) hx hb dX11_stack_4 rfl hl (by decide) rfl (fun ls hl => ?_)
  refine lv_iload_n hx hb dX11_stack_5 rfl (lv_at hl 2 rfl) ?_
  refine lv_bipush (v := 8) hx hb dX11_stack_6 (by decide) ?_
  refine lv_ishr hx hb dX11_stack_8 ?_
  refine lv_iconst (v := 1) hx hb dX11_stack_9 (by decide) ?_
  refine lv_iand hx hb dX11_stack_10 ?_
  refine lv_iconst (v := 1) hx hb dX11_stack_11 (by decide) ?_
  refine kz_dN0 (P := ((v0 >>> ((8 : Int32) &&& 31)) &&& 1) = 1) (tgt := 19) (M := 20) (fun a b => lv_icmp_ne (tgt := 19) hx hb dX11_stack_12 (by decide) a b) hx hb dX11_stack_15 dX11_stack_16 (by decide) dX11_stack_19 rfl ?_
  refine lv_istore_n (lv' := [(3, .int (b01 (decide (((v0 >>> ((8 : Int32) &&& 31)) &&& 1) = 1)))), (2, .int (v0 >>> ((9 : Int32) &&& 31))), (0, .ref (gA G 20)), (1, .int v0)]) hx hb dX11_stack_20 rfl hl (by decide) rfl (fun ls hl => ?_)
  refine lv_iload_n hx hb dX11_stack_21 rfl (lv_at hl 3 rfl) ?_
  refine lv_sipush (v := 255) hx hb dX11_stack_22 (by decide) ?_
  refine lv_iand hx hb dX11_stack_25 ?_
  refine lv_istore (lv' := [(4, .int (v0 &&& 255)), (3, .int (b01 (decide (((v0 >>> ((8 : Int32) &&& 31)) &&& 1) = 1)))), (2, .int (v0 >>> ((9 : Int32) &&& 31))), (0, .ref (gA G 20)), (1, .int v0)]) hx hb dX11_stack_26 hl (by decide) rfl (fun ls hl => ?_)
  refine lv_iload_n hx hb dX11_stack_28 rfl (lv_at hl 4 rfl) ?_
  refine lv_bipush (v := 8) hx hb dX11_stack_29 (by decide) ?_
  refine lv_ishr hx hb dX11_stack_31 ?_
  refine lv_sipush (v := 176) hx hb dX11_stack_32 (by decide) ?_
  refine lv_icmp_ne (tgt := 86) hx hb dX11_stack_35 (by decide) (fun h_9 => ?_) (fun h_9 => ?_)
  · have hf := hf.trans (if_neg h_9)
    refine lv_iload_n hx hb dX11_stack_86 rfl (lv_at hl 2 rfl) ?_
    refine lv_bipush (v := 90) hx hb dX11_stack_87 (by decide) ?_
    refine lv_icmp_ne (tgt := 121) hx hb dX11_stack_89 (by decide) (fun h_10 => ?_) (fun h_10 => ?_)
    · have hf := hf.trans (if_neg h_10)
      refine lv_iload_n hx hb dX11_stack_121 rfl (lv_at hl 2 rfl) ?_
      refine lv_bipush (v := 94) hx hb dX11_stack_122 (by decide) ?_
      refine lv_icmp_ne (tgt := 156) hx hb dX11_stack_124 (by decide) (fun h_11 => ?_) (fun h_11 => ?_)
      · have hf := hf.trans (if_neg h_11)
        refine lv_aload_n hx hb dX11_stack_156 rfl (lv_at hl 3 rfl) ?_
        refine kc_Vv (rest := []) (cy_Model_undefined l G σ) ⟨hx, hb, hml, hown, hts⟩ (cwV 0 hts (gi_V kw_822 kw_823 kw_824 kw_5 kw_825) rfl rfl rfl ⟨rfl, mdX11_undefined⟩ ⟨by decide, by decide⟩) (va_recv hK hP (ci := 9) (q0 := 0) rfl rfl) mZ_ok hK hP hD hS hA hZ rfl hl.1 rfl (Nat.le_of_ble_eq_true rfl) dX11_stack_157 ⟨Nat.zero_le _, Nat.zero_le _⟩ (fun H locs hP hD hS => ?_)
        exact hret (y_Model_undefined σ) _ _ _ _ hf hP hD hS dX11_stack_160
      · have hf := hf.trans (if_pos h_11)
        refine lv_aload_n hx hb dX11_stack_127 rfl (lv_at hl 3 rfl) ?_
        refine lv_iconst (v := 1) hx hb dX11_stack_128 (by decide) ?_
        refine lv_bipush (v := 13) hx hb dX11_stack_129 (by decide) ?_
        refine lv_iload_n hx hb dX11_stack_131 rfl (lv_at hl 1 rfl) ?_
        refine kz_eq (tgt := 144) hx hb dX11_stack_132 (by decide) (fun h_12 => ?_) (fun h_12 => ?_)
        · have hf := hf.trans (if_neg h_12)
          refine lv_iload hx hb dX11_stack_144 (lv_at hl 0 rfl) ?_
          exact J146 (v0 &&& 255) _ _ _ hP hD hS (lv_sub hl [] rfl) hf
        · have hf := hf.trans (if_pos h_12)
          refine lv_iload hx hb dX11_stack_135 (lv_at hl 0 rfl) ?_
          refine lv_ldcw (v := 32768) hx hb hown (hts _ kw_866) dX11_stack_137 ?_
          refine lv_ior hx hb dX11_stack_140 ?_
          refine lv_goto (tgt := 146) hx hb dX11_stack_141 (by decide) ?_
          exact J146 ((v0 &&& 255) ||| 32768) _ _ _ hP hD hS (lv_sub hl [] rfl) hf
    · have hf := hf.trans (if_pos h_10)
      refine lv_aload_n hx hb dX11_stack_92 rfl (lv_at hl 3 rfl) ?_
      refine lv_iconst (v := 0) hx hb dX11_stack_93 (by decide) ?_
      refine lv_bipush (v := 13) hx hb dX11_stack_94 (by decide) ?_
      refine lv_iload_n hx hb dX11_stack_96 rfl (lv_at hl 1 rfl) ?_
      refine kz_eq (tgt := 109) hx hb dX11_stack_97 (by decide) (fun h_13 => ?_) (fun h_13 => ?_)
      · have hf := hf.trans (if_neg h_13)
        refine lv_iload hx hb dX11_stack_109 (lv_at hl 0 rfl) ?_
        exact J111 (v0 &&& 255) _ _ _ hP hD hS (lv_sub hl [] rfl) hf
      · have hf := hf.trans (if_pos h_13)
        refine lv_iload hx hb dX11_stack_100 (lv_at hl 0 rfl) ?_
        refine lv_sipush (v := 16384) hx hb dX11_stack_102 (by decide) ?_
        refine lv_ior hx hb dX11_stack_105 ?_
        refine lv_goto (tgt := 111) hx hb dX11_stack_106 (by decide) ?_
        exact J111 ((v0 &&& 255) ||| 16384) _ _ _ hP hD hS (lv_sub hl [] rfl) hf
  · have hf := hf.trans (if_pos h_9)
    refine lv_aload_n hx hb dX11_stack_38 rfl (lv_at hl 3 rfl) ?_
    refine lv_bipush (v := 13) hx hb dX11_stack_39 (by decide) ?_
    refine lv_iload_n hx hb dX11_stack_41 rfl (lv_at hl 4 rfl) ?_
    refine lv_bipush (v := 7) hx hb dX11_stack_42 (by decide) ?_
    refine lv_ishr hx hb dX11_stack_44 ?_
    refine lv_iconst (v := 1) hx hb dX11_stack_45 (by decide) ?_
    refine lv_iand hx hb dX11_stack_46 ?_
    refine lv_iconst (v := 1) hx hb dX11_stack_47 (by decide) ?_
    refine lv_icmp_ne (tgt := 67) hx hb dX11_stack_48 (by decide) (fun h_14 => ?_) (fun h_14 => ?_)
    · have hf := hf.trans (if_neg h_14)
      refine lv_aload_n hx hb dX11_stack_67 rfl (lv_at hl 3 rfl) ?_
      refine lv_bipush (v := 13) hx hb dX11_stack_68 (by decide) ?_
      refine kc_Vr (rest := [.int 13, .ref (gA G 20)]) (cy_Model_at l G σ 13 (by unfold vp_in; decide)) ⟨hx, hb, hml, hown, hts⟩ (cwV 1 hts (gi_V kw_753 kw_754 kw_755 kw_5 kw_756) rfl rfl rfl ⟨rfl, mdX11_at⟩ ⟨by decide, by decide⟩) (va_recv hK hP (ci := 9) (q0 := 0) rfl rfl) mZ_ok hK hP hD hS hA hZ rfl hl.1 rfl (Nat.le_of_ble_eq_true rfl) dX11_stack_70 ⟨Nat.zero_le _, Nat.zero_le _⟩ (fun H locs hP hD hS => ?_)
      refine lv_iconst (v := 4) hx hb dX11_stack_73 (by decide) ?_
      refine lv_iload_n hx hb dX11_stack_74 rfl (lv_at hl 4 rfl) ?_
      refine lv_bipush (v := 127) hx hb dX11_stack_75 (by decide) ?_
      refine lv_iand hx hb dX11_stack_77 ?_
      refine lv_imul hx hb dX11_stack_78 ?_
      refine lv_iadd hx hb dX11_stack_79 ?_
      refine kc_Vv (rest := []) (cy_Model_put l G σ 13 ((y_Model_at σ 13) + (4 * (v0 &&& 127))) (by unfold vp_in; decide)) ⟨hx, hb, hml, hown, hts⟩ (cwV 2 hts (gi_V kw_806 kw_807 kw_808 kw_5 kw_809) rfl rfl rfl ⟨rfl, mdX11_put⟩ ⟨by decide, by decide⟩) (va_recv hK hP (ci := 9) (q0 := 0) rfl rfl) mZ_ok hK hP hD hS hA hZ rfl hl.1 rfl (Nat.le_of_ble_eq_true rfl) dX11_stack_80 ⟨Nat.zero_le _, Nat.zero_le _⟩ (fun H locs hP hD hS => ?_)
      refine lv_goto (tgt := 160) hx hb dX11_stack_83 (by decide) ?_
      exact hret (y_Model_put σ 13 ((y_Model_at σ 13) + (4 * (v0 &&& 127)))) _ _ _ _ hf hP hD hS dX11_stack_160
    · have hf := hf.trans (if_pos h_14)
      refine lv_aload_n hx hb dX11_stack_51 rfl (lv_at hl 3 rfl) ?_
      refine lv_bipush (v := 13) hx hb dX11_stack_52 (by decide) ?_
      refine kc_Vr (rest := [.int 13, .ref (gA G 20)]) (cy_Model_at l G σ 13 (by unfold vp_in; decide)) ⟨hx, hb, hml, hown, hts⟩ (cwV 1 hts (gi_V kw_753 kw_754 kw_755 kw_5 kw_756) rfl rfl rfl ⟨rfl, mdX11_at⟩ ⟨by decide, by decide⟩) (va_recv hK hP (ci := 9) (q0 := 0) rfl rfl) mZ_ok hK hP hD hS hA hZ rfl hl.1 rfl (Nat.le_of_ble_eq_true rfl) dX11_stack_54 ⟨Nat.zero_le _, Nat.zero_le _⟩ (fun H locs hP hD hS => ?_)
      refine lv_iconst (v := 4) hx hb dX11_stack_57 (by decide) ?_
      refine lv_iload_n hx hb dX11_stack_58 rfl (lv_at hl 4 rfl) ?_
      refine lv_bipush (v := 127) hx hb dX11_stack_59 (by decide) ?_
      refine lv_iand hx hb dX11_stack_61 ?_
      refine lv_imul hx hb dX11_stack_62 ?_
      refine lv_isub hx hb dX11_stack_63 ?_
      refine lv_goto (tgt := 80) hx hb dX11_stack_64 (by decide) ?_
      refine kc_Vv (rest := []) (cy_Model_put l G σ 13 ((y_Model_at σ 13) - (4 * (v0 &&& 127))) (by unfold vp_in; decide)) ⟨hx, hb, hml, hown, hts⟩ (cwV 2 hts (gi_V kw_806 kw_807 kw_808 kw_5 kw_809) rfl rfl rfl ⟨rfl, mdX11_put⟩ ⟨by decide, by decide⟩) (va_recv hK hP (ci := 9) (q0 := 0) rfl rfl) mZ_ok hK hP hD hS hA hZ rfl hl.1 rfl (Nat.le_of_ble_eq_true rfl) dX11_stack_80 ⟨Nat.zero_le _, Nat.zero_le _⟩ (fun H locs hP hD hS => ?_)
      refine lv_goto (tgt := 160) hx hb dX11_stack_83 (by decide) ?_
      exact hret (y_Model_put σ 13 ((y_Model_at σ 13) - (4 * (v0 &&& 127)))) _ _ _ _ hf hP hD hS dX11_stack_160
