def y_Model_toStatus_141 (σ : MS) (v0 : Int32) (k0_26 : Int32) (τ_26 : MS) (k0_141 : Int32) : MS := y_Model_putStatus τ_26 (((m_cpsr τ_26) &&& (k0_141 ^^^ (-1))) ||| (k0_26 &&& k0_141))
def y_Model_toStatus_76 (σ : MS) (v0 : Int32) (k0_26 : Int32) (k0_59 : Int32) (τ_26 : MS) (k0_76 : Int32) : MS := (if (decide (((v0 >>> ((22 : Int32) &&& 31)) &&& 1) = 1)) = true then (if (y_Model_hasSaved τ_26) = true then t_spsr τ_26 (upd (m_spsr τ_26) (y_Model_bank (y_Model_mode τ_26)).toNatClampNeg (((y_Model_kept τ_26) &&& ((k0_59 ||| k0_76) ^^^ (-1))) ||| (k0_26 &&& (k0_59 ||| k0_76)))) else τ_26) else (if (y_Model_mode τ_26) = 16 then y_Model_toStatus_141 σ v0 k0_26 τ_26 ((k0_59 ||| k0_76) &&& (-268435456)) else y_Model_toStatus_141 σ v0 k0_26 τ_26 ((k0_59 ||| k0_76) &&& (-33))))
def y_Model_toStatus_59 (σ : MS) (v0 : Int32) (k0_26 : Int32) (τ_26 : MS) (k0_59 : Int32) : MS := (if ((v0 >>> ((16 : Int32) &&& 31)) &&& 1) = 1 then y_Model_toStatus_76 σ v0 k0_26 k0_59 τ_26 255 else y_Model_toStatus_76 σ v0 k0_26 k0_59 τ_26 0)
def y_Model_toStatus_26 (σ : MS) (v0 : Int32) (k0_26 : Int32) (τ_26 : MS) : MS := (if ((v0 >>> ((19 : Int32) &&& 31)) &&& 1) = 1 then y_Model_toStatus_59 σ v0 k0_26 τ_26 (-268435456) else y_Model_toStatus_59 σ v0 k0_26 τ_26 0)
def y_Model_toStatus (σ : MS) (v0 : Int32) : MS := (if ((v0 >>> ((25 : Int32) &&& 31)) &&& 1) = 1 then y_Model_toStatus_26 σ v0 ((y_Model_turnedNumber σ v0).1) ((y_Model_turnedNumber σ v0).2) else y_Model_toStatus_26 σ v0 (y_Model_value σ (v0 &&& 15)) σ)
set_option maxRecDepth 20000 in
set_option maxHeartbeats 4000000 in
theorem cy_Model_toStatus (l : Launch) (G : KG) (σ : MS) (v0 : Int32) : KV l yX11_toStatus (Cond.code yX11_toStatus cX11_toStatus 5 none :: lw_all) (kr 5) (gD G) vwCl (gT G) (mZ G) (mW G) [.ref (gA G 20), .int v0] σ (y_Model_toStatus σ v0) := by
  refine kc_in_v (q := y_Model_toStatus σ v0) (by decide) rfl (Nat.le_of_ble_eq_true rfl) ?_
  intro p e s m args below meth c A Q ls hx hb hml hown hts hK hP hD hA hS hZ hl hret
  have hts := fun w h => hts w (List.mem_cons_of_mem _ h)
  have hl : lv_has ls 5 [(0, .ref (gA G 20)), (1, .int v0)] := hl
  have hf : y_Model_toStatus σ v0 = y_Model_toStatus σ v0 := rfl
  have J141 : ∀ (k0_26 : Int32) (τ_26 : MS) (k0_141 : Int32) (H : Heap) (locs : List Loc) (ls : Array Slot), va_P (gD G) vwCl (mW G (τ_26)) H → va_D A (mW G (τ_26)) → va_S A s.heap H locs → lv_has ls 5 [(0, .ref (gA G 20)), (2, .int k0_26)] → y_Model_toStatus σ v0 = y_Model_toStatus_141 σ v0 k0_26 τ_26 k0_141 → W p l e (kr 5) s m args below meth c H locs 0 0 Q (F0 m 141 ls [.int k0_141]) := by
    intro k0_26 τ_26 k0_141 H locs ls hP hD hS hl hf
    refine lv_istore (lv' := [(4, .int k0_141), (0, .ref (gA G 20)), (2, .int k0_26)]) hx hb dX11_toStatus_141 hl (by decide) rfl (fun ls hl => ?_)
    refine lv_aload_n hx hb dX11_toStatus_143 rfl (lv_at hl 1 rfl) ?_
    refine lv_aload_n hx hb dX11_toStatus_144 rfl (lv_at hl 1 rfl) ?_
    refine va_get (D := gD G) (ci := 9) hx hb hts ku_11 hown hK hP 0 rfl rfl 4 (by decide) (hts _ kw_109) (fun _ h9 => h9) rfl dX11_toStatus_145 ?_
    refine lv_iload hx hb dX11_toStatus_148 (lv_at hl 0 rfl) ?_
    refine lv_iconst (v := (-1)) hx hb dX11_toStatus_150 (by decide) ?_
    refine lv_ixor hx hb dX11_toStatus_151 ?_
    refine lv_iand hx hb dX11_toStatus_152 ?_
    refine lv_iload_n hx hb dX11_toStatus_153 rfl (lv_at hl 2 rfl) ?_
    refine lv_iload hx hb dX11_toStatus_154 (lv_at hl 0 rfl) ?_
    refine lv_iand hx hb dX11_toStatus_156 ?_
    refine lv_ior hx hb dX11_toStatus_157 ?_
    refine kc_Vv (rest := []) (cy_Model_putStatus l G τ_26 (((m_cpsr τ_26) &&& (k0_141 ^^^ (-1))) ||| (k0_26 &&& k0_141))) ⟨hx, hb, hml, hown, hts⟩ (cwV 1 hts (gi_V kw_254 kw_255 kw_256 kw_5 kw_257) rfl rfl rfl ⟨rfl, mdX11_putStatus⟩ ⟨by decide, by decide⟩) (va_recv hK hP (ci := 9) (q0 := 0) rfl rfl) mZ_ok hK hP hD hS hA hZ rfl hl.1 rfl (Nat.le_of_ble_eq_true rfl) dX11_toStatus_158 ⟨Nat.zero_le _, Nat.zero_le _⟩ (fun H locs hP hD hS => ?_)
    exact hret (y_Model_putStatus τ_26 (((m_cpsr τ_26) &&& (k0_141 ^^^ (-1))) ||| (k0_26 &&& k0_141))) _ _ _ _ hf hP hD hS dX11_toStatus_161
  have J76 : ∀ (k0_26 : Int32) (k0_59 : Int32) (τ_26 : MS) (k0_76 : Int32) (H : Heap) (locs : List Loc) (ls : Array Slot), va_P (gD G) vwCl (mW G (τ_26)) H → va_D A (mW G (τ_26)) → va_S A s.heap H locs → lv_has ls 5 [(0, .ref (gA G 20)), (2, .int k0_26), (3, .int (b01 (decide (((v0 >>> ((22 : Int32) &&& 31)) &&& 1) = 1))))] → y_Model_toStatus σ v0 = y_Model_toStatus_76 σ v0 k0_26 k0_59 τ_26 k0_76 → W p l e (kr 5) s m args below meth c H locs 0 0 Q (F0 m 76 ls [.int k0_76, .int k0_59]) := by
    intro k0_26 k0_59 τ_26 k0_76 H locs ls hP hD hS hl hf
    refine lv_ior hx hb dX11_toStatus_76 ?_
    refine lv_istore (lv' := [(4, .int (k0_59 ||| k0_76)), (0, .ref (gA G 20)), (2, .int k0_26), (3, .int (b01 (decide (((v0 >>> ((22 : Int32) &&& 31)) &&& 1) = 1))))]) hx hb dX11_toStatus_77 hl (by decide) rfl (fun ls hl => ?_)
    refine lv_iload_n hx hb dX11_toStatus_79 rfl (lv_at hl 3 rfl) ?_
    refine kz_eq (tgt := 119) hx hb dX11_toStatus_80 (by decide) (fun h_8 => ?_) (fun h_8 => ?_)
    · have hf := hf.trans (if_neg h_8)
      refine lv_aload_n hx hb dX11_toStatus_119 rfl (lv_at hl 1 rfl) ?_
      refine kc_Vr (rest := []) (cy_Model_mode l G τ_26) ⟨hx, hb, hml, hown, hts⟩ (cwV 0 hts (gi_V kw_259 kw_260 kw_261 kw_5 kw_262) rfl rfl rfl ⟨rfl, mdX11_mode⟩ ⟨by decide, by decide⟩) (va_recv hK hP (ci := 9) (q0 := 0) rfl rfl) mZ_ok hK hP hD hS hA hZ rfl hl.1 rfl (Nat.le_of_ble_eq_true rfl) dX11_toStatus_120 ⟨Nat.zero_le _, Nat.zero_le _⟩ (fun H locs hP hD hS => ?_)
      refine lv_bipush (v := 16) hx hb dX11_toStatus_123 (by decide) ?_
      refine lv_icmp_ne (tgt := 136) hx hb dX11_toStatus_125 (by decide) (fun h_9 => ?_) (fun h_9 => ?_)
      · have hf := hf.trans (if_neg h_9)
        refine lv_iload hx hb dX11_toStatus_136 (lv_at hl 0 rfl) ?_
        refine lv_bipush (v := (-33)) hx hb dX11_toStatus_138 (by decide) ?_
        refine lv_iand hx hb dX11_toStatus_140 ?_
        exact J141 k0_26 τ_26 ((k0_59 ||| k0_76) &&& (-33)) _ _ _ hP hD hS (lv_sub hl [1, 2] rfl) hf
      · have hf := hf.trans (if_pos h_9)
        refine lv_iload hx hb dX11_toStatus_128 (lv_at hl 0 rfl) ?_
        refine lv_ldc (v := (-268435456)) hx hb hown (hts _ kw_931) dX11_toStatus_130 ?_
        refine lv_iand hx hb dX11_toStatus_132 ?_
        refine lv_goto (tgt := 141) hx hb dX11_toStatus_133 (by decide) ?_
        exact J141 k0_26 τ_26 ((k0_59 ||| k0_76) &&& (-268435456)) _ _ _ hP hD hS (lv_sub hl [1, 2] rfl) hf
    · have hf := hf.trans (if_pos h_8)
      refine lv_aload_n hx hb dX11_toStatus_83 rfl (lv_at hl 1 rfl) ?_
      refine kc_Vr (rest := []) (cy_Model_hasSaved l G τ_26) ⟨hx, hb, hml, hown, hts⟩ (cwV 0 hts (gi_V kw_882 kw_883 kw_884 kw_5 kw_885) rfl rfl rfl ⟨rfl, mdX11_hasSaved⟩ ⟨by decide, by decide⟩) (va_recv hK hP (ci := 9) (q0 := 0) rfl rfl) mZ_ok hK hP hD hS hA hZ rfl hl.1 rfl (Nat.le_of_ble_eq_true rfl) dX11_toStatus_84 ⟨Nat.zero_le _, Nat.zero_le _⟩ (fun H locs hP hD hS => ?_)
      refine kz_eq (tgt := 161) hx hb dX11_toStatus_87 (by decide) (fun h_10 => ?_) (fun h_10 => ?_)
      · have hf := hf.trans (if_neg h_10)
        exact hret τ_26 _ _ _ _ hf hP hD hS dX11_toStatus_161
      · have hf := hf.trans (if_pos h_10)
        refine lv_aload_n hx hb dX11_toStatus_90 rfl (lv_at hl 1 rfl) ?_
        refine va_get (D := gD G) (ci := 9) hx hb hts ku_11 hown hK hP 0 rfl rfl 3 (by decide) (hts _ kw_108) (fun _ h9 => h9) rfl dX11_toStatus_91 ?_
        refine lv_aload_n hx hb dX11_toStatus_94 rfl (lv_at hl 1 rfl) ?_
        refine kc_Vr (rest := [.ref (gA G 23)]) (cy_Model_mode l G τ_26) ⟨hx, hb, hml, hown, hts⟩ (cwV 0 hts (gi_V kw_259 kw_260 kw_261 kw_5 kw_262) rfl rfl rfl ⟨rfl, mdX11_mode⟩ ⟨by decide, by decide⟩) (va_recv hK hP (ci := 9) (q0 := 0) rfl rfl) mZ_ok hK hP hD hS hA hZ rfl hl.1 rfl (Nat.le_of_ble_eq_true rfl) dX11_toStatus_95 ⟨Nat.zero_le _, Nat.zero_le _⟩ (fun H locs hP hD hS => ?_)
        refine kp_Si (rest := [.ref (gA G 23)]) (cy_Model_bank l (y_Model_mode τ_26)) ⟨hx, hb, hml, hown, hts⟩ (va_cwS 1 hts (gi_S kw_203 kw_204 kw_5 kw_205) rfl rfl rfl mdX11_bank ⟨by decide, by decide⟩) rfl hl.1 rfl (Nat.le_of_ble_eq_true rfl) dX11_toStatus_98 ⟨Nat.zero_le _, Nat.zero_le _⟩ ?_
        refine lv_aload_n hx hb dX11_toStatus_101 rfl (lv_at hl 1 rfl) ?_
        refine kc_Vr (rest := [.int (y_Model_bank (y_Model_mode τ_26)), .ref (gA G 23)]) (cy_Model_kept l G τ_26) ⟨hx, hb, hml, hown, hts⟩ (cwV 0 hts (gi_V kw_886 kw_887 kw_888 kw_5 kw_889) rfl rfl rfl ⟨rfl, mdX11_kept⟩ ⟨by decide, by decide⟩) (va_recv hK hP (ci := 9) (q0 := 0) rfl rfl) mZ_ok hK hP hD hS hA hZ rfl hl.1 rfl (Nat.le_of_ble_eq_true rfl) dX11_toStatus_102 ⟨Nat.zero_le _, Nat.zero_le _⟩ (fun H locs hP hD hS => ?_)
        refine lv_iload hx hb dX11_toStatus_105 (lv_at hl 0 rfl) ?_
        refine lv_iconst (v := (-1)) hx hb dX11_toStatus_107 (by decide) ?_
        refine lv_ixor hx hb dX11_toStatus_108 ?_
        refine lv_iand hx hb dX11_toStatus_109 ?_
        refine lv_iload_n hx hb dX11_toStatus_110 rfl (lv_at hl 2 rfl) ?_
        refine lv_iload hx hb dX11_toStatus_111 (lv_at hl 0 rfl) ?_
        refine lv_iand hx hb dX11_toStatus_113 ?_
        refine lv_ior hx hb dX11_toStatus_114 ?_
        refine va_iast hx hb hK hP hD hS 3 0 rfl rfl (hs_in (by assumption)) dX11_toStatus_115 (fun H locs hP hD hS => ?_)
        have hP := kP_eq (mWs_spsr G τ_26 (upd (m_spsr τ_26) (y_Model_bank (y_Model_mode τ_26)).toNatClampNeg (((y_Model_kept τ_26) &&& ((k0_59 ||| k0_76) ^^^ (-1))) ||| (k0_26 &&& (k0_59 ||| k0_76))))) hP
        have hD := kD_eq (mWs_spsr G τ_26 (upd (m_spsr τ_26) (y_Model_bank (y_Model_mode τ_26)).toNatClampNeg (((y_Model_kept τ_26) &&& ((k0_59 ||| k0_76) ^^^ (-1))) ||| (k0_26 &&& (k0_59 ||| k0_76))))) hD
        refine lv_goto (tgt := 161) hx hb dX11_toStatus_116 (by decide) ?_
        exact hret (t_spsr τ_26 (upd (m_spsr τ_26) (y_Model_bank (y_Model_mode τ_26)).toNatClampNeg (((y_Model_kept τ_26) &&& ((k0_59 ||| k0_76) ^^^ (-1))) ||| (k0_26 &&& (k0_59 ||| k0_76))))) _ _ _ _ hf hP hD hS dX11_toStatus_161
  have J59 : ∀ (k0_26 : Int32) (τ_26 : MS) (k0_59 : Int32) (H : Heap) (locs : List Loc) (ls : Array Slot), va_P (gD G) vwCl (mW G (τ_26)) H → va_D A (mW G (τ_26)) → va_S A s.heap H locs → lv_has ls 5 [(0, .ref (gA G 20)), (1, .int v0), (2, .int k0_26), (3, .int (b01 (decide (((v0 >>> ((22 : Int32) &&& 31)) &&& 1) = 1))))] → y_Model_toStatus σ v0 = y_Model_toStatus_59 σ v0 k0_26 τ_26 k0_59 → W p l e (kr 5) s m args below meth c H locs 0 0 Q (F0 m 59 ls [.int k0_59]) := by
    intro k0_26 τ_26 k0_59 H locs ls hP hD hS hl hf
    refine lv_iload_n hx hb dX11_toStatus_59 rfl (lv_at hl 1 rfl) ?_
    refine lv_bipush (v := 16) hx hb dX11_toStatus_60 (by decide) ?_
    refine lv_ishr hx hb dX11_toStatus_62 ?_
    refine lv_iconst (v := 1) hx hb dX11_toStatus_63 (by decide) ?_
    refine lv_iand hx hb dX11_toStatus_64 ?_
    refine lv_iconst (v := 1) hx hb dX11_toStatus_65 (by decide) ?_
    refine lv_icmp_ne (tgt := 75) hx hb dX11_toStatus_66 (by decide) (fun h_11 => ?_) (fun h_11 => ?_)
    · have hf := hf.trans (if_neg h_11)
      refine lv_iconst (v := 0) hx hb dX11_toStatus_75 (by decide) ?_
      exact J76 k0_26 k0_59 τ_26 0 _ _ _ hP hD hS (lv_sub hl [0, 2, 3] rfl) hf
    · have hf := hf.trans (if_pos h_11)
      refine lv_sipush (v := 255) hx hb dX11_toStatus_69 (by decide) ?_
      refine lv_goto (tgt := 76) hx hb dX11_toStatus_72 (by decide) ?_
      exact J76 k0_26 k0_59 τ_26 255 _ _ _ hP hD hS (lv_sub hl [0, 2, 3] rfl) hf
  have J26 : ∀ (k0_26 : Int32) (τ_26 : MS) (H : Heap) (locs : List Loc) (ls : Array Slot), va_P (gD G) vwCl (mW G (τ_26)) H → va_D A (mW G (τ_26)) → va_S A s.heap H locs → lv_has ls 5 [(0, .ref (gA G 20)), (1, .int v0)] → y_Model_toStatus σ v0 = y_Model_toStatus_26 σ v0 k0_26 τ_26 → W p l e (kr 5) s m args below meth c H locs 0 0 Q (F0 m 26 ls [.int k0_26]) := by
    intro k0_26 τ_26 H locs ls hP hD hS hl hf
    refine lv_istore_n (lv' := [(2, .int k0_26), (0, .ref (gA G 20)), (1, .int v0)]) hx hb dX11_toStatus_26 rfl hl (by decide) rfl (fun ls hl => ?_)
    refine lv_iload_n hx hb dX11_toStatus_27 rfl (lv_at hl 2 rfl) ?_
    refine lv_bipush (v := 22) hx hb dX11_toStatus_28 (by decide) ?_
    refine lv_ishr hx hb dX11_toStatus_30 ?_
    refine lv_iconst (v := 1) hx hb dX11_toStatus_31 (by decide) ?_
    refine lv_iand hx hb dX11_toStatus_32 ?_
    refine lv_iconst (v := 1) hx hb dX11_toStatus_33 (by decide) ?_
    refine kz_dN0 (P := ((v0 >>> ((22 : Int32) &&& 31)) &&& 1) = 1) (tgt := 41) (M := 42) (fun a b => lv_icmp_ne (tgt := 41) hx hb dX11_toStatus_34 (by decide) a b) hx hb dX11_toStatus_37 dX11_toStatus_38 (by decide) dX11_toStatus_41 rfl ?_
    refine lv_istore_n (lv' := [(3, .int (b01 (decide (((v0 >>> ((22 : Int32) &&& 31)) &&& 1) = 1)))), (2, .int k0_26), (0, .ref (gA G 20)), (1, .int v0)]) hx hb dX11_toStatus_42 rfl hl (by decide) rfl (fun ls hl => ?_)
    refine lv_iload_n hx hb dX11_toStatus_43 rfl (lv_at hl 3 rfl) ?_
    refine lv_bipush (v := 19) hx hb dX11_toStatus_44 (by decide) ?_
    refine lv_ishr hx hb dX11_toStatus_46 ?_
    refine lv_iconst (v := 1) hx hb dX11_toStatus_47 (by decide) ?_
    refine lv_iand hx hb dX11_toStatus_48 ?_
    refine lv_iconst (v := 1) hx hb dX11_toStatus_49 (by decide) ?_
    refine lv_icmp_ne (tgt := 58) hx hb dX11_toStatus_50 (by decide) (fun h_13 => ?_) (fun h_13 => ?_)
    · have hf := hf.trans (if_neg h_13)
      refine lv_iconst (v := 0) hx hb dX11_toStatus_58 (by decide) ?_
      exact J59 k0_26 τ_26 0 _ _ _ hP hD hS (lv_sub hl [2, 3, 1, 0] rfl) hf
    · have hf := hf.trans (if_pos h_13)
      refine lv_ldc (v := (-268435456)) hx hb hown (hts _ kw_931) dX11_toStatus_53 ?_
      refine lv_goto (tgt := 59) hx hb dX11_toStatus_55 (by decide) ?_
      exact J59 k0_26 τ_26 (-268435456) _ _ _ hP hD hS (lv_sub hl [2, 3, 1, 0] rfl) hf
  refine lv_iload_n hx hb dX11_toStatus_0 rfl (lv_at hl 1 rfl) ?_
  refine lv_bipush (v := 25) hx hb dX11_toStatus_1 (by decide) ?_
  refine lv_ishr hx hb dX11_toStatus_3 ?_
  refine lv_iconst (v := 1) hx hb dX11_toStatus_4 (by decide) ?_
  refine lv_iand hx hb dX11_toStatus_5 ?_
  refine lv_iconst (v := 1) hx hb dX11_toStatus_6 (by decide) ?_
  refine lv_icmp_ne (tgt := 18) hx hb dX11_toStatus_7 (by decide) (fun h_14 => ?_) (fun h_14 => ?_)
  · have hf := hf.trans (if_neg h_14)
    refine lv_aload_n hx hb dX11_toStatus_18 rfl (lv_at hl 0 rfl) ?_
    refine lv_iload_n hx hb dX11_toStatus_19 rfl (lv_at hl 1 rfl) ?_
    refine lv_bipush (v := 15) hx hb dX11_toStatus_20 (by decide) ?_
    refine lv_iand hx hb dX11_toStatus_22 ?_
    refine kc_Vr (rest := []) (cy_Model_value l G σ (v0 &&& 15) (pk_andIn _ 4 (by decide) (by decide))) ⟨hx, hb, hml, hown, hts⟩ (cwV 1 hts (gi_V kw_826 kw_827 kw_828 kw_5 kw_829) rfl rfl rfl ⟨rfl, mdX11_value⟩ ⟨by decide, by decide⟩) (va_recv hK hP (ci := 9) (q0 := 0) rfl rfl) mZ_ok hK hP hD hS hA hZ rfl hl.1 rfl (Nat.le_of_ble_eq_true rfl) dX11_toStatus_23 ⟨Nat.zero_le _, Nat.zero_le _⟩ (fun H locs hP hD hS => ?_)
    exact J26 (y_Model_value σ (v0 &&& 15)) σ _ _ _ hP hD hS (lv_sub hl [0, 1] rfl) hf
  · have hf := hf.trans (if_pos h_14)
    refine lv_aload_n hx hb dX11_toStatus_10 rfl (lv_at hl 0 rfl) ?_
    refine lv_iload_n hx hb dX11_toStatus_11 rfl (lv_at hl 1 rfl) ?_
    refine kc_Vb (rest := []) (cy_Model_turnedNumber l G σ v0) ⟨hx, hb, hml, hown, hts⟩ (cwV 1 hts (gi_V kw_932 kw_933 kw_934 kw_5 kw_935) rfl rfl rfl ⟨rfl, mdX11_turnedNumber⟩ ⟨by decide, by decide⟩) (va_recv hK hP (ci := 9) (q0 := 0) rfl rfl) mZ_ok hK hP hD hS hA hZ rfl hl.1 rfl (Nat.le_of_ble_eq_true rfl) dX11_toStatus_12 ⟨Nat.zero_le _, Nat.zero_le _⟩ (fun H locs hP hD hS => ?_)
    refine lv_goto (tgt := 26) hx hb dX11_toStatus_15 (by decide) ?_
    exact J26 ((y_Model_turnedNumber σ v0).1) ((y_Model_turnedNumber σ v0).2) _ _ _ hP hD hS (lv_sub hl [0, 1] rfl) hf
