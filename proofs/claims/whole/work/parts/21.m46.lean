def y_Model_storeAt_59 (σ : MS) (v0 : Int32) (v1 : Int32) (v2 : Int32) (k0_29 : Int32) (k0_59 : Int32) : MS := t_memory σ (upd (m_memory σ) (v0 / 4).toNatClampNeg (((m_memory σ (v0 / 4).toNatClampNeg) &&& (k0_59 ^^^ (-1))) ||| ((v2 <<< (k0_29 &&& 31)) &&& k0_59)))
def y_Model_storeAt_29 (σ : MS) (v0 : Int32) (v1 : Int32) (v2 : Int32) (k0_29 : Int32) : MS := (if v1 = 4 then y_Model_storeAt_59 σ v0 v1 v2 k0_29 (-1) else (if v1 = 2 then y_Model_storeAt_59 σ v0 v1 v2 k0_29 ((65535 : Int32) <<< (k0_29 &&& 31)) else y_Model_storeAt_59 σ v0 v1 v2 k0_29 ((255 : Int32) <<< (k0_29 &&& 31))))
def y_Model_storeAt (σ : MS) (v0 : Int32) (v1 : Int32) (v2 : Int32) : MS := (if v1 = 4 then y_Model_storeAt_29 σ v0 v1 v2 0 else (if v1 = 2 then y_Model_storeAt_29 σ v0 v1 v2 (8 * (v0 &&& 2)) else y_Model_storeAt_29 σ v0 v1 v2 (8 * (v0 - v0 / 4 * 4))))
set_option maxRecDepth 20000 in
set_option maxHeartbeats 4000000 in
theorem cy_Model_storeAt (l : Launch) (G : KG) (σ : MS) (v0 : Int32) (v1 : Int32) (v2 : Int32) (hv0 : vp_in v0 262144) : KV l yX11_storeAt (Cond.code yX11_storeAt cX11_storeAt 6 none :: lw_all) (kr 0) (gD G) vwCl (gT G) (mZ G) (mW G) [.ref (gA G 20), .int v0, .int v1, .int v2] σ (y_Model_storeAt σ v0 v1 v2) := by
  refine kc_in_v (q := y_Model_storeAt σ v0 v1 v2) (by decide) rfl (Nat.le_of_ble_eq_true rfl) ?_
  intro p e s m args below meth c A Q ls hx hb hml hown hts hK hP hD hA hS hZ hl hret
  have hts := fun w h => hts w (List.mem_cons_of_mem _ h)
  have hl : lv_has ls 6 [(0, .ref (gA G 20)), (1, .int v0), (2, .int v1), (3, .int v2)] := hl
  have hf : y_Model_storeAt σ v0 v1 v2 = y_Model_storeAt σ v0 v1 v2 := rfl
  have J59 : ∀ (k0_29 : Int32) (k0_59 : Int32) (H : Heap) (locs : List Loc) (ls : Array Slot), va_P (gD G) vwCl (mW G (σ)) H → va_D A (mW G (σ)) → va_S A s.heap H locs → lv_has ls 6 [(0, .ref (gA G 20)), (1, .int v0), (3, .int v2), (4, .int k0_29)] → y_Model_storeAt σ v0 v1 v2 = y_Model_storeAt_59 σ v0 v1 v2 k0_29 k0_59 → W p l e (kr 0) s m args below meth c H locs 0 0 Q (F0 m 59 ls [.int k0_59]) := by
    intro k0_29 k0_59 H locs ls hP hD hS hl hf
    refine lv_istore (lv' := [(5, .int k0_59), (0, .ref (gA G 20)), (1, .int v0), (3, .int v2), (4, .int k0_29)]) hx hb dX11_storeAt_59 hl (by decide) rfl (fun ls hl => ?_)
    refine lv_aload_n hx hb dX11_storeAt_61 rfl (lv_at hl 1 rfl) ?_
    refine va_get (D := gD G) (ci := 9) hx hb hts ku_11 hown hK hP 0 rfl rfl 1 (by decide) (hts _ kw_106) (fun _ h9 => h9) rfl dX11_storeAt_62 ?_
    refine lv_iload_n hx hb dX11_storeAt_65 rfl (lv_at hl 2 rfl) ?_
    refine lv_iconst (v := 4) hx hb dX11_storeAt_66 (by decide) ?_
    refine lv_idiv hx hb dX11_storeAt_67 (by decide) ?_
    refine lv_aload_n hx hb dX11_storeAt_68 rfl (lv_at hl 1 rfl) ?_
    refine va_get (D := gD G) (ci := 9) hx hb hts ku_11 hown hK hP 0 rfl rfl 1 (by decide) (hts _ kw_106) (fun _ h9 => h9) rfl dX11_storeAt_69 ?_
    refine lv_iload_n hx hb dX11_storeAt_72 rfl (lv_at hl 2 rfl) ?_
    refine lv_iconst (v := 4) hx hb dX11_storeAt_73 (by decide) ?_
    refine lv_idiv hx hb dX11_storeAt_74 (by decide) ?_
    refine va_iald hx hb hK hP 1 0 rfl rfl (dv_in hv0) dX11_storeAt_75 ?_
    refine lv_iload hx hb dX11_storeAt_76 (lv_at hl 0 rfl) ?_
    refine lv_iconst (v := (-1)) hx hb dX11_storeAt_78 (by decide) ?_
    refine lv_ixor hx hb dX11_storeAt_79 ?_
    refine lv_iand hx hb dX11_storeAt_80 ?_
    refine lv_iload_n hx hb dX11_storeAt_81 rfl (lv_at hl 3 rfl) ?_
    refine lv_iload hx hb dX11_storeAt_82 (lv_at hl 4 rfl) ?_
    refine lv_ishl hx hb dX11_storeAt_84 ?_
    refine lv_iload hx hb dX11_storeAt_85 (lv_at hl 0 rfl) ?_
    refine lv_iand hx hb dX11_storeAt_87 ?_
    refine lv_ior hx hb dX11_storeAt_88 ?_
    refine va_iast hx hb hK hP hD hS 1 0 rfl rfl (dv_in hv0) dX11_storeAt_89 (fun H locs hP hD hS => ?_)
    have hP := kP_eq (mWs_memory G σ (upd (m_memory σ) (v0 / 4).toNatClampNeg (((m_memory σ (v0 / 4).toNatClampNeg) &&& (k0_59 ^^^ (-1))) ||| ((v2 <<< (k0_29 &&& 31)) &&& k0_59)))) hP
    have hD := kD_eq (mWs_memory G σ (upd (m_memory σ) (v0 / 4).toNatClampNeg (((m_memory σ (v0 / 4).toNatClampNeg) &&& (k0_59 ^^^ (-1))) ||| ((v2 <<< (k0_29 &&& 31)) &&& k0_59)))) hD
    exact hret (t_memory σ (upd (m_memory σ) (v0 / 4).toNatClampNeg (((m_memory σ (v0 / 4).toNatClampNeg) &&& (k0_59 ^^^ (-1))) ||| ((v2 <<< (k0_29 &&& 31)) &&& k0_59)))) _ _ _ _ hf hP hD hS dX11_storeAt_90
  have J29 : ∀ (k0_29 : Int32) (H : Heap) (locs : List Loc) (ls : Array Slot), va_P (gD G) vwCl (mW G (σ)) H → va_D A (mW G (σ)) → va_S A s.heap H locs → lv_has ls 6 [(0, .ref (gA G 20)), (1, .int v0), (2, .int v1), (3, .int v2)] → y_Model_storeAt σ v0 v1 v2 = y_Model_storeAt_29 σ v0 v1 v2 k0_29 → W p l e (kr 0) s m args below meth c H locs 0 0 Q (F0 m 29 ls [.int k0_29]) := by
    intro k0_29 H locs ls hP hD hS hl hf
    refine lv_istore (lv' := [(4, .int k0_29), (0, .ref (gA G 20)), (1, .int v0), (2, .int v1), (3, .int v2)]) hx hb dX11_storeAt_29 hl (by decide) rfl (fun ls hl => ?_)
    refine lv_iload_n hx hb dX11_storeAt_31 rfl (lv_at hl 3 rfl) ?_
    refine lv_iconst (v := 4) hx hb dX11_storeAt_32 (by decide) ?_
    refine lv_icmp_ne (tgt := 40) hx hb dX11_storeAt_33 (by decide) (fun h_5 => ?_) (fun h_5 => ?_)
    · have hf := hf.trans (if_neg h_5)
      refine lv_iload_n hx hb dX11_storeAt_40 rfl (lv_at hl 3 rfl) ?_
      refine lv_iconst (v := 2) hx hb dX11_storeAt_41 (by decide) ?_
      refine lv_icmp_ne (tgt := 53) hx hb dX11_storeAt_42 (by decide) (fun h_6 => ?_) (fun h_6 => ?_)
      · have hf := hf.trans (if_neg h_6)
        refine lv_sipush (v := 255) hx hb dX11_storeAt_53 (by decide) ?_
        refine lv_iload hx hb dX11_storeAt_56 (lv_at hl 0 rfl) ?_
        refine lv_ishl hx hb dX11_storeAt_58 ?_
        exact J59 k0_29 ((255 : Int32) <<< (k0_29 &&& 31)) _ _ _ hP hD hS (lv_sub hl [1, 2, 4, 0] rfl) hf
      · have hf := hf.trans (if_pos h_6)
        refine lv_ldc (v := 65535) hx hb hown (hts _ kw_744) dX11_storeAt_45 ?_
        refine lv_iload hx hb dX11_storeAt_47 (lv_at hl 0 rfl) ?_
        refine lv_ishl hx hb dX11_storeAt_49 ?_
        refine lv_goto (tgt := 59) hx hb dX11_storeAt_50 (by decide) ?_
        exact J59 k0_29 ((65535 : Int32) <<< (k0_29 &&& 31)) _ _ _ hP hD hS (lv_sub hl [1, 2, 4, 0] rfl) hf
    · have hf := hf.trans (if_pos h_5)
      refine lv_iconst (v := (-1)) hx hb dX11_storeAt_36 (by decide) ?_
      refine lv_goto (tgt := 59) hx hb dX11_storeAt_37 (by decide) ?_
      exact J59 k0_29 (-1) _ _ _ hP hD hS (lv_sub hl [1, 2, 4, 0] rfl) hf
  refine lv_iload_n hx hb dX11_storeAt_0 rfl (lv_at hl 2 rfl) ?_
  refine lv_iconst (v := 4) hx hb dX11_storeAt_1 (by decide) ?_
  refine lv_icmp_ne (tgt := 9) hx hb dX11_storeAt_2 (by decide) (fun h_7 => ?_) (fun h_7 => ?_)
  · have hf := hf.trans (if_neg h_7)
    refine lv_iload_n hx hb dX11_storeAt_9 rfl (lv_at hl 2 rfl) ?_
    refine lv_iconst (v := 2) hx hb dX11_storeAt_10 (by decide) ?_
    refine lv_icmp_ne (tgt := 23) hx hb dX11_storeAt_11 (by decide) (fun h_8 => ?_) (fun h_8 => ?_)
    · have hf := hf.trans (if_neg h_8)
      refine lv_bipush (v := 8) hx hb dX11_storeAt_23 (by decide) ?_
      refine lv_iload_n hx hb dX11_storeAt_25 rfl (lv_at hl 1 rfl) ?_
      refine lv_iconst (v := 4) hx hb dX11_storeAt_26 (by decide) ?_
      refine lv_irem hx hb dX11_storeAt_27 (by decide) ?_
      refine lv_imul hx hb dX11_storeAt_28 ?_
      exact J29 (8 * (v0 - v0 / 4 * 4)) _ _ _ hP hD hS (lv_sub hl [0, 1, 2, 3] rfl) hf
    · have hf := hf.trans (if_pos h_8)
      refine lv_bipush (v := 8) hx hb dX11_storeAt_14 (by decide) ?_
      refine lv_iload_n hx hb dX11_storeAt_16 rfl (lv_at hl 1 rfl) ?_
      refine lv_iconst (v := 2) hx hb dX11_storeAt_17 (by decide) ?_
      refine lv_iand hx hb dX11_storeAt_18 ?_
      refine lv_imul hx hb dX11_storeAt_19 ?_
      refine lv_goto (tgt := 29) hx hb dX11_storeAt_20 (by decide) ?_
      exact J29 (8 * (v0 &&& 2)) _ _ _ hP hD hS (lv_sub hl [0, 1, 2, 3] rfl) hf
  · have hf := hf.trans (if_pos h_7)
    refine lv_iconst (v := 0) hx hb dX11_storeAt_5 (by decide) ?_
    refine lv_goto (tgt := 29) hx hb dX11_storeAt_6 (by decide) ?_
    exact J29 0 _ _ _ hP hD hS (lv_sub hl [0, 1, 2, 3] rfl) hf
