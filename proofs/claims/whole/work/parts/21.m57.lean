def y_Model_thumb_367 (σ : MS) (v0 : Int32) (k0_367 : Int32) : MS := y_Model_put σ ((v0 >>> ((8 : Int32) &&& 31)) &&& 7) (k0_367 + (4 * (v0 &&& 255)))
def y_Model_thumb_243 (σ : MS) (v0 : Int32) (k0_243 : Int32) : MS := (if (v0 >>> ((12 : Int32) &&& 31)) = 6 then y_Model_transfer σ (decide (((v0 >>> ((11 : Int32) &&& 31)) &&& 1) = 1)) k0_243 (v0 &&& 7) ((y_Model_at σ ((v0 >>> ((3 : Int32) &&& 31)) &&& 7)) + (4 * ((v0 >>> ((6 : Int32) &&& 31)) &&& 31))) (-1) 0 else y_Model_transfer σ (decide (((v0 >>> ((11 : Int32) &&& 31)) &&& 1) = 1)) k0_243 (v0 &&& 7) ((y_Model_at σ ((v0 >>> ((3 : Int32) &&& 31)) &&& 7)) + ((v0 >>> ((6 : Int32) &&& 31)) &&& 31)) (-1) 0)
def y_Model_thumb (σ : MS) (v0 : Int32) : MS := (if 2 ≤ (v0 >>> ((12 : Int32) &&& 31)) then (if 4 ≤ (v0 >>> ((12 : Int32) &&& 31)) then (if (v0 >>> ((10 : Int32) &&& 31)) = 16 then y_Model_operations σ ((v0 >>> ((6 : Int32) &&& 31)) &&& 15) (v0 &&& 7) ((v0 >>> ((3 : Int32) &&& 31)) &&& 7) else (if (v0 >>> ((10 : Int32) &&& 31)) = 17 then y_Model_highOnes σ v0 else (if (v0 >>> ((11 : Int32) &&& 31)) = 9 then y_Model_transfer σ true 4 ((v0 >>> ((8 : Int32) &&& 31)) &&& 7) ((((m_here σ) + 4) &&& (-4)) + (4 * (v0 &&& 255))) (-1) 0 else (if (v0 >>> ((12 : Int32) &&& 31)) = 5 then y_Model_byRegisters σ ((v0 >>> ((9 : Int32) &&& 31)) &&& 7) (v0 &&& 7) ((y_Model_at σ ((v0 >>> ((3 : Int32) &&& 31)) &&& 7)) + (y_Model_at σ ((v0 >>> ((6 : Int32) &&& 31)) &&& 7))) else (if 8 ≤ (v0 >>> ((12 : Int32) &&& 31)) then (if (v0 >>> ((12 : Int32) &&& 31)) = 8 then y_Model_transfer σ (decide (((v0 >>> ((11 : Int32) &&& 31)) &&& 1) = 1)) 2 (v0 &&& 7) ((y_Model_at σ ((v0 >>> ((3 : Int32) &&& 31)) &&& 7)) + (2 * ((v0 >>> ((6 : Int32) &&& 31)) &&& 31))) (-1) 0 else (if (v0 >>> ((12 : Int32) &&& 31)) = 9 then y_Model_transfer σ (decide (((v0 >>> ((11 : Int32) &&& 31)) &&& 1) = 1)) 4 ((v0 >>> ((8 : Int32) &&& 31)) &&& 7) ((y_Model_at σ 13) + (4 * (v0 &&& 255))) (-1) 0 else (if (v0 >>> ((12 : Int32) &&& 31)) = 10 then (if (decide (((v0 >>> ((11 : Int32) &&& 31)) &&& 1) = 1)) = true then y_Model_thumb_367 σ v0 (y_Model_at σ 13) else y_Model_thumb_367 σ v0 (((m_here σ) + 4) &&& (-4))) else (if (v0 >>> ((12 : Int32) &&& 31)) = 11 then y_Model_stack σ v0 else (if (v0 >>> ((12 : Int32) &&& 31)) = 12 then y_Model_many σ (decide (((v0 >>> ((11 : Int32) &&& 31)) &&& 1) = 1)) ((v0 >>> ((8 : Int32) &&& 31)) &&& 7) (v0 &&& 255) true false true false else (if (v0 >>> ((12 : Int32) &&& 31)) = 13 then y_Model_conditional σ ((v0 >>> ((8 : Int32) &&& 31)) &&& 15) (v0 &&& 255) else y_Model_far σ v0)))))) else (if (v0 >>> ((12 : Int32) &&& 31)) = 6 then y_Model_thumb_243 σ v0 4 else y_Model_thumb_243 σ v0 1)))))) else y_Model_numbers σ ((v0 >>> ((11 : Int32) &&& 31)) &&& 3) ((v0 >>> ((8 : Int32) &&& 31)) &&& 7) (v0 &&& 255)) else y_Model_early σ v0 (v0 &&& 7) ((v0 >>> ((3 : Int32) &&& 31)) &&& 7) ((v0 >>> ((6 : Int32) &&& 31)) &&& 7) ((v0 >>> ((6 : Int32) &&& 31)) &&& 31))
set_option maxRecDepth 20000 in
set_option maxHeartbeats 4000000 in
theorem cy_Model_thumb (l : Launch) (G : KG) (σ : MS) (v0 : Int32) : KV l yX11_thumb (Cond.code yX11_thumb cX11_thumb 10 none :: lw_all) (kr 7) (gD G) vwCl (gT G) (mZ G) (mW G) [.ref (gA G 20), .int v0] σ (y_Model_thumb σ v0) := by
  refine kc_in_v (q := y_Model_thumb σ v0) (by decide) rfl (Nat.le_of_ble_eq_true rfl) ?_
  intro p e s m args below meth c A Q ls hx hb hml hown hts hK hP hD hA hS hZ hl hret
  have hts := fun w h => hts w (List.mem_cons_of_mem _ h)
  have hl : lv_has ls 10 [(0, .ref (gA G 20)), (1, .int v0)] := hl
  have hf : y_Model_thumb σ v0 = y_Model_thumb σ v0 := rfl
  have J367 : ∀ (k0_367 : Int32) (H : Heap) (locs : List Loc) (ls : Array Slot), va_P (gD G) vwCl (mW G (σ)) H → va_D A (mW G (σ)) → va_S A s.heap H locs → lv_has ls 10 [(8, .int (v0 &&& 255))] → y_Model_thumb σ v0 = y_Model_thumb_367 σ v0 k0_367 → W p l e (kr 7) s m args below meth c H locs 0 0 Q (F0 m 367 ls [.int k0_367, .int ((v0 >>> ((8 : Int32) &&& 31)) &&& 7), .ref (gA G 20)]) := by
    intro k0_367 H locs ls hP hD hS hl hf
    refine lv_iconst (v := 4) hx hb dX11_thumb_367 (by decide) ?_
    refine lv_iload hx hb dX11_thumb_368 (lv_at hl 0 rfl) ?_
    refine lv_imul hx hb dX11_thumb_370 ?_
    refine lv_iadd hx hb dX11_thumb_371 ?_
    refine kc_Vv (rest := []) (cy_Model_put l G σ ((v0 >>> ((8 : Int32) &&& 31)) &&& 7) (k0_367 + (4 * (v0 &&& 255))) (an7_16 _)) ⟨hx, hb, hml, hown, hts⟩ (cwV 2 hts (gi_V kw_806 kw_807 kw_808 kw_5 kw_809) rfl rfl rfl ⟨rfl, mdX11_put⟩ ⟨by decide, by decide⟩) (va_recv hK hP (ci := 9) (q0 := 0) rfl rfl) mZ_ok hK hP hD hS hA hZ rfl hl.1 rfl (Nat.le_of_ble_eq_true rfl) dX11_thumb_372 ⟨Nat.zero_le _, Nat.zero_le _⟩ (fun H locs hP hD hS => ?_)
    refine lv_goto (tgt := 442) hx hb dX11_thumb_375 (by decide) ?_
    exact hret (y_Model_put σ ((v0 >>> ((8 : Int32) &&& 31)) &&& 7) (k0_367 + (4 * (v0 &&& 255)))) _ _ _ _ hf hP hD hS dX11_thumb_442
  have J243 : ∀ (k0_243 : Int32) (H : Heap) (locs : List Loc) (ls : Array Slot), va_P (gD G) vwCl (mW G (σ)) H → va_D A (mW G (σ)) → va_S A s.heap H locs → lv_has ls 10 [(0, .ref (gA G 20)), (2, .int (v0 >>> ((12 : Int32) &&& 31))), (3, .int (v0 &&& 7)), (4, .int ((v0 >>> ((3 : Int32) &&& 31)) &&& 7)), (6, .int ((v0 >>> ((6 : Int32) &&& 31)) &&& 31))] → y_Model_thumb σ v0 = y_Model_thumb_243 σ v0 k0_243 → W p l e (kr 7) s m args below meth c H locs 0 0 Q (F0 m 243 ls [.int k0_243, .int (b01 (decide (((v0 >>> ((11 : Int32) &&& 31)) &&& 1) = 1))), .ref (gA G 20)]) := by
    intro k0_243 H locs ls hP hD hS hl hf
    refine lv_iload_n hx hb dX11_thumb_243 rfl (lv_at hl 2 rfl) ?_
    refine lv_aload_n hx hb dX11_thumb_244 rfl (lv_at hl 0 rfl) ?_
    refine lv_iload hx hb dX11_thumb_245 (lv_at hl 3 rfl) ?_
    refine kc_Vr (rest := [.int (v0 &&& 7), .int k0_243, .int (b01 (decide (((v0 >>> ((11 : Int32) &&& 31)) &&& 1) = 1))), .ref (gA G 20)]) (cy_Model_at l G σ ((v0 >>> ((3 : Int32) &&& 31)) &&& 7) (an7_16 _)) ⟨hx, hb, hml, hown, hts⟩ (cwV 1 hts (gi_V kw_753 kw_754 kw_755 kw_5 kw_756) rfl rfl rfl ⟨rfl, mdX11_at⟩ ⟨by decide, by decide⟩) (va_recv hK hP (ci := 9) (q0 := 0) rfl rfl) mZ_ok hK hP hD hS hA hZ rfl hl.1 rfl (Nat.le_of_ble_eq_true rfl) dX11_thumb_247 ⟨Nat.zero_le _, Nat.zero_le _⟩ (fun H locs hP hD hS => ?_)
    refine lv_iload_n hx hb dX11_thumb_250 rfl (lv_at hl 1 rfl) ?_
    refine lv_bipush (v := 6) hx hb dX11_thumb_251 (by decide) ?_
    refine lv_icmp_ne (tgt := 263) hx hb dX11_thumb_253 (by decide) (fun h_18 => ?_) (fun h_18 => ?_)
    · have hf := hf.trans (if_neg h_18)
      refine lv_iload hx hb dX11_thumb_263 (lv_at hl 4 rfl) ?_
      refine lv_iadd hx hb dX11_thumb_265 ?_
      refine lv_iconst (v := (-1)) hx hb dX11_thumb_266 (by decide) ?_
      refine lv_iconst (v := 0) hx hb dX11_thumb_267 (by decide) ?_
      refine kc_Vv (rest := []) (cy_Model_transfer l G σ (decide (((v0 >>> ((11 : Int32) &&& 31)) &&& 1) = 1)) k0_243 (v0 &&& 7) ((y_Model_at σ ((v0 >>> ((3 : Int32) &&& 31)) &&& 7)) + ((v0 >>> ((6 : Int32) &&& 31)) &&& 31)) (-1) 0 (an7_16 _) (Or.inl rfl)) ⟨hx, hb, hml, hown, hts⟩ (cwV 6 hts (gi_V kw_838 kw_839 kw_840 kw_5 kw_841) rfl rfl rfl ⟨rfl, mdX11_transfer⟩ ⟨by decide, by decide⟩) (va_recv hK hP (ci := 9) (q0 := 0) rfl rfl) mZ_ok hK hP hD hS hA hZ rfl hl.1 rfl (Nat.le_of_ble_eq_true rfl) dX11_thumb_268 ⟨Nat.zero_le _, Nat.zero_le _⟩ (fun H locs hP hD hS => ?_)
      refine lv_goto (tgt := 442) hx hb dX11_thumb_271 (by decide) ?_
      exact hret (y_Model_transfer σ (decide (((v0 >>> ((11 : Int32) &&& 31)) &&& 1) = 1)) k0_243 (v0 &&& 7) ((y_Model_at σ ((v0 >>> ((3 : Int32) &&& 31)) &&& 7)) + ((v0 >>> ((6 : Int32) &&& 31)) &&& 31)) (-1) 0) _ _ _ _ hf hP hD hS dX11_thumb_442
    · have hf := hf.trans (if_pos h_18)
      refine lv_iconst (v := 4) hx hb dX11_thumb_256 (by decide) ?_
      refine lv_iload hx hb dX11_thumb_257 (lv_at hl 4 rfl) ?_
      refine lv_imul hx hb dX11_thumb_259 ?_
      refine lv_goto (tgt := 265) hx hb dX11_thumb_260 (by decide) ?_
      refine lv_iadd hx hb dX11_thumb_265 ?_
      refine lv_iconst (v := (-1)) hx hb dX11_thumb_266 (by decide) ?_
      refine lv_iconst (v := 0) hx hb dX11_thumb_267 (by decide) ?_
      refine kc_Vv (rest := []) (cy_Model_transfer l G σ (decide (((v0 >>> ((11 : Int32) &&& 31)) &&& 1) = 1)) k0_243 (v0 &&& 7) ((y_Model_at σ ((v0 >>> ((3 : Int32) &&& 31)) &&& 7)) + (4 * ((v0 >>> ((6 : Int32) &&& 31)) &&& 31))) (-1) 0 (an7_16 _) (Or.inl rfl)) ⟨hx, hb, hml, hown, hts⟩ (cwV 6 hts (gi_V kw_838 kw_839 kw_840 kw_5 kw_841) rfl rfl rfl ⟨rfl, mdX11_transfer⟩ ⟨by decide, by decide⟩) (va_recv hK hP (ci := 9) (q0 := 0) rfl rfl) mZ_ok hK hP hD hS hA hZ rfl hl.1 rfl (Nat.le_of_ble_eq_true rfl) dX11_thumb_268 ⟨Nat.zero_le _, Nat.zero_le _⟩ (fun H locs hP hD hS => ?_)
      refine lv_goto (tgt := 442) hx hb dX11_thumb_271 (by decide) ?_
      exact hret (y_Model_transfer σ (decide (((v0 >>> ((11 : Int32) &&& 31)) &&& 1) = 1)) k0_243 (v0 &&& 7) ((y_Model_at σ ((v0 >>> ((3 : Int32) &&& 31)) &&& 7)) + (4 * ((v0 >>> ((6 : Int32) &&& 31)) &&& 31))) (-1) 0) _ _ _ _ hf hP hD hS dX11_thumb_442
  refine lv_iload_n hx hb dX11_thumb_0 rfl (lv_at hl 1 rfl) ?_
  refine lv_bipush (v := 12) hx hb dX11_thumb_1 (by decide) ?_
  refine lv_ishr hx hb dX11_thumb_3 ?_
  refine lv_istore_n (lv' := [(2, .int (v0 >>> ((12 : Int32) &&& 31))), (0, .ref (gA G 20)), (1, .int v0)]) hx hb dX11_thumb_4 rfl hl (by decide) rfl (fun ls hl => ?_)
  refine lv_iload_n hx hb dX11_thumb_5 rfl (lv_at hl 2 rfl) ?_
  refine lv_bipush (v := 7) hx hb dX11_thumb_6 (by decide) ?_
  refine lv_iand hx hb dX11_thumb_8 ?_
  refine lv_istore_n (lv' := [(3, .int (v0 &&& 7)), (2, .int (v0 >>> ((12 : Int32) &&& 31))), (0, .ref (gA G 20)), (1, .int v0)]) hx hb dX11_thumb_9 rfl hl (by decide) rfl (fun ls hl => ?_)
  refine lv_iload_n hx hb dX11_thumb_10 rfl (lv_at hl 3 rfl) ?_
  refine lv_iconst (v := 3) hx hb dX11_thumb_11 (by decide) ?_
  refine lv_ishr hx hb dX11_thumb_12 ?_
  refine lv_bipush (v := 7) hx hb dX11_thumb_13 (by decide) ?_
  refine lv_iand hx hb dX11_thumb_15 ?_
  refine lv_istore (lv' := [(4, .int ((v0 >>> ((3 : Int32) &&& 31)) &&& 7)), (3, .int (v0 &&& 7)), (2, .int (v0 >>> ((12 : Int32) &&& 31))), (0, .ref (gA G 20)), (1, .int v0)]) hx hb dX11_thumb_16 hl (by decide) rfl (fun ls hl => ?_)
  refine lv_iload_n hx hb dX11_thumb_18 rfl (lv_at hl 4 rfl) ?_
  refine lv_bipush (v := 6) hx hb dX11_thumb_19 (by decide) ?_
  refine lv_ishr hx hb dX11_thumb_21 ?_
  refine lv_bipush (v := 7) hx hb dX11_thumb_22 (by decide) ?_
  refine lv_iand hx hb dX11_thumb_24 ?_
  refine lv_istore (lv' := [(5, .int ((v0 >>> ((6 : Int32) &&& 31)) &&& 7)), (4, .int ((v0 >>> ((3 : Int32) &&& 31)) &&& 7)), (3, .int (v0 &&& 7)), (2, .int (v0 >>> ((12 : Int32) &&& 31))), (0, .ref (gA G 20)), (1, .int v0)]) hx hb dX11_thumb_25 hl (by decide) rfl (fun ls hl => ?_)
  refine lv_iload_n hx hb dX11_thumb_27 rfl (lv_at hl 5 rfl) ?_
  refine lv_bipush (v := 6) hx hb dX11_thumb_28 (by decide) ?_
  refine lv_ishr hx hb dX11_thumb_30 ?_
  refine lv_bipush (v := 31) hx hb dX11_thumb_31 (by decide) ?_
  refine lv_iand hx hb dX11_thumb_33 ?_
  refine lv_istore (lv' := [(6, .int ((v0 >>> ((6 : Int32) &&& 31)) &&& 31)), (5, .int ((v0 >>> ((6 : Int32) &&& 31)) &&& 7)), (4, .int ((v0 >>> ((3 : Int32) &&& 31)) &&& 7)), (3, .int (v0 &&& 7)), (2, .int (v0 >>> ((12 : Int32) &&& 31))), (0, .ref (gA G 20)), (1, .int v0)]) hx hb dX11_thumb_34 hl (by decide) rfl (fun ls hl => ?_)
  refine lv_iload_n hx hb dX11_thumb_36 rfl (lv_at hl 6 rfl) ?_
  refine lv_bipush (v := 8) hx hb dX11_thumb_37 (by decide) ?_
  refine lv_ishr hx hb dX11_thumb_39 ?_
  refine lv_bipush (v := 7) hx hb dX11_thumb_40 (by decide) ?_
  refine lv_iand hx hb dX11_thumb_42 ?_
  refine lv_istore (lv' := [(7, .int ((v0 >>> ((8 : Int32) &&& 31)) &&& 7)), (6, .int ((v0 >>> ((6 : Int32) &&& 31)) &&& 31)), (5, .int ((v0 >>> ((6 : Int32) &&& 31)) &&& 7)), (4, .int ((v0 >>> ((3 : Int32) &&& 31)) &&& 7)), (3, .int (v0 &&& 7)), (2, .int (v0 >>> ((12 : Int32) &&& 31))), (0, .ref (gA G 20)), (1, .int v0)]) hx hb dX11_thumb_43 hl (by decide) rfl (fun ls hl => ?_)
  refine lv_iload_n hx hb dX11_thumb_45 rfl (lv_at hl 7 rfl) ?_
  refine lv_sipush (v := 255) hx hb dX11_thumb_46 (by decide) ?_
  refine lv_iand hx hb dX11_thumb_49 ?_
  refine lv_istore (lv' := [(8, .int (v0 &&& 255)), (7, .int ((v0 >>> ((8 : Int32) &&& 31)) &&& 7)), (6, .int ((v0 >>> ((6 : Int32) &&& 31)) &&& 31)), (5, .int ((v0 >>> ((6 : Int32) &&& 31)) &&& 7)), (4, .int ((v0 >>> ((3 : Int32) &&& 31)) &&& 7)), (3, .int (v0 &&& 7)), (2, .int (v0 >>> ((12 : Int32) &&& 31))), (0, .ref (gA G 20)), (1, .int v0)]) hx hb dX11_thumb_50 hl (by decide) rfl (fun ls hl => ?_)
  refine lv_iload_n hx hb dX11_thumb_52 rfl (lv_at hl 8 rfl) ?_
  refine lv_bipush (v := 11) hx hb dX11_thumb_53 (by decide) ?_
  refine lv_ishr hx hb dX11_thumb_55 ?_
  refine lv_iconst (v := 1) hx hb dX11_thumb_56 (by decide) ?_
  refine lv_iand hx hb dX11_thumb_57 ?_
  refine lv_iconst (v := 1) hx hb dX11_thumb_58 (by decide) ?_
  refine kz_dN0 (P := ((v0 >>> ((11 : Int32) &&& 31)) &&& 1) = 1) (tgt := 66) (M := 67) (fun a b => lv_icmp_ne (tgt := 66) hx hb dX11_thumb_59 (by decide) a b) hx hb dX11_thumb_62 dX11_thumb_63 (by decide) dX11_thumb_66 rfl ?_
  refine lv_istore (lv' := [(9, .int (b01 (decide (((v0 >>> ((11 : Int32) &&& 31)) &&& 1) = 1)))), (8, .int (v0 &&& 255)), (7, .int ((v0 >>> ((8 : Int32) &&& 31)) &&& 7)), (6, .int ((v0 >>> ((6 : Int32) &&& 31)) &&& 31)), (5, .int ((v0 >>> ((6 : Int32) &&& 31)) &&& 7)), (4, .int ((v0 >>> ((3 : Int32) &&& 31)) &&& 7)), (3, .int (v0 &&& 7)), (2, .int (v0 >>> ((12 : Int32) &&& 31))), (0, .ref (gA G 20)), (1, .int v0)]) hx hb dX11_thumb_67 hl (by decide) rfl (fun ls hl => ?_)
  refine lv_iload_n hx hb dX11_thumb_69 rfl (lv_at hl 7 rfl) ?_
  refine lv_iconst (v := 2) hx hb dX11_thumb_70 (by decide) ?_
  refine lv_icmp_ge (tgt := 89) hx hb dX11_thumb_71 (by decide) (fun h_20 => ?_) (fun h_20 => ?_)
  · have hf := hf.trans (if_pos h_20)
    refine lv_iload_n hx hb dX11_thumb_89 rfl (lv_at hl 7 rfl) ?_
    refine lv_iconst (v := 4) hx hb dX11_thumb_90 (by decide) ?_
    refine lv_icmp_ge (tgt := 111) hx hb dX11_thumb_91 (by decide) (fun h_21 => ?_) (fun h_21 => ?_)
    · have hf := hf.trans (if_pos h_21)
      refine lv_iload_n hx hb dX11_thumb_111 rfl (lv_at hl 9 rfl) ?_
      refine lv_bipush (v := 10) hx hb dX11_thumb_112 (by decide) ?_
      refine lv_ishr hx hb dX11_thumb_114 ?_
      refine lv_bipush (v := 16) hx hb dX11_thumb_115 (by decide) ?_
      refine lv_icmp_ne (tgt := 137) hx hb dX11_thumb_117 (by decide) (fun h_22 => ?_) (fun h_22 => ?_)
      · have hf := hf.trans (if_neg h_22)
        refine lv_iload_n hx hb dX11_thumb_137 rfl (lv_at hl 9 rfl) ?_
        refine lv_bipush (v := 10) hx hb dX11_thumb_138 (by decide) ?_
        refine lv_ishr hx hb dX11_thumb_140 ?_
        refine lv_bipush (v := 17) hx hb dX11_thumb_141 (by decide) ?_
        refine lv_icmp_ne (tgt := 154) hx hb dX11_thumb_143 (by decide) (fun h_23 => ?_) (fun h_23 => ?_)
        · have hf := hf.trans (if_neg h_23)
          refine lv_iload_n hx hb dX11_thumb_154 rfl (lv_at hl 9 rfl) ?_
          refine lv_bipush (v := 11) hx hb dX11_thumb_155 (by decide) ?_
          refine lv_ishr hx hb dX11_thumb_157 ?_
          refine lv_bipush (v := 9) hx hb dX11_thumb_158 (by decide) ?_
          refine lv_icmp_ne (tgt := 190) hx hb dX11_thumb_160 (by decide) (fun h_24 => ?_) (fun h_24 => ?_)
          · have hf := hf.trans (if_neg h_24)
            refine lv_iload_n hx hb dX11_thumb_190 rfl (lv_at hl 7 rfl) ?_
            refine lv_iconst (v := 5) hx hb dX11_thumb_191 (by decide) ?_
            refine lv_icmp_ne (tgt := 223) hx hb dX11_thumb_192 (by decide) (fun h_25 => ?_) (fun h_25 => ?_)
            · have hf := hf.trans (if_neg h_25)
              refine lv_iload_n hx hb dX11_thumb_223 rfl (lv_at hl 7 rfl) ?_
              refine lv_bipush (v := 8) hx hb dX11_thumb_224 (by decide) ?_
              refine lv_icmp_ge (tgt := 274) hx hb dX11_thumb_226 (by decide) (fun h_26 => ?_) (fun h_26 => ?_)
              · have hf := hf.trans (if_pos h_26)
                refine lv_iload_n hx hb dX11_thumb_274 rfl (lv_at hl 7 rfl) ?_
                refine lv_bipush (v := 8) hx hb dX11_thumb_275 (by decide) ?_
                refine lv_icmp_ne (tgt := 304) hx hb dX11_thumb_277 (by decide) (fun h_27 => ?_) (fun h_27 => ?_)
                · have hf := hf.trans (if_neg h_27)
                  refine lv_iload_n hx hb dX11_thumb_304 rfl (lv_at hl 7 rfl) ?_
                  refine lv_bipush (v := 9) hx hb dX11_thumb_305 (by decide) ?_
                  refine lv_icmp_ne (tgt := 335) hx hb dX11_thumb_307 (by decide) (fun h_28 => ?_) (fun h_28 => ?_)
                  · have hf := hf.trans (if_neg h_28)
                    refine lv_iload_n hx hb dX11_thumb_335 rfl (lv_at hl 7 rfl) ?_
                    refine lv_bipush (v := 10) hx hb dX11_thumb_336 (by decide) ?_
                    refine lv_icmp_ne (tgt := 378) hx hb dX11_thumb_338 (by decide) (fun h_29 => ?_) (fun h_29 => ?_)
                    · have hf := hf.trans (if_neg h_29)
                      refine lv_iload_n hx hb dX11_thumb_378 rfl (lv_at hl 7 rfl) ?_
                      refine lv_bipush (v := 11) hx hb dX11_thumb_379 (by decide) ?_
                      refine lv_icmp_ne (tgt := 392) hx hb dX11_thumb_381 (by decide) (fun h_30 => ?_) (fun h_30 => ?_)
                      · have hf := hf.trans (if_neg h_30)
                        refine lv_iload_n hx hb dX11_thumb_392 rfl (lv_at hl 7 rfl) ?_
                        refine lv_bipush (v := 12) hx hb dX11_thumb_393 (by decide) ?_
                        refine lv_icmp_ne (tgt := 415) hx hb dX11_thumb_395 (by decide) (fun h_31 => ?_) (fun h_31 => ?_)
                        · have hf := hf.trans (if_neg h_31)
                          refine lv_iload_n hx hb dX11_thumb_415 rfl (lv_at hl 7 rfl) ?_
                          refine lv_bipush (v := 13) hx hb dX11_thumb_416 (by decide) ?_
                          refine lv_icmp_ne (tgt := 437) hx hb dX11_thumb_418 (by decide) (fun h_32 => ?_) (fun h_32 => ?_)
                          · have hf := hf.trans (if_neg h_32)
                            refine lv_aload_n hx hb dX11_thumb_437 rfl (lv_at hl 8 rfl) ?_
                            refine lv_iload_n hx hb dX11_thumb_438 rfl (lv_at hl 9 rfl) ?_
                            refine kc_Vv (rest := []) (cy_Model_far l G σ v0) ⟨hx, hb, hml, hown, hts⟩ (cwV 1 hts (gi_V kw_898 kw_899 kw_900 kw_5 kw_901) rfl rfl rfl ⟨rfl, mdX11_far⟩ ⟨by decide, by decide⟩) (va_recv hK hP (ci := 9) (q0 := 0) rfl rfl) mZ_ok hK hP hD hS hA hZ rfl hl.1 rfl (Nat.le_of_ble_eq_true rfl) dX11_thumb_439 ⟨Nat.zero_le _, Nat.zero_le _⟩ (fun H locs hP hD hS => ?_)
                            exact hret (y_Model_far σ v0) _ _ _ _ hf hP hD hS dX11_thumb_442
                          · have hf := hf.trans (if_pos h_32)
                            refine lv_aload_n hx hb dX11_thumb_421 rfl (lv_at hl 8 rfl) ?_
                            refine lv_iload_n hx hb dX11_thumb_422 rfl (lv_at hl 9 rfl) ?_
                            refine lv_bipush (v := 8) hx hb dX11_thumb_423 (by decide) ?_
                            refine lv_ishr hx hb dX11_thumb_425 ?_
                            refine lv_bipush (v := 15) hx hb dX11_thumb_426 (by decide) ?_
                            refine lv_iand hx hb dX11_thumb_428 ?_
                            refine lv_iload hx hb dX11_thumb_429 (lv_at hl 1 rfl) ?_
                            refine kc_Vv (rest := []) (cy_Model_conditional l G σ ((v0 >>> ((8 : Int32) &&& 31)) &&& 15) (v0 &&& 255)) ⟨hx, hb, hml, hown, hts⟩ (cwV 2 hts (gi_V kw_890 kw_891 kw_892 kw_5 kw_893) rfl rfl rfl ⟨rfl, mdX11_conditional⟩ ⟨by decide, by decide⟩) (va_recv hK hP (ci := 9) (q0 := 0) rfl rfl) mZ_ok hK hP hD hS hA hZ rfl hl.1 rfl (Nat.le_of_ble_eq_true rfl) dX11_thumb_431 ⟨Nat.zero_le _, Nat.zero_le _⟩ (fun H locs hP hD hS => ?_)
                            refine lv_goto (tgt := 442) hx hb dX11_thumb_434 (by decide) ?_
                            exact hret (y_Model_conditional σ ((v0 >>> ((8 : Int32) &&& 31)) &&& 15) (v0 &&& 255)) _ _ _ _ hf hP hD hS dX11_thumb_442
                        · have hf := hf.trans (if_pos h_31)
                          refine lv_aload_n hx hb dX11_thumb_398 rfl (lv_at hl 8 rfl) ?_
                          refine lv_iload hx hb dX11_thumb_399 (lv_at hl 0 rfl) ?_
                          refine lv_iload hx hb dX11_thumb_401 (lv_at hl 2 rfl) ?_
                          refine lv_iload hx hb dX11_thumb_403 (lv_at hl 1 rfl) ?_
                          refine lv_iconst (v := 1) hx hb dX11_thumb_405 (by decide) ?_
                          refine lv_iconst (v := 0) hx hb dX11_thumb_406 (by decide) ?_
                          refine lv_iconst (v := 1) hx hb dX11_thumb_407 (by decide) ?_
                          refine lv_iconst (v := 0) hx hb dX11_thumb_408 (by decide) ?_
                          refine kc_Vv (rest := []) (cy_Model_many l G σ (decide (((v0 >>> ((11 : Int32) &&& 31)) &&& 1) = 1)) ((v0 >>> ((8 : Int32) &&& 31)) &&& 7) (v0 &&& 255) true false true false (an7_16 _)) ⟨hx, hb, hml, hown, hts⟩ (cwV 7 hts (gi_V kw_867 kw_868 kw_869 kw_5 kw_870) rfl rfl rfl ⟨rfl, mdX11_many⟩ ⟨by decide, by decide⟩) (va_recv hK hP (ci := 9) (q0 := 0) rfl rfl) mZ_ok hK hP hD hS hA hZ rfl hl.1 rfl (Nat.le_of_ble_eq_true rfl) dX11_thumb_409 ⟨Nat.zero_le _, Nat.zero_le _⟩ (fun H locs hP hD hS => ?_)
                          refine lv_goto (tgt := 442) hx hb dX11_thumb_412 (by decide) ?_
                          exact hret (y_Model_many σ (decide (((v0 >>> ((11 : Int32) &&& 31)) &&& 1) = 1)) ((v0 >>> ((8 : Int32) &&& 31)) &&& 7) (v0 &&& 255) true false true false) _ _ _ _ hf hP hD hS dX11_thumb_442
                      · have hf := hf.trans (if_pos h_30)
                        refine lv_aload_n hx hb dX11_thumb_384 rfl (lv_at hl 8 rfl) ?_
                        refine lv_iload_n hx hb dX11_thumb_385 rfl (lv_at hl 9 rfl) ?_
                        refine kc_Vv (rest := []) (cy_Model_stack l G σ v0) ⟨hx, hb, hml, hown, hts⟩ (cwV 1 hts (gi_V kw_862 kw_863 kw_864 kw_5 kw_865) rfl rfl rfl ⟨rfl, mdX11_stack⟩ ⟨by decide, by decide⟩) (va_recv hK hP (ci := 9) (q0 := 0) rfl rfl) mZ_ok hK hP hD hS hA hZ rfl hl.1 rfl (Nat.le_of_ble_eq_true rfl) dX11_thumb_386 ⟨Nat.zero_le _, Nat.zero_le _⟩ (fun H locs hP hD hS => ?_)
                        refine lv_goto (tgt := 442) hx hb dX11_thumb_389 (by decide) ?_
                        exact hret (y_Model_stack σ v0) _ _ _ _ hf hP hD hS dX11_thumb_442
                    · have hf := hf.trans (if_pos h_29)
                      refine lv_aload_n hx hb dX11_thumb_341 rfl (lv_at hl 8 rfl) ?_
                      refine lv_iload hx hb dX11_thumb_342 (lv_at hl 2 rfl) ?_
                      refine lv_iload hx hb dX11_thumb_344 (lv_at hl 0 rfl) ?_
                      refine kz_eq (tgt := 358) hx hb dX11_thumb_346 (by decide) (fun h_33 => ?_) (fun h_33 => ?_)
                      · have hf := hf.trans (if_neg h_33)
                        refine lv_aload_n hx hb dX11_thumb_358 rfl (lv_at hl 8 rfl) ?_
                        refine va_get (D := gD G) (ci := 9) hx hb hts ku_11 hown hK hP 0 rfl rfl 8 (by decide) (hts _ kw_726) (fun _ h9 => h9) rfl dX11_thumb_359 ?_
                        refine lv_iconst (v := 4) hx hb dX11_thumb_362 (by decide) ?_
                        refine lv_iadd hx hb dX11_thumb_363 ?_
                        refine lv_bipush (v := (-4)) hx hb dX11_thumb_364 (by decide) ?_
                        refine lv_iand hx hb dX11_thumb_366 ?_
                        exact J367 (((m_here σ) + 4) &&& (-4)) _ _ _ hP hD hS (lv_sub hl [1] rfl) hf
                      · have hf := hf.trans (if_pos h_33)
                        refine lv_aload_n hx hb dX11_thumb_349 rfl (lv_at hl 8 rfl) ?_
                        refine lv_bipush (v := 13) hx hb dX11_thumb_350 (by decide) ?_
                        refine kc_Vr (rest := [.int ((v0 >>> ((8 : Int32) &&& 31)) &&& 7), .ref (gA G 20)]) (cy_Model_at l G σ 13 (by unfold vp_in; decide)) ⟨hx, hb, hml, hown, hts⟩ (cwV 1 hts (gi_V kw_753 kw_754 kw_755 kw_5 kw_756) rfl rfl rfl ⟨rfl, mdX11_at⟩ ⟨by decide, by decide⟩) (va_recv hK hP (ci := 9) (q0 := 0) rfl rfl) mZ_ok hK hP hD hS hA hZ rfl hl.1 rfl (Nat.le_of_ble_eq_true rfl) dX11_thumb_352 ⟨Nat.zero_le _, Nat.zero_le _⟩ (fun H locs hP hD hS => ?_)
                        refine lv_goto (tgt := 367) hx hb dX11_thumb_355 (by decide) ?_
                        exact J367 (y_Model_at σ 13) _ _ _ hP hD hS (lv_sub hl [1] rfl) hf
                  · have hf := hf.trans (if_pos h_28)
                    refine lv_aload_n hx hb dX11_thumb_310 rfl (lv_at hl 8 rfl) ?_
                    refine lv_iload hx hb dX11_thumb_311 (lv_at hl 0 rfl) ?_
                    refine lv_iconst (v := 4) hx hb dX11_thumb_313 (by decide) ?_
                    refine lv_iload hx hb dX11_thumb_314 (lv_at hl 2 rfl) ?_
                    refine lv_aload_n hx hb dX11_thumb_316 rfl (lv_at hl 8 rfl) ?_
                    refine lv_bipush (v := 13) hx hb dX11_thumb_317 (by decide) ?_
                    refine kc_Vr (rest := [.int ((v0 >>> ((8 : Int32) &&& 31)) &&& 7), .int 4, .int (b01 (decide (((v0 >>> ((11 : Int32) &&& 31)) &&& 1) = 1))), .ref (gA G 20)]) (cy_Model_at l G σ 13 (by unfold vp_in; decide)) ⟨hx, hb, hml, hown, hts⟩ (cwV 1 hts (gi_V kw_753 kw_754 kw_755 kw_5 kw_756) rfl rfl rfl ⟨rfl, mdX11_at⟩ ⟨by decide, by decide⟩) (va_recv hK hP (ci := 9) (q0 := 0) rfl rfl) mZ_ok hK hP hD hS hA hZ rfl hl.1 rfl (Nat.le_of_ble_eq_true rfl) dX11_thumb_319 ⟨Nat.zero_le _, Nat.zero_le _⟩ (fun H locs hP hD hS => ?_)
                    refine lv_iconst (v := 4) hx hb dX11_thumb_322 (by decide) ?_
                    refine lv_iload hx hb dX11_thumb_323 (lv_at hl 1 rfl) ?_
                    refine lv_imul hx hb dX11_thumb_325 ?_
                    refine lv_iadd hx hb dX11_thumb_326 ?_
                    refine lv_iconst (v := (-1)) hx hb dX11_thumb_327 (by decide) ?_
                    refine lv_iconst (v := 0) hx hb dX11_thumb_328 (by decide) ?_
                    refine kc_Vv (rest := []) (cy_Model_transfer l G σ (decide (((v0 >>> ((11 : Int32) &&& 31)) &&& 1) = 1)) 4 ((v0 >>> ((8 : Int32) &&& 31)) &&& 7) ((y_Model_at σ 13) + (4 * (v0 &&& 255))) (-1) 0 (an7_16 _) (Or.inl rfl)) ⟨hx, hb, hml, hown, hts⟩ (cwV 6 hts (gi_V kw_838 kw_839 kw_840 kw_5 kw_841) rfl rfl rfl ⟨rfl, mdX11_transfer⟩ ⟨by decide, by decide⟩) (va_recv hK hP (ci := 9) (q0 := 0) rfl rfl) mZ_ok hK hP hD hS hA hZ rfl hl.1 rfl (Nat.le_of_ble_eq_true rfl) dX11_thumb_329 ⟨Nat.zero_le _, Nat.zero_le _⟩ (fun H locs hP hD hS => ?_)
                    refine lv_goto (tgt := 442) hx hb dX11_thumb_332 (by decide) ?_
                    exact hret (y_Model_transfer σ (decide (((v0 >>> ((11 : Int32) &&& 31)) &&& 1) = 1)) 4 ((v0 >>> ((8 : Int32) &&& 31)) &&& 7) ((y_Model_at σ 13) + (4 * (v0 &&& 255))) (-1) 0) _ _ _ _ hf hP hD hS dX11_thumb_442
                · have hf := hf.trans (if_pos h_27)
                  refine lv_aload_n hx hb dX11_thumb_280 rfl (lv_at hl 8 rfl) ?_
                  refine lv_iload hx hb dX11_thumb_281 (lv_at hl 0 rfl) ?_
                  refine lv_iconst (v := 2) hx hb dX11_thumb_283 (by decide) ?_
                  refine lv_iload_n hx hb dX11_thumb_284 rfl (lv_at hl 6 rfl) ?_
                  refine lv_aload_n hx hb dX11_thumb_285 rfl (lv_at hl 8 rfl) ?_
                  refine lv_iload hx hb dX11_thumb_286 (lv_at hl 5 rfl) ?_
                  refine kc_Vr (rest := [.int (v0 &&& 7), .int 2, .int (b01 (decide (((v0 >>> ((11 : Int32) &&& 31)) &&& 1) = 1))), .ref (gA G 20)]) (cy_Model_at l G σ ((v0 >>> ((3 : Int32) &&& 31)) &&& 7) (an7_16 _)) ⟨hx, hb, hml, hown, hts⟩ (cwV 1 hts (gi_V kw_753 kw_754 kw_755 kw_5 kw_756) rfl rfl rfl ⟨rfl, mdX11_at⟩ ⟨by decide, by decide⟩) (va_recv hK hP (ci := 9) (q0 := 0) rfl rfl) mZ_ok hK hP hD hS hA hZ rfl hl.1 rfl (Nat.le_of_ble_eq_true rfl) dX11_thumb_288 ⟨Nat.zero_le _, Nat.zero_le _⟩ (fun H locs hP hD hS => ?_)
                  refine lv_iconst (v := 2) hx hb dX11_thumb_291 (by decide) ?_
                  refine lv_iload hx hb dX11_thumb_292 (lv_at hl 3 rfl) ?_
                  refine lv_imul hx hb dX11_thumb_294 ?_
                  refine lv_iadd hx hb dX11_thumb_295 ?_
                  refine lv_iconst (v := (-1)) hx hb dX11_thumb_296 (by decide) ?_
                  refine lv_iconst (v := 0) hx hb dX11_thumb_297 (by decide) ?_
                  refine kc_Vv (rest := []) (cy_Model_transfer l G σ (decide (((v0 >>> ((11 : Int32) &&& 31)) &&& 1) = 1)) 2 (v0 &&& 7) ((y_Model_at σ ((v0 >>> ((3 : Int32) &&& 31)) &&& 7)) + (2 * ((v0 >>> ((6 : Int32) &&& 31)) &&& 31))) (-1) 0 (an7_16 _) (Or.inl rfl)) ⟨hx, hb, hml, hown, hts⟩ (cwV 6 hts (gi_V kw_838 kw_839 kw_840 kw_5 kw_841) rfl rfl rfl ⟨rfl, mdX11_transfer⟩ ⟨by decide, by decide⟩) (va_recv hK hP (ci := 9) (q0 := 0) rfl rfl) mZ_ok hK hP hD hS hA hZ rfl hl.1 rfl (Nat.le_of_ble_eq_true rfl) dX11_thumb_298 ⟨Nat.zero_le _, Nat.zero_le _⟩ (fun H locs hP hD hS => ?_)
                  refine lv_goto (tgt := 442) hx hb dX11_thumb_301 (by decide) ?_
                  exact hret (y_Model_transfer σ (decide (((v0 >>> ((11 : Int32) &&& 31)) &&& 1) = 1)) 2 (v0 &&& 7) ((y_Model_at σ ((v0 >>> ((3 : Int32) &&& 31)) &&& 7)) + (2 * ((v0 >>> ((6 : Int32) &&& 31)) &&& 31))) (-1) 0) _ _ _ _ hf hP hD hS dX11_thumb_442
              · have hf := hf.trans (if_neg h_26)
                refine lv_aload_n hx hb dX11_thumb_229 rfl (lv_at hl 8 rfl) ?_
                refine lv_iload hx hb dX11_thumb_230 (lv_at hl 0 rfl) ?_
                refine lv_iload_n hx hb dX11_thumb_232 rfl (lv_at hl 7 rfl) ?_
                refine lv_bipush (v := 6) hx hb dX11_thumb_233 (by decide) ?_
                refine lv_icmp_ne (tgt := 242) hx hb dX11_thumb_235 (by decide) (fun h_34 => ?_) (fun h_34 => ?_)
                · have hf := hf.trans (if_neg h_34)
                  refine lv_iconst (v := 1) hx hb dX11_thumb_242 (by decide) ?_
                  exact J243 1 _ _ _ hP hD hS (lv_sub hl [8, 7, 6, 5, 3] rfl) hf
                · have hf := hf.trans (if_pos h_34)
                  refine lv_iconst (v := 4) hx hb dX11_thumb_238 (by decide) ?_
                  refine lv_goto (tgt := 243) hx hb dX11_thumb_239 (by decide) ?_
                  exact J243 4 _ _ _ hP hD hS (lv_sub hl [8, 7, 6, 5, 3] rfl) hf
            · have hf := hf.trans (if_pos h_25)
              refine lv_aload_n hx hb dX11_thumb_195 rfl (lv_at hl 8 rfl) ?_
              refine lv_iload_n hx hb dX11_thumb_196 rfl (lv_at hl 9 rfl) ?_
              refine lv_bipush (v := 9) hx hb dX11_thumb_197 (by decide) ?_
              refine lv_ishr hx hb dX11_thumb_199 ?_
              refine lv_bipush (v := 7) hx hb dX11_thumb_200 (by decide) ?_
              refine lv_iand hx hb dX11_thumb_202 ?_
              refine lv_iload_n hx hb dX11_thumb_203 rfl (lv_at hl 6 rfl) ?_
              refine lv_aload_n hx hb dX11_thumb_204 rfl (lv_at hl 8 rfl) ?_
              refine lv_iload hx hb dX11_thumb_205 (lv_at hl 5 rfl) ?_
              refine kc_Vr (rest := [.int (v0 &&& 7), .int ((v0 >>> ((9 : Int32) &&& 31)) &&& 7), .ref (gA G 20)]) (cy_Model_at l G σ ((v0 >>> ((3 : Int32) &&& 31)) &&& 7) (an7_16 _)) ⟨hx, hb, hml, hown, hts⟩ (cwV 1 hts (gi_V kw_753 kw_754 kw_755 kw_5 kw_756) rfl rfl rfl ⟨rfl, mdX11_at⟩ ⟨by decide, by decide⟩) (va_recv hK hP (ci := 9) (q0 := 0) rfl rfl) mZ_ok hK hP hD hS hA hZ rfl hl.1 rfl (Nat.le_of_ble_eq_true rfl) dX11_thumb_207 ⟨Nat.zero_le _, Nat.zero_le _⟩ (fun H locs hP hD hS => ?_)
              refine lv_aload_n hx hb dX11_thumb_210 rfl (lv_at hl 8 rfl) ?_
              refine lv_iload hx hb dX11_thumb_211 (lv_at hl 4 rfl) ?_
              refine kc_Vr (rest := [.int (y_Model_at σ ((v0 >>> ((3 : Int32) &&& 31)) &&& 7)), .int (v0 &&& 7), .int ((v0 >>> ((9 : Int32) &&& 31)) &&& 7), .ref (gA G 20)]) (cy_Model_at l G σ ((v0 >>> ((6 : Int32) &&& 31)) &&& 7) (an7_16 _)) ⟨hx, hb, hml, hown, hts⟩ (cwV 1 hts (gi_V kw_753 kw_754 kw_755 kw_5 kw_756) rfl rfl rfl ⟨rfl, mdX11_at⟩ ⟨by decide, by decide⟩) (va_recv hK hP (ci := 9) (q0 := 0) rfl rfl) mZ_ok hK hP hD hS hA hZ rfl hl.1 rfl (Nat.le_of_ble_eq_true rfl) dX11_thumb_213 ⟨Nat.zero_le _, Nat.zero_le _⟩ (fun H locs hP hD hS => ?_)
              refine lv_iadd hx hb dX11_thumb_216 ?_
              refine kc_Vv (rest := []) (cy_Model_byRegisters l G σ ((v0 >>> ((9 : Int32) &&& 31)) &&& 7) (v0 &&& 7) ((y_Model_at σ ((v0 >>> ((3 : Int32) &&& 31)) &&& 7)) + (y_Model_at σ ((v0 >>> ((6 : Int32) &&& 31)) &&& 7))) (an7_16 _)) ⟨hx, hb, hml, hown, hts⟩ (cwV 3 hts (gi_V kw_858 kw_859 kw_860 kw_5 kw_861) rfl rfl rfl ⟨rfl, mdX11_byRegisters⟩ ⟨by decide, by decide⟩) (va_recv hK hP (ci := 9) (q0 := 0) rfl rfl) mZ_ok hK hP hD hS hA hZ rfl hl.1 rfl (Nat.le_of_ble_eq_true rfl) dX11_thumb_217 ⟨Nat.zero_le _, Nat.zero_le _⟩ (fun H locs hP hD hS => ?_)
              refine lv_goto (tgt := 442) hx hb dX11_thumb_220 (by decide) ?_
              exact hret (y_Model_byRegisters σ ((v0 >>> ((9 : Int32) &&& 31)) &&& 7) (v0 &&& 7) ((y_Model_at σ ((v0 >>> ((3 : Int32) &&& 31)) &&& 7)) + (y_Model_at σ ((v0 >>> ((6 : Int32) &&& 31)) &&& 7)))) _ _ _ _ hf hP hD hS dX11_thumb_442
          · have hf := hf.trans (if_pos h_24)
            refine lv_aload_n hx hb dX11_thumb_163 rfl (lv_at hl 8 rfl) ?_
            refine lv_iconst (v := 1) hx hb dX11_thumb_164 (by decide) ?_
            refine lv_iconst (v := 4) hx hb dX11_thumb_165 (by decide) ?_
            refine lv_iload hx hb dX11_thumb_166 (lv_at hl 2 rfl) ?_
            refine lv_aload_n hx hb dX11_thumb_168 rfl (lv_at hl 8 rfl) ?_
            refine va_get (D := gD G) (ci := 9) hx hb hts ku_11 hown hK hP 0 rfl rfl 8 (by decide) (hts _ kw_726) (fun _ h9 => h9) rfl dX11_thumb_169 ?_
            refine lv_iconst (v := 4) hx hb dX11_thumb_172 (by decide) ?_
            refine lv_iadd hx hb dX11_thumb_173 ?_
            refine lv_bipush (v := (-4)) hx hb dX11_thumb_174 (by decide) ?_
            refine lv_iand hx hb dX11_thumb_176 ?_
            refine lv_iconst (v := 4) hx hb dX11_thumb_177 (by decide) ?_
            refine lv_iload hx hb dX11_thumb_178 (lv_at hl 1 rfl) ?_
            refine lv_imul hx hb dX11_thumb_180 ?_
            refine lv_iadd hx hb dX11_thumb_181 ?_
            refine lv_iconst (v := (-1)) hx hb dX11_thumb_182 (by decide) ?_
            refine lv_iconst (v := 0) hx hb dX11_thumb_183 (by decide) ?_
            refine kc_Vv (rest := []) (cy_Model_transfer l G σ true 4 ((v0 >>> ((8 : Int32) &&& 31)) &&& 7) ((((m_here σ) + 4) &&& (-4)) + (4 * (v0 &&& 255))) (-1) 0 (an7_16 _) (Or.inl rfl)) ⟨hx, hb, hml, hown, hts⟩ (cwV 6 hts (gi_V kw_838 kw_839 kw_840 kw_5 kw_841) rfl rfl rfl ⟨rfl, mdX11_transfer⟩ ⟨by decide, by decide⟩) (va_recv hK hP (ci := 9) (q0 := 0) rfl rfl) mZ_ok hK hP hD hS hA hZ rfl hl.1 rfl (Nat.le_of_ble_eq_true rfl) dX11_thumb_184 ⟨Nat.zero_le _, Nat.zero_le _⟩ (fun H locs hP hD hS => ?_)
            refine lv_goto (tgt := 442) hx hb dX11_thumb_187 (by decide) ?_
            exact hret (y_Model_transfer σ true 4 ((v0 >>> ((8 : Int32) &&& 31)) &&& 7) ((((m_here σ) + 4) &&& (-4)) + (4 * (v0 &&& 255))) (-1) 0) _ _ _ _ hf hP hD hS dX11_thumb_442
        · have hf := hf.trans (if_pos h_23)
          refine lv_aload_n hx hb dX11_thumb_146 rfl (lv_at hl 8 rfl) ?_
          refine lv_iload_n hx hb dX11_thumb_147 rfl (lv_at hl 9 rfl) ?_
          refine kc_Vv (rest := []) (cy_Model_highOnes l G σ v0) ⟨hx, hb, hml, hown, hts⟩ (cwV 1 hts (gi_V kw_818 kw_819 kw_820 kw_5 kw_821) rfl rfl rfl ⟨rfl, mdX11_highOnes⟩ ⟨by decide, by decide⟩) (va_recv hK hP (ci := 9) (q0 := 0) rfl rfl) mZ_ok hK hP hD hS hA hZ rfl hl.1 rfl (Nat.le_of_ble_eq_true rfl) dX11_thumb_148 ⟨Nat.zero_le _, Nat.zero_le _⟩ (fun H locs hP hD hS => ?_)
          refine lv_goto (tgt := 442) hx hb dX11_thumb_151 (by decide) ?_
          exact hret (y_Model_highOnes σ v0) _ _ _ _ hf hP hD hS dX11_thumb_442
      · have hf := hf.trans (if_pos h_22)
        refine lv_aload_n hx hb dX11_thumb_120 rfl (lv_at hl 8 rfl) ?_
        refine lv_iload_n hx hb dX11_thumb_121 rfl (lv_at hl 9 rfl) ?_
        refine lv_bipush (v := 6) hx hb dX11_thumb_122 (by decide) ?_
        refine lv_ishr hx hb dX11_thumb_124 ?_
        refine lv_bipush (v := 15) hx hb dX11_thumb_125 (by decide) ?_
        refine lv_iand hx hb dX11_thumb_127 ?_
        refine lv_iload_n hx hb dX11_thumb_128 rfl (lv_at hl 6 rfl) ?_
        refine lv_iload hx hb dX11_thumb_129 (lv_at hl 5 rfl) ?_
        refine kc_Vv (rest := []) (cy_Model_operations l G σ ((v0 >>> ((6 : Int32) &&& 31)) &&& 15) (v0 &&& 7) ((v0 >>> ((3 : Int32) &&& 31)) &&& 7) (an7_16 _) (an7_16 _)) ⟨hx, hb, hml, hown, hts⟩ (cwV 3 hts (gi_V kw_814 kw_815 kw_816 kw_5 kw_817) rfl rfl rfl ⟨rfl, mdX11_operations⟩ ⟨by decide, by decide⟩) (va_recv hK hP (ci := 9) (q0 := 0) rfl rfl) mZ_ok hK hP hD hS hA hZ rfl hl.1 rfl (Nat.le_of_ble_eq_true rfl) dX11_thumb_131 ⟨Nat.zero_le _, Nat.zero_le _⟩ (fun H locs hP hD hS => ?_)
        refine lv_goto (tgt := 442) hx hb dX11_thumb_134 (by decide) ?_
        exact hret (y_Model_operations σ ((v0 >>> ((6 : Int32) &&& 31)) &&& 15) (v0 &&& 7) ((v0 >>> ((3 : Int32) &&& 31)) &&& 7)) _ _ _ _ hf hP hD hS dX11_thumb_442
    · have hf := hf.trans (if_neg h_21)
      refine lv_aload_n hx hb dX11_thumb_94 rfl (lv_at hl 8 rfl) ?_
      refine lv_iload_n hx hb dX11_thumb_95 rfl (lv_at hl 9 rfl) ?_
      refine lv_bipush (v := 11) hx hb dX11_thumb_96 (by decide) ?_
      refine lv_ishr hx hb dX11_thumb_98 ?_
      refine lv_iconst (v := 3) hx hb dX11_thumb_99 (by decide) ?_
      refine lv_iand hx hb dX11_thumb_100 ?_
      refine lv_iload hx hb dX11_thumb_101 (lv_at hl 2 rfl) ?_
      refine lv_iload hx hb dX11_thumb_103 (lv_at hl 1 rfl) ?_
      refine kc_Vv (rest := []) (cy_Model_numbers l G σ ((v0 >>> ((11 : Int32) &&& 31)) &&& 3) ((v0 >>> ((8 : Int32) &&& 31)) &&& 7) (v0 &&& 255) (an7_16 _)) ⟨hx, hb, hml, hown, hts⟩ (cwV 3 hts (gi_V kw_810 kw_811 kw_812 kw_5 kw_813) rfl rfl rfl ⟨rfl, mdX11_numbers⟩ ⟨by decide, by decide⟩) (va_recv hK hP (ci := 9) (q0 := 0) rfl rfl) mZ_ok hK hP hD hS hA hZ rfl hl.1 rfl (Nat.le_of_ble_eq_true rfl) dX11_thumb_105 ⟨Nat.zero_le _, Nat.zero_le _⟩ (fun H locs hP hD hS => ?_)
      refine lv_goto (tgt := 442) hx hb dX11_thumb_108 (by decide) ?_
      exact hret (y_Model_numbers σ ((v0 >>> ((11 : Int32) &&& 31)) &&& 3) ((v0 >>> ((8 : Int32) &&& 31)) &&& 7) (v0 &&& 255)) _ _ _ _ hf hP hD hS dX11_thumb_442
  · have hf := hf.trans (if_neg h_20)
    refine lv_aload_n hx hb dX11_thumb_74 rfl (lv_at hl 8 rfl) ?_
    refine lv_iload_n hx hb dX11_thumb_75 rfl (lv_at hl 9 rfl) ?_
    refine lv_iload_n hx hb dX11_thumb_76 rfl (lv_at hl 6 rfl) ?_
    refine lv_iload hx hb dX11_thumb_77 (lv_at hl 5 rfl) ?_
    refine lv_iload hx hb dX11_thumb_79 (lv_at hl 4 rfl) ?_
    refine lv_iload hx hb dX11_thumb_81 (lv_at hl 3 rfl) ?_
    refine kc_Vv (rest := []) (cy_Model_early l G σ v0 (v0 &&& 7) ((v0 >>> ((3 : Int32) &&& 31)) &&& 7) ((v0 >>> ((6 : Int32) &&& 31)) &&& 7) ((v0 >>> ((6 : Int32) &&& 31)) &&& 31) (an7_16 _) (an7_16 _) (an7_16 _)) ⟨hx, hb, hml, hown, hts⟩ (cwV 5 hts (gi_V kw_749 kw_750 kw_751 kw_5 kw_752) rfl rfl rfl ⟨rfl, mdX11_early⟩ ⟨by decide, by decide⟩) (va_recv hK hP (ci := 9) (q0 := 0) rfl rfl) mZ_ok hK hP hD hS hA hZ rfl hl.1 rfl (Nat.le_of_ble_eq_true rfl) dX11_thumb_83 ⟨Nat.zero_le _, Nat.zero_le _⟩ (fun H locs hP hD hS => ?_)
    refine lv_goto (tgt := 442) hx hb dX11_thumb_86 (by decide) ?_
    exact hret (y_Model_early σ v0 (v0 &&& 7) ((v0 >>> ((3 : Int32) &&& 31)) &&& 7) ((v0 >>> ((6 : Int32) &&& 31)) &&& 7) ((v0 >>> ((6 : Int32) &&& 31)) &&& 31)) _ _ _ _ hf hP hD hS dX11_thumb_442
