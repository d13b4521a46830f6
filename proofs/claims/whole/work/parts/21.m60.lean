def y_Model_indexed_115 (σ : MS) (v0 : Int32) (v1 : Int32) (v2 : Int32) (k0_55 : Int32) (k0_77 : Bool) (k0_115 : Int32) : MS := (if k0_77 = true then y_Model_transfer σ (decide (((v0 >>> ((20 : Int32) &&& 31)) &&& 1) = 1)) v1 ((v0 >>> ((12 : Int32) &&& 31)) &&& 15) k0_115 ((v0 >>> ((16 : Int32) &&& 31)) &&& 15) k0_55 else y_Model_transfer σ (decide (((v0 >>> ((20 : Int32) &&& 31)) &&& 1) = 1)) v1 ((v0 >>> ((12 : Int32) &&& 31)) &&& 15) k0_115 (-1) k0_55)
def y_Model_indexed_77 (σ : MS) (v0 : Int32) (v1 : Int32) (v2 : Int32) (k0_55 : Int32) (k0_77 : Bool) : MS := (if (decide (((v0 >>> ((24 : Int32) &&& 31)) &&& 1) = 1)) = true then y_Model_indexed_115 σ v0 v1 v2 k0_55 k0_77 k0_55 else y_Model_indexed_115 σ v0 v1 v2 k0_55 k0_77 (y_Model_value σ ((v0 >>> ((16 : Int32) &&& 31)) &&& 15)))
def y_Model_indexed_72 (σ : MS) (v0 : Int32) (v1 : Int32) (v2 : Int32) (k0_55 : Int32) : MS := y_Model_indexed_77 σ v0 v1 v2 k0_55 true
def y_Model_indexed_55 (σ : MS) (v0 : Int32) (v1 : Int32) (v2 : Int32) (k0_55 : Int32) : MS := (if (decide (((v0 >>> ((24 : Int32) &&& 31)) &&& 1) = 1)) = true then (if ((v0 >>> ((21 : Int32) &&& 31)) &&& 1) = 1 then y_Model_indexed_72 σ v0 v1 v2 k0_55 else y_Model_indexed_77 σ v0 v1 v2 k0_55 false) else y_Model_indexed_72 σ v0 v1 v2 k0_55)
def y_Model_indexed (σ : MS) (v0 : Int32) (v1 : Int32) (v2 : Int32) : MS := (if ((v0 >>> ((23 : Int32) &&& 31)) &&& 1) = 1 then y_Model_indexed_55 σ v0 v1 v2 ((y_Model_value σ ((v0 >>> ((16 : Int32) &&& 31)) &&& 15)) + v2) else y_Model_indexed_55 σ v0 v1 v2 ((y_Model_value σ ((v0 >>> ((16 : Int32) &&& 31)) &&& 15)) - v2))
set_option maxRecDepth 20000 in
set_option maxHeartbeats 4000000 in
theorem cy_Model_indexed (l : Launch) (G : KG) (σ : MS) (v0 : Int32) (v1 : Int32) (v2 : Int32) : KV l yX11_indexed (Cond.code yX11_indexed cX11_indexed 9 none :: lw_all) (kr 5) (gD G) vwCl (gT G) (mZ G) (mW G) [.ref (gA G 20), .int v0, .int v1, .int v2] σ (y_Model_indexed σ v0 v1 v2) := by
  refine kc_in_v (q := y_Model_indexed σ v0 v1 v2) (by decide) rfl (Nat.le_of_ble_eq_true rfl) ?_
  intro p e s m args below meth c A Q ls hx hb hml hown hts hK hP hD hA hS hZ hl hret
  have hts := fun w h => hts w (List.mem_cons_of_mem _ h)
  have hl : lv_has ls 9 [(0, .ref (gA G 20)), (1, .int v0), (2, .int v1), (3, .int v2)] := hl
  have hf : y_Model_indexed σ v0 v1 v2 = y_Model_indexed σ v0 v1 v2 := rfl
  have J115 : ∀ (k0_55 : Int32) (k0_77 : Bool) (k0_115 : Int32) (H : Heap) (locs : List Loc) (ls : Array Slot), va_P (gD G) vwCl (mW G (σ)) H → va_D A (mW G (σ)) → va_S A s.heap H locs → lv_has ls 9 [(4, .int ((v0 >>> ((16 : Int32) &&& 31)) &&& 15)), (7, .int k0_55), (8, .int (b01 k0_77))] → y_Model_indexed σ v0 v1 v2 = y_Model_indexed_115 σ v0 v1 v2 k0_55 k0_77 k0_115 → W p l e (kr 5) s m args below meth c H locs 0 0 Q (F0 m 115 ls [.int k0_115, .int ((v0 >>> ((12 : Int32) &&& 31)) &&& 15), .int v1, .int (b01 (decide (((v0 >>> ((20 : Int32) &&& 31)) &&& 1) = 1))), .ref (gA G 20)]) := by
    intro k0_55 k0_77 k0_115 H locs ls hP hD hS hl hf
    refine lv_iload hx hb dX11_indexed_115 (lv_at hl 2 rfl) ?_
    refine kz_eq (tgt := 125) hx hb dX11_indexed_117 (by decide) (fun h_8 => ?_) (fun h_8 => ?_)
    · have hf := hf.trans (if_neg h_8)
      refine lv_iconst (v := (-1)) hx hb dX11_indexed_125 (by decide) ?_
      refine lv_iload hx hb dX11_indexed_126 (lv_at hl 1 rfl) ?_
      refine kc_Vv (rest := []) (cy_Model_transfer l G σ (decide (((v0 >>> ((20 : Int32) &&& 31)) &&& 1) = 1)) v1 ((v0 >>> ((12 : Int32) &&& 31)) &&& 15) k0_115 (-1) k0_55 (pk_andIn _ 4 (by decide) (by decide)) (Or.inl rfl)) ⟨hx, hb, hml, hown, hts⟩ (cwV 6 hts (gi_V kw_838 kw_839 kw_840 kw_5 kw_841) rfl rfl rfl ⟨rfl, mdX11_transfer⟩ ⟨by decide, by decide⟩) (va_recv hK hP (ci := 9) (q0 := 0) rfl rfl) mZ_ok hK hP hD hS hA hZ rfl hl.1 rfl (Nat.le_of_ble_eq_true rfl) dX11_indexed_128 ⟨Nat.zero_le _, Nat.zero_le _⟩ (fun H locs hP hD hS => ?_)
      exact hret (y_Model_transfer σ (decide (((v0 >>> ((20 : Int32) &&& 31)) &&& 1) = 1)) v1 ((v0 >>> ((12 : Int32) &&& 31)) &&& 15) k0_115 (-1) k0_55) _ _ _ _ hf hP hD hS dX11_indexed_131
    · have hf := hf.trans (if_pos h_8)
      refine lv_iload hx hb dX11_indexed_120 (lv_at hl 0 rfl) ?_
      refine lv_goto (tgt := 126) hx hb dX11_indexed_122 (by decide) ?_
      refine lv_iload hx hb dX11_indexed_126 (lv_at hl 1 rfl) ?_
      refine kc_Vv (rest := []) (cy_Model_transfer l G σ (decide (((v0 >>> ((20 : Int32) &&& 31)) &&& 1) = 1)) v1 ((v0 >>> ((12 : Int32) &&& 31)) &&& 15) k0_115 ((v0 >>> ((16 : Int32) &&& 31)) &&& 15) k0_55 (pk_andIn _ 4 (by decide) (by decide)) (Or.inr (pk_andIn _ 4 (by decide) (by decide)))) ⟨hx, hb, hml, hown, hts⟩ (cwV 6 hts (gi_V kw_838 kw_839 kw_840 kw_5 kw_841) rfl rfl rfl ⟨rfl, mdX11_transfer⟩ ⟨by decide, by decide⟩) (va_recv hK hP (ci := 9) (q0 := 0) rfl rfl) mZ_ok hK hP hD hS hA hZ rfl hl.1 rfl (Nat.le_of_ble_eq_true rfl) dX11_indexed_128 ⟨Nat.zero_le _, Nat.zero_le _⟩ (fun H locs hP hD hS => ?_)
      exact hret (y_Model_transfer σ (decide (((v0 >>> ((20 : Int32) &&& 31)) &&& 1) = 1)) v1 ((v0 >>> ((12 : Int32) &&& 31)) &&& 15) k0_115 ((v0 >>> ((16 : Int32) &&& 31)) &&& 15) k0_55) _ _ _ _ hf hP hD hS dX11_indexed_131
  have J77 : ∀ (k0_55 : Int32) (k0_77 : Bool) (H : Heap) (locs : List Loc) (ls : Array Slot), va_P (gD G) vwCl (mW G (σ)) H → va_D A (mW G (σ)) → va_S A s.heap H locs → lv_has ls 9 [(0, .ref (gA G 20)), (1, .int v0), (2, .int v1), (4, .int ((v0 >>> ((16 : Int32) &&& 31)) &&& 15)), (5, .int (b01 (decide (((v0 >>> ((24 : Int32) &&& 31)) &&& 1) = 1)))), (6, .int (y_Model_value σ ((v0 >>> ((16 : Int32) &&& 31)) &&& 15))), (7, .int k0_55)] → y_Model_indexed σ v0 v1 v2 = y_Model_indexed_77 σ v0 v1 v2 k0_55 k0_77 → W p l e (kr 5) s m args below meth c H locs 0 0 Q (F0 m 77 ls [.int (b01 k0_77)]) := by
    intro k0_55 k0_77 H locs ls hP hD hS hl hf
    refine lv_istore (lv' := [(8, .int (b01 k0_77)), (0, .ref (gA G 20)), (1, .int v0), (2, .int v1), (4, .int ((v0 >>> ((16 : Int32) &&& 31)) &&& 15)), (5, .int (b01 (decide (((v0 >>> ((24 : Int32) &&& 31)) &&& 1) = 1)))), (6, .int (y_Model_value σ ((v0 >>> ((16 : Int32) &&& 31)) &&& 15))), (7, .int k0_55)]) hx hb dX11_indexed_77 hl (by decide) rfl (fun ls hl => ?_)
    refine lv_aload_n hx hb dX11_indexed_79 rfl (lv_at hl 1 rfl) ?_
    refine lv_iload_n hx hb dX11_indexed_80 rfl (lv_at hl 2 rfl) ?_
    refine lv_bipush (v := 20) hx hb dX11_indexed_81 (by decide) ?_
    refine lv_ishr hx hb dX11_indexed_83 ?_
    refine lv_iconst (v := 1) hx hb dX11_indexed_84 (by decide) ?_
    refine lv_iand hx hb dX11_indexed_85 ?_
    refine lv_iconst (v := 1) hx hb dX11_indexed_86 (by decide) ?_
    refine kz_dN0 (P := ((v0 >>> ((20 : Int32) &&& 31)) &&& 1) = 1) (tgt := 94) (M := 95) (fun a b => lv_icmp_ne (tgt := 94) hx hb dX11_indexed_87 (by decide) a b) hx hb dX11_indexed_90 dX11_indexed_91 (by decide) dX11_indexed_94 rfl ?_
    refine lv_iload_n hx hb dX11_indexed_95 rfl (lv_at hl 3 rfl) ?_
    refine lv_iload_n hx hb dX11_indexed_96 rfl (lv_at hl 2 rfl) ?_
    refine lv_bipush (v := 12) hx hb dX11_indexed_97 (by decide) ?_
    refine lv_ishr hx hb dX11_indexed_99 ?_
    refine lv_bipush (v := 15) hx hb dX11_indexed_100 (by decide) ?_
    refine lv_iand hx hb dX11_indexed_102 ?_
    refine lv_iload hx hb dX11_indexed_103 (lv_at hl 5 rfl) ?_
    refine kz_eq (tgt := 113) hx hb dX11_indexed_105 (by decide) (fun h_10 => ?_) (fun h_10 => ?_)
    · have hf := hf.trans (if_neg h_10)
      refine lv_iload hx hb dX11_indexed_113 (lv_at hl 6 rfl) ?_
      exact J115 k0_55 k0_77 (y_Model_value σ ((v0 >>> ((16 : Int32) &&& 31)) &&& 15)) _ _ _ hP hD hS (lv_sub hl [4, 7, 0] rfl) hf
    · have hf := hf.trans (if_pos h_10)
      refine lv_iload hx hb dX11_indexed_108 (lv_at hl 7 rfl) ?_
      refine lv_goto (tgt := 115) hx hb dX11_indexed_110 (by decide) ?_
      exact J115 k0_55 k0_77 k0_55 _ _ _ hP hD hS (lv_sub hl [4, 7, 0] rfl) hf
  have J72 : ∀ (k0_55 : Int32) (H : Heap) (locs : List Loc) (ls : Array Slot), va_P (gD G) vwCl (mW G (σ)) H → va_D A (mW G (σ)) → va_S A s.heap H locs → lv_has ls 9 [(0, .ref (gA G 20)), (1, .int v0), (2, .int v1), (4, .int ((v0 >>> ((16 : Int32) &&& 31)) &&& 15)), (5, .int (b01 (decide (((v0 >>> ((24 : Int32) &&& 31)) &&& 1) = 1)))), (6, .int (y_Model_value σ ((v0 >>> ((16 : Int32) &&& 31)) &&& 15))), (7, .int k0_55)] → y_Model_indexed σ v0 v1 v2 = y_Model_indexed_72 σ v0 v1 v2 k0_55 → W p l e (kr 5) s m args below meth c H locs 0 0 Q (F0 m 72 ls []) := by
    intro k0_55 H locs ls hP hD hS hl hf
    refine lv_iconst (v := 1) hx hb dX11_indexed_72 (by decide) ?_
    refine lv_goto (tgt := 77) hx hb dX11_indexed_73 (by decide) ?_
    exact J77 k0_55 true _ _ _ hP hD hS (lv_sub hl [0, 1, 2, 3, 4, 5, 6] rfl) hf
  have J55 : ∀ (k0_55 : Int32) (H : Heap) (locs : List Loc) (ls : Array Slot), va_P (gD G) vwCl (mW G (σ)) H → va_D A (mW G (σ)) → va_S A s.heap H locs → lv_has ls 9 [(0, .ref (gA G 20)), (1, .int v0), (2, .int v1), (4, .int ((v0 >>> ((16 : Int32) &&& 31)) &&& 15)), (5, .int (b01 (decide (((v0 >>> ((24 : Int32) &&& 31)) &&& 1) = 1)))), (6, .int (y_Model_value σ ((v0 >>> ((16 : Int32) &&& 31)) &&& 15)))] → y_Model_indexed σ v0 v1 v2 = y_Model_indexed_55 σ v0 v1 v2 k0_55 → W p l e (kr 5) s m args below meth c H locs 0 0 Q (F0 m 55 ls [.int k0_55]) := by
    intro k0_55 H locs ls hP hD hS hl hf
    refine lv_istore (lv' := [(7, .int k0_55), (0, .ref (gA G 20)), (1, .int v0), (2, .int v1), (4, .int ((v0 >>> ((16 : Int32) &&& 31)) &&& 15)), (5, .int (b01 (decide (((v0 >>> ((24 : Int32) &&& 31)) &&& 1) = 1)))), (6, .int (y_Model_value σ ((v0 >>> ((16 : Int32) &&& 31)) &&& 15)))]) hx hb dX11_indexed_55 hl (by decide) rfl (fun ls hl => ?_)
    refine lv_iload hx hb dX11_indexed_57 (lv_at hl 5 rfl) ?_
    refine kz_eq (tgt := 72) hx hb dX11_indexed_59 (by decide) (fun h_11 => ?_) (fun h_11 => ?_)
    · have hf := hf.trans (if_neg h_11)
      exact J72 k0_55 _ _ _ hP hD hS (lv_sub hl [1, 2, 3, 4, 5, 6, 0] rfl) hf
    · have hf := hf.trans (if_pos h_11)
      refine lv_iload_n hx hb dX11_indexed_62 rfl (lv_at hl 2 rfl) ?_
      refine lv_bipush (v := 21) hx hb dX11_indexed_63 (by decide) ?_
      refine lv_ishr hx hb dX11_indexed_65 ?_
      refine lv_iconst (v := 1) hx hb dX11_indexed_66 (by decide) ?_
      refine lv_iand hx hb dX11_indexed_67 ?_
      refine lv_iconst (v := 1) hx hb dX11_indexed_68 (by decide) ?_
      refine lv_icmp_ne (tgt := 76) hx hb dX11_indexed_69 (by decide) (fun h_12 => ?_) (fun h_12 => ?_)
      · have hf := hf.trans (if_neg h_12)
        refine lv_iconst (v := 0) hx hb dX11_indexed_76 (by decide) ?_
        exact J77 k0_55 false _ _ _ hP hD hS (lv_sub hl [1, 2, 3, 4, 5, 6, 0] rfl) hf
      · have hf := hf.trans (if_pos h_12)
        exact J72 k0_55 _ _ _ hP hD hS (lv_sub hl [1, 2, 3, 4, 5, 6, 0] rfl) hf
  refine lv_iload_n hx hb dX11_indexed_0 rfl (lv_at hl 1 rfl) ?_
  refine lv_bipush (v := 16) hx hb dX11_indexed_1 (by decide) ?_
  refine lv_ishr hx hb dX11_indexed_3 ?_
  refine lv_bipush (v := 15) hx hb dX11_indexed_4 (by decide) ?_
  refine lv_iand hx hb dX11_indexed_6 ?_
  refine lv_istore (lv' := [(4, .int ((v0 >>> ((16 : Int32) &&& 31)) &&& 15)), (0, .ref (gA G 20)), (1, .int v0), (2, .int v1), (3, .int v2)]) hx hb dX11_indexed_7 hl (by decide) rfl (fun ls hl => ?_)
  refine lv_iload_n hx hb dX11_indexed_9 rfl (lv_at hl 2 rfl) ?_
  refine lv_bipush (v := 24) hx hb dX11_indexed_10 (by decide) ?_
  refine lv_ishr hx hb dX11_indexed_12 ?_
  refine lv_iconst (v := 1) hx hb dX11_indexed_13 (by decide) ?_
  refine lv_iand hx hb dX11_indexed_14 ?_
  refine lv_iconst (v := 1) hx hb dX11_indexed_15 (by decide) ?_
  refine kz_dN0 (P := ((v0 >>> ((24 : Int32) &&& 31)) &&& 1) = 1) (tgt := 23) (M := 24) (fun a b => lv_icmp_ne (tgt := 23) hx hb dX11_indexed_16 (by decide) a b) hx hb dX11_indexed_19 dX11_indexed_20 (by decide) dX11_indexed_23 rfl ?_
  refine lv_istore (lv' := [(5, .int (b01 (decide (((v0 >>> ((24 : Int32) &&& 31)) &&& 1) = 1)))), (4, .int ((v0 >>> ((16 : Int32) &&& 31)) &&& 15)), (0, .ref (gA G 20)), (1, .int v0), (2, .int v1), (3, .int v2)]) hx hb dX11_indexed_24 hl (by decide) rfl (fun ls hl => ?_)
  refine lv_aload_n hx hb dX11_indexed_26 rfl (lv_at hl 2 rfl) ?_
  refine lv_iload hx hb dX11_indexed_27 (lv_at hl 1 rfl) ?_
  refine kc_Vr (rest := []) (cy_Model_value l G σ ((v0 >>> ((16 : Int32) &&& 31)) &&& 15) (pk_andIn _ 4 (by decide) (by decide))) ⟨hx, hb, hml, hown, hts⟩ (cwV 1 hts (gi_V kw_826 kw_827 kw_828 kw_5 kw_829) rfl rfl rfl ⟨rfl, mdX11_value⟩ ⟨by decide, by decide⟩) (va_recv hK hP (ci := 9) (q0 := 0) rfl rfl) mZ_ok hK hP hD hS hA hZ rfl hl.1 rfl (Nat.le_of_ble_eq_true rfl) dX11_indexed_29 ⟨Nat.zero_le _, Nat.zero_le _⟩ (fun H locs hP hD hS => ?_)
  refine lv_istore (lv' := [(6, .int (y_Model_value σ ((v0 >>> ((16 : Int32) &&& 31)) &&& 15))), (5, .int (b01 (decide (((v0 >>> ((24 : Int32) &&& 31)) &&& 1) = 1)))), (4, .int ((v0 >>> ((16 : Int32) &&& 31)) &&& 15)), (0, .ref (gA G 20)), (1, .int v0), (2, .int v1), (3, .int v2)]) hx hb dX11_indexed_32 hl (by decide) rfl (fun ls hl => ?_)
  refine lv_iload_n hx hb dX11_indexed_34 rfl (lv_at hl 4 rfl) ?_
  refine lv_bipush (v := 23) hx hb dX11_indexed_35 (by decide) ?_
  refine lv_ishr hx hb dX11_indexed_37 ?_
  refine lv_iconst (v := 1) hx hb dX11_indexed_38 (by decide) ?_
  refine lv_iand hx hb dX11_indexed_39 ?_
  refine lv_iconst (v := 1) hx hb dX11_indexed_40 (by decide) ?_
  refine lv_icmp_ne (tgt := 51) hx hb dX11_indexed_41 (by decide) (fun h_14 => ?_) (fun h_14 => ?_)
  · have hf := hf.trans (if_neg h_14)
    refine lv_iload hx hb dX11_indexed_51 (lv_at hl 0 rfl) ?_
    refine lv_iload_n hx hb dX11_indexed_53 rfl (lv_at hl 6 rfl) ?_
    refine lv_isub hx hb dX11_indexed_54 ?_
    exact J55 ((y_Model_value σ ((v0 >>> ((16 : Int32) &&& 31)) &&& 15)) - v2) _ _ _ hP hD hS (lv_sub hl [3, 4, 5, 2, 1, 0] rfl) hf
  · have hf := hf.trans (if_pos h_14)
    refine lv_iload hx hb dX11_indexed_44 (lv_at hl 0 rfl) ?_
    refine lv_iload_n hx hb dX11_indexed_46 rfl (lv_at hl 6 rfl) ?_
    refine lv_iadd hx hb dX11_indexed_47 ?_
    refine lv_goto (tgt := 55) hx hb dX11_indexed_48 (by decide) ?_
    exact J55 ((y_Model_value σ ((v0 >>> ((16 : Int32) &&& 31)) &&& 15)) + v2) _ _ _ hP hD hS (lv_sub hl [3, 4, 5, 2, 1, 0] rfl) hf
