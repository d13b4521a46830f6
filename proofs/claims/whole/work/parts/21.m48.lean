def y_Model_byRegisters_60 (σ : MS) (v0 : Int32) (v1 : Int32) (v2 : Int32) (k0_60 : Int32) : MS := y_Model_transfer σ (decide (¬ v0 ≤ 2)) k0_60 v1 v2 (-1) 0
def y_Model_byRegisters_21 (σ : MS) (v0 : Int32) (v1 : Int32) (v2 : Int32) : MS := y_Model_byRegisters_60 σ v0 v1 v2 4
def y_Model_byRegisters_35 (σ : MS) (v0 : Int32) (v1 : Int32) (v2 : Int32) : MS := y_Model_byRegisters_60 σ v0 v1 v2 2
def y_Model_byRegisters (σ : MS) (v0 : Int32) (v1 : Int32) (v2 : Int32) : MS := (if v0 = 0 then y_Model_byRegisters_21 σ v0 v1 v2 else (if v0 = 4 then y_Model_byRegisters_21 σ v0 v1 v2 else (if v0 = 1 then y_Model_byRegisters_35 σ v0 v1 v2 else (if v0 = 5 then y_Model_byRegisters_35 σ v0 v1 v2 else (if v0 = 3 then y_Model_byRegisters_60 σ v0 v1 v2 (-1) else (if v0 = 7 then y_Model_byRegisters_60 σ v0 v1 v2 (-2) else y_Model_byRegisters_60 σ v0 v1 v2 1))))))
set_option maxRecDepth 20000 in
set_option maxHeartbeats 4000000 in
theorem cy_Model_byRegisters (l : Launch) (G : KG) (σ : MS) (v0 : Int32) (v1 : Int32) (v2 : Int32) (hv1 : vp_in v1 16) : KV l yX11_byRegisters (Cond.code yX11_byRegisters cX11_byRegisters 6 none :: lw_all) (kr 5) (gD G) vwCl (gT G) (mZ G) (mW G) [.ref (gA G 20), .int v0, .int v1, .int v2] σ (y_Model_byRegisters σ v0 v1 v2) := by
  refine kc_in_v (q := y_Model_byRegisters σ v0 v1 v2) (by decide) rfl (Nat.le_of_ble_eq_true rfl) ?_
  intro p e s m args below meth c A Q ls hx hb hml hown hts hK hP hD hA hS hZ hl hret
  have hts := fun w h => hts w (List.mem_cons_of_mem _ h)
  have hl : lv_has ls 6 [(0, .ref (gA G 20)), (1, .int v0), (2, .int v1), (3, .int v2)] := hl
  have hf : y_Model_byRegisters σ v0 v1 v2 = y_Model_byRegisters σ v0 v1 v2 := rfl
  have J60 : ∀ (k0_60 : Int32) (H : Heap) (locs : List Loc) (ls : Array Slot), va_P (gD G) vwCl (mW G (σ)) H → va_D A (mW G (σ)) → va_S A s.heap H locs → lv_has ls 6 [(0, .ref (gA G 20)), (2, .int v1), (3, .int v2), (4, .int (b01 (decide (¬ v0 ≤ 2))))] → y_Model_byRegisters σ v0 v1 v2 = y_Model_byRegisters_60 σ v0 v1 v2 k0_60 → W p l e (kr 5) s m args below meth c H locs 0 0 Q (F0 m 60 ls [.int k0_60]) := by
    intro k0_60 H locs ls hP hD hS hl hf
    refine lv_istore (lv' := [(5, .int k0_60), (0, .ref (gA G 20)), (2, .int v1), (3, .int v2), (4, .int (b01 (decide (¬ v0 ≤ 2))))]) hx hb dX11_byRegisters_60 hl (by decide) rfl (fun ls hl => ?_)
    refine lv_aload_n hx hb dX11_byRegisters_62 rfl (lv_at hl 1 rfl) ?_
    refine lv_iload hx hb dX11_byRegisters_63 (lv_at hl 4 rfl) ?_
    refine lv_iload hx hb dX11_byRegisters_65 (lv_at hl 0 rfl) ?_
    refine lv_iload_n hx hb dX11_byRegisters_67 rfl (lv_at hl 2 rfl) ?_
    refine lv_iload_n hx hb dX11_byRegisters_68 rfl (lv_at hl 3 rfl) ?_
    refine lv_iconst (v := (-1)) hx hb dX11_byRegisters_69 (by decide) ?_
    refine lv_iconst (v := 0) hx hb dX11_byRegisters_70 (by decide) ?_
    refine kc_Vv (rest := []) (cy_Model_transfer l G σ (decide (¬ v0 ≤ 2)) k0_60 v1 v2 (-1) 0 hv1 (Or.inl rfl)) ⟨hx, hb, hml, hown, hts⟩ (cwV 6 hts (gi_V kw_838 kw_839 kw_840 kw_5 kw_841) rfl rfl rfl ⟨rfl, mdX11_transfer⟩ ⟨by decide, by decide⟩) (va_recv hK hP (ci := 9) (q0 := 0) rfl rfl) mZ_ok hK hP hD hS hA hZ rfl hl.1 rfl (Nat.le_of_ble_eq_true rfl) dX11_byRegisters_71 ⟨Nat.zero_le _, Nat.zero_le _⟩ (fun H locs hP hD hS => ?_)
    exact hret (y_Model_transfer σ (decide (¬ v0 ≤ 2)) k0_60 v1 v2 (-1) 0) _ _ _ _ hf hP hD hS dX11_byRegisters_74
  have J21 : ∀ (H : Heap) (locs : List Loc) (ls : Array Slot), va_P (gD G) vwCl (mW G (σ)) H → va_D A (mW G (σ)) → va_S A s.heap H locs → lv_has ls 6 [(0, .ref (gA G 20)), (2, .int v1), (3, .int v2), (4, .int (b01 (decide (¬ v0 ≤ 2))))] → y_Model_byRegisters σ v0 v1 v2 = y_Model_byRegisters_21 σ v0 v1 v2 → W p l e (kr 5) s m args below meth c H locs 0 0 Q (F0 m 21 ls []) := by
    intro H locs ls hP hD hS hl hf
    refine lv_iconst (v := 4) hx hb dX11_byRegisters_21 (by decide) ?_
    refine lv_goto (tgt := 60) hx hb dX11_byRegisters_22 (by decide) ?_
    exact J60 4 _ _ _ hP hD hS (lv_sub hl [0, 1, 2, 3] rfl) hf
  have J35 : ∀ (H : Heap) (locs : List Loc) (ls : Array Slot), va_P (gD G) vwCl (mW G (σ)) H → va_D A (mW G (σ)) → va_S A s.heap H locs → lv_has ls 6 [(0, .ref (gA G 20)), (2, .int v1), (3, .int v2), (4, .int (b01 (decide (¬ v0 ≤ 2))))] → y_Model_byRegisters σ v0 v1 v2 = y_Model_byRegisters_35 σ v0 v1 v2 → W p l e (kr 5) s m args below meth c H locs 0 0 Q (F0 m 35 ls []) := by
    intro H locs ls hP hD hS hl hf
    refine lv_iconst (v := 2) hx hb dX11_byRegisters_35 (by decide) ?_
    refine lv_goto (tgt := 60) hx hb dX11_byRegisters_36 (by decide) ?_
    exact J60 2 _ _ _ hP hD hS (lv_sub hl [0, 1, 2, 3] rfl) hf
  refine lv_iload_n hx hb dX11_byRegisters_0 rfl (lv_at hl 1 rfl) ?_
  refine lv_iconst (v := 2) hx hb dX11_byRegisters_1 (by decide) ?_
  refine kz_dP0 (P := v0 ≤ 2) (tgt := 9) (M := 10) (fun a b => lv_icmp_le (tgt := 9) hx hb dX11_byRegisters_2 (by decide) a b) hx hb dX11_byRegisters_5 dX11_byRegisters_6 (by decide) dX11_byRegisters_9 rfl ?_
  refine lv_istore (lv' := [(4, .int (b01 (decide (¬ v0 ≤ 2)))), (0, .ref (gA G 20)), (1, .int v0), (2, .int v1), (3, .int v2)]) hx hb dX11_byRegisters_10 hl (by decide) rfl (fun ls hl => ?_)
  refine lv_iload_n hx hb dX11_byRegisters_12 rfl (lv_at hl 2 rfl) ?_
  refine lv_if_eq (tgt := 21) hx hb dX11_byRegisters_13 (by decide) (fun h_9 => ?_) (fun h_9 => ?_)
  · have hf := hf.trans (if_pos h_9)
    exact J21 _ _ _ hP hD hS (lv_sub hl [1, 3, 4, 0] rfl) hf
  · have hf := hf.trans (if_neg h_9)
    refine lv_iload_n hx hb dX11_byRegisters_16 rfl (lv_at hl 2 rfl) ?_
    refine lv_iconst (v := 4) hx hb dX11_byRegisters_17 (by decide) ?_
    refine lv_icmp_ne (tgt := 25) hx hb dX11_byRegisters_18 (by decide) (fun h_10 => ?_) (fun h_10 => ?_)
    · have hf := hf.trans (if_neg h_10)
      refine lv_iload_n hx hb dX11_byRegisters_25 rfl (lv_at hl 2 rfl) ?_
      refine lv_iconst (v := 1) hx hb dX11_byRegisters_26 (by decide) ?_
      refine lv_icmp_eq (tgt := 35) hx hb dX11_byRegisters_27 (by decide) (fun h_11 => ?_) (fun h_11 => ?_)
      · have hf := hf.trans (if_pos h_11)
        exact J35 _ _ _ hP hD hS (lv_sub hl [1, 3, 4, 0] rfl) hf
      · have hf := hf.trans (if_neg h_11)
        refine lv_iload_n hx hb dX11_byRegisters_30 rfl (lv_at hl 2 rfl) ?_
        refine lv_iconst (v := 5) hx hb dX11_byRegisters_31 (by decide) ?_
        refine lv_icmp_ne (tgt := 39) hx hb dX11_byRegisters_32 (by decide) (fun h_12 => ?_) (fun h_12 => ?_)
        · have hf := hf.trans (if_neg h_12)
          refine lv_iload_n hx hb dX11_byRegisters_39 rfl (lv_at hl 2 rfl) ?_
          refine lv_iconst (v := 3) hx hb dX11_byRegisters_40 (by decide) ?_
          refine lv_icmp_ne (tgt := 48) hx hb dX11_byRegisters_41 (by decide) (fun h_13 => ?_) (fun h_13 => ?_)
          · have hf := hf.trans (if_neg h_13)
            refine lv_iload_n hx hb dX11_byRegisters_48 rfl (lv_at hl 2 rfl) ?_
            refine lv_bipush (v := 7) hx hb dX11_byRegisters_49 (by decide) ?_
            refine lv_icmp_ne (tgt := 59) hx hb dX11_byRegisters_51 (by decide) (fun h_14 => ?_) (fun h_14 => ?_)
            · have hf := hf.trans (if_neg h_14)
              refine lv_iconst (v := 1) hx hb dX11_byRegisters_59 (by decide) ?_
              exact J60 1 _ _ _ hP hD hS (lv_sub hl [1, 3, 4, 0] rfl) hf
            · have hf := hf.trans (if_pos h_14)
              refine lv_bipush (v := (-2)) hx hb dX11_byRegisters_54 (by decide) ?_
              refine lv_goto (tgt := 60) hx hb dX11_byRegisters_56 (by decide) ?_
              exact J60 (-2) _ _ _ hP hD hS (lv_sub hl [1, 3, 4, 0] rfl) hf
          · have hf := hf.trans (if_pos h_13)
            refine lv_iconst (v := (-1)) hx hb dX11_byRegisters_44 (by decide) ?_
            refine lv_goto (tgt := 60) hx hb dX11_byRegisters_45 (by decide) ?_
            exact J60 (-1) _ _ _ hP hD hS (lv_sub hl [1, 3, 4, 0] rfl) hf
        · have hf := hf.trans (if_pos h_12)
          exact J35 _ _ _ hP hD hS (lv_sub hl [1, 3, 4, 0] rfl) hf
    · have hf := hf.trans (if_pos h_10)
      exact J21 _ _ _ hP hD hS (lv_sub hl [1, 3, 4, 0] rfl) hf
