def x_Registers_bankOf (v0 : Int32) : Int32 := (if v0 = 16 then 0 else (if v0 = 17 then 1 else (if v0 = 18 then 2 else (if v0 = 19 then 3 else (if v0 = 23 then 4 else (if v0 = 27 then 5 else (if v0 = 31 then 0 else (-1))))))))
set_option maxRecDepth 20000 in
set_option maxHeartbeats 4000000 in
theorem cx_Registers_bankOf (l : Launch) (v0 : Int32) : KPi l yX6_bankOf (Cond.code yX6_bankOf cX6_bankOf 1 (some .int) :: lw_all) (kr 0) [.int v0] (x_Registers_bankOf v0) := by
  refine kp_in_i (q := x_Registers_bankOf v0) (by decide) rfl (Nat.le_of_ble_eq_true rfl) ?_
  intro p e s m args below meth c Q ls hx hb hml hown hts hl hret
  have hts := fun w h => hts w (List.mem_cons_of_mem _ h)
  have hl : lv_has ls 1 [(0, .int v0)] := hl
  have hf : x_Registers_bankOf v0 = x_Registers_bankOf v0 := rfl
  refine lv_iload_n hx hb dX6_bankOf_0 rfl (lv_at hl 0 rfl) ?_
  by_cases h_8 : v0 = 16
  · have hf := hf.trans (if_pos h_8)
    refine lv_tableIn (tgt := 80) hx hb dX6_bankOf_1 (by rw [h_8]; decide) (by rw [h_8]; decide) (by rw [h_8]; rfl) (by decide) ?_
    refine lv_iconst (v := 0) hx hb dX6_bankOf_80 (by decide) ?_
    exact hret 0 _ _ hf dX6_bankOf_81
  have hf := hf.trans (if_neg h_8)
  by_cases h_9 : v0 = 17
  · have hf := hf.trans (if_pos h_9)
    refine lv_tableIn (tgt := 82) hx hb dX6_bankOf_1 (by rw [h_9]; decide) (by rw [h_9]; decide) (by rw [h_9]; rfl) (by decide) ?_
    refine lv_iconst (v := 1) hx hb dX6_bankOf_82 (by decide) ?_
    exact hret 1 _ _ hf dX6_bankOf_83
  have hf := hf.trans (if_neg h_9)
  by_cases h_10 : v0 = 18
  · have hf := hf.trans (if_pos h_10)
    refine lv_tableIn (tgt := 84) hx hb dX6_bankOf_1 (by rw [h_10]; decide) (by rw [h_10]; decide) (by rw [h_10]; rfl) (by decide) ?_
    refine lv_iconst (v := 2) hx hb dX6_bankOf_84 (by decide) ?_
    exact hret 2 _ _ hf dX6_bankOf_85
  have hf := hf.trans (if_neg h_10)
  by_cases h_11 : v0 = 19
  · have hf := hf.trans (if_pos h_11)
    refine lv_tableIn (tgt := 86) hx hb dX6_bankOf_1 (by rw [h_11]; decide) (by rw [h_11]; decide) (by rw [h_11]; rfl) (by decide) ?_
    refine lv_iconst (v := 3) hx hb dX6_bankOf_86 (by decide) ?_
    exact hret 3 _ _ hf dX6_bankOf_87
  have hf := hf.trans (if_neg h_11)
  by_cases h_12 : v0 = 23
  · have hf := hf.trans (if_pos h_12)
    refine lv_tableIn (tgt := 88) hx hb dX6_bankOf_1 (by rw [h_12]; decide) (by rw [h_12]; decide) (by rw [h_12]; rfl) (by decide) ?_
    refine lv_iconst (v := 4) hx hb dX6_bankOf_88 (by decide) ?_
    exact hret 4 _ _ hf dX6_bankOf_89
  have hf := hf.trans (if_neg h_12)
  by_cases h_13 : v0 = 27
  · have hf := hf.trans (if_pos h_13)
    refine lv_tableIn (tgt := 90) hx hb dX6_bankOf_1 (by rw [h_13]; decide) (by rw [h_13]; decide) (by rw [h_13]; rfl) (by decide) ?_
    refine lv_iconst (v := 5) hx hb dX6_bankOf_90 (by decide) ?_
    exact hret 5 _ _ hf dX6_bankOf_91
  have hf := hf.trans (if_neg h_13)
  by_cases h_14 : v0 = 31
  · have hf := hf.trans (if_pos h_14)
    refine lv_tableIn (tgt := 80) hx hb dX6_bankOf_1 (by rw [h_14]; decide) (by rw [h_14]; decide) (by rw [h_14]; rfl) (by decide) ?_
    refine lv_iconst (v := 0) hx hb dX6_bankOf_80 (by decide) ?_
    exact hret 0 _ _ hf dX6_bankOf_81
  have hf := hf.trans (if_neg h_14)
  refine ksw_dflt (tgt := 92) hx hb dX6_bankOf_1 [16, 17, 18, 19, 23, 27, 31] (ksw_c h_8 (ksw_c h_9 (ksw_c h_10 (ksw_c h_11 (ksw_c h_12 (ksw_c h_13 (ksw_c h_14 ksw_n))))))) (by decide) (by decide) ?_
  refine lv_iconst (v := (-1)) hx hb dX6_bankOf_92 (by decide) ?_
  exact hret (-1) _ _ hf dX6_bankOf_93
theorem bankOf_in {m : Int32} (h : ¬ x_Registers_bankOf m = (-1)) : vp_in (x_Registers_bankOf m) 6 := by
  revert h
  unfold x_Registers_bankOf
  repeat' split
  all_goals first | (intro _; unfold vp_in; decide) | (intro h; exact absurd rfl h)
def x_Registers_heldIn (σ : CS) (v0 : Int32) (v1 : Int32) : Int32 := c_held σ (tPL ((16 * v0) + v1).toNatClampNeg).toNatClampNeg
set_option maxRecDepth 20000 in
set_option maxHeartbeats 4000000 in
theorem cx_Registers_heldIn (l : Launch) (G : KG) (σ : CS) (v0 : Int32) (v1 : Int32) (hv0 : vp_in v0 6) (hv1 : vp_in v1 16) : KB l yX6_heldIn (Cond.code yX6_heldIn cX6_heldIn 3 (some .int) :: lw_all) (kr 0) (gD G) vwCl (gT G) (cZ G) (cW G) [.ref (gA G 3), .int v0, .int v1] σ (x_Registers_heldIn σ v0 v1, σ) := by
  refine kc_in_r (q := x_Registers_heldIn σ v0 v1) (by decide) rfl (Nat.le_of_ble_eq_true rfl) ?_
  intro p e s m args below meth c A Q ls hx hb hml hown hts hK hP hD hA hS hZ hl hret
  have hts := fun w h => hts w (List.mem_cons_of_mem _ h)
  have hl : lv_has ls 3 [(0, .ref (gA G 3)), (1, .int v0), (2, .int v1)] := hl
  have hf : x_Registers_heldIn σ v0 v1 = x_Registers_heldIn σ v0 v1 := rfl
  refine lv_aload_n hx hb dX6_heldIn_0 rfl (lv_at hl 0 rfl) ?_
  refine va_get (D := gD G) (ci := 4) hx hb hts ku_6 hown hK hP 3 rfl rfl 0 (by decide) (hts _ kw_36) (fun _ h9 => h9) rfl dX6_heldIn_1 ?_
  refine va_gets hx hb hZ.1.1.1 hS hown (hts _ kw_198) (fun _ h => h) dX6_heldIn_4 ?_
  refine lv_bipush (v := 16) hx hb dX6_heldIn_7 (by decide) ?_
  refine lv_iload_n hx hb dX6_heldIn_9 rfl (lv_at hl 1 rfl) ?_
  refine lv_imul hx hb dX6_heldIn_10 ?_
  refine lv_iload_n hx hb dX6_heldIn_11 rfl (lv_at hl 2 rfl) ?_
  refine lv_iadd hx hb dX6_heldIn_12 ?_
  refine va_ti hx hb hZ.1.1.2 hS (i := ((16 * v0) + v1)) (pl_in hv0 hv1) rfl dX6_heldIn_13 ?_
  refine va_iald hx hb hK hP 4 0 rfl rfl (pl_held _) dX6_heldIn_14 ?_
  exact hret (c_held σ (tPL ((16 * v0) + v1).toNatClampNeg).toNatClampNeg) _ _ _ _ hf hP hD hS dX6_heldIn_15
def x_Registers_hold (σ : CS) (v0 : Int32) (v1 : Int32) (v2 : Int32) : CS := s_held σ (upd (c_held σ) (tPL ((16 * v0) + v1).toNatClampNeg).toNatClampNeg v2)
set_option maxRecDepth 20000 in
set_option maxHeartbeats 4000000 in
theorem cx_Registers_hold (l : Launch) (G : KG) (σ : CS) (v0 : Int32) (v1 : Int32) (v2 : Int32) (hv0 : vp_in v0 6) (hv1 : vp_in v1 16) : KV l yX6_hold (Cond.code yX6_hold cX6_hold 4 none :: lw_all) (kr 0) (gD G) vwCl (gT G) (cZ G) (cW G) [.ref (gA G 3), .int v0, .int v1, .int v2] σ (x_Registers_hold σ v0 v1 v2) := by
  refine kc_in_v (q := x_Registers_hold σ v0 v1 v2) (by decide) rfl (Nat.le_of_ble_eq_true rfl) ?_
  intro p e s m args below meth c A Q ls hx hb hml hown hts hK hP hD hA hS hZ hl hret
  have hts := fun w h => hts w (List.mem_cons_of_mem _ h)
  have hl : lv_has ls 4 [(0, .ref (gA G 3)), (1, .int v0), (2, .int v1), (3, .int v2)] := hl
  have hf : x_Registers_hold σ v0 v1 v2 = x_Registers_hold σ v0 v1 v2 := rfl
  refine lv_aload_n hx hb dX6_hold_0 rfl (lv_at hl 0 rfl) ?_
  refine va_get (D := gD G) (ci := 4) hx hb hts ku_6 hown hK hP 3 rfl rfl 0 (by decide) (hts _ kw_36) (fun _ h9 => h9) rfl dX6_hold_1 ?_
  refine va_gets hx hb hZ.1.1.1 hS hown (hts _ kw_198) (fun _ h => h) dX6_hold_4 ?_
  refine lv_bipush (v := 16) hx hb dX6_hold_7 (by decide) ?_
  refine lv_iload_n hx hb dX6_hold_9 rfl (lv_at hl 1 rfl) ?_
  refine lv_imul hx hb dX6_hold_10 ?_
  refine lv_iload_n hx hb dX6_hold_11 rfl (lv_at hl 2 rfl) ?_
  refine lv_iadd hx hb dX6_hold_12 ?_
  refine va_ti hx hb hZ.1.1.2 hS (i := ((16 * v0) + v1)) (pl_in hv0 hv1) rfl dX6_hold_13 ?_
  refine lv_iload_n hx hb dX6_hold_14 rfl (lv_at hl 3 rfl) ?_
  refine va_iast hx hb hK hP hD hS 4 0 rfl rfl (pl_held _) dX6_hold_15 (fun H locs hP hD hS => ?_)
  have hP := kP_eq (cWs_held G σ (upd (c_held σ) (tPL ((16 * v0) + v1).toNatClampNeg).toNatClampNeg v2)) hP
  have hD := kD_eq (cWs_held G σ (upd (c_held σ) (tPL ((16 * v0) + v1).toNatClampNeg).toNatClampNeg v2)) hD
  exact hret (s_held σ (upd (c_held σ) (tPL ((16 * v0) + v1).toNatClampNeg).toNatClampNeg v2)) _ _ _ _ hf hP hD hS dX6_hold_16
def x_Registers_thumb (σ : CS) : Bool := (if ((c_cpsr σ) &&& 32) = 0 then false else true)
set_option maxRecDepth 20000 in
set_option maxHeartbeats 4000000 in
theorem cx_Registers_thumb (l : Launch) (G : KG) (σ : CS) : KB l yX6_thumb (Cond.code yX6_thumb cX6_thumb 1 (some .boolean) :: lw_all) (kr 0) (gD G) vwCl (gT G) (cZ G) (cW G) [.ref (gA G 3)] σ (b01 (x_Registers_thumb σ), σ) := by
  refine kc_in_y (q := x_Registers_thumb σ) (by decide) rfl (Nat.le_of_ble_eq_true rfl) ?_
  intro p e s m args below meth c A Q ls hx hb hml hown hts hK hP hD hA hS hZ hl hret
  have hts := fun w h => hts w (List.mem_cons_of_mem _ h)
  have hl : lv_has ls 1 [(0, .ref (gA G 3))] := hl
  have hf : x_Registers_thumb σ = x_Registers_thumb σ := rfl
  refine lv_aload_n hx hb dX6_thumb_0 rfl (lv_at hl 0 rfl) ?_
  refine va_get (D := gD G) (ci := 4) hx hb hts ku_6 hown hK hP 3 rfl rfl 2 (by decide) (hts _ kw_38) (fun _ h9 => h9) rfl dX6_thumb_1 ?_
  refine lv_bipush (v := 32) hx hb dX6_thumb_4 (by decide) ?_
  refine lv_iand hx hb dX6_thumb_6 ?_
  refine lv_if_eq (tgt := 14) hx hb dX6_thumb_7 (by decide) (fun h_2 => ?_) (fun h_2 => ?_)
  · have hf := hf.trans (if_pos h_2)
    refine lv_iconst (v := 0) hx hb dX6_thumb_14 (by decide) ?_
    exact hret false _ _ _ _ hf hP hD hS dX6_thumb_15
  · have hf := hf.trans (if_neg h_2)
    refine lv_iconst (v := 1) hx hb dX6_thumb_10 (by decide) ?_
    refine lv_goto (tgt := 15) hx hb dX6_thumb_11 (by decide) ?_
    exact hret true _ _ _ _ hf hP hD hS dX6_thumb_15
def x_Registers_read (σ : CS) (v0 : Int32) : Int32 := (if v0 = 15 then (if (x_Registers_thumb σ) = true then (c_here σ) + 4 else (c_here σ) + 8) else c_held σ (tPL ((16 * (c_bank σ)) + v0).toNatClampNeg).toNatClampNeg)
set_option maxRecDepth 20000 in
set_option maxHeartbeats 4000000 in
theorem cx_Registers_read (l : Launch) (G : KG) (σ : CS) (v0 : Int32) (hv0 : vp_in v0 16) : KB l yX6_read (Cond.code yX6_read cX6_read 2 (some .int) :: lw_all) (kr 1) (gD G) vwCl (gT G) (cZ G) (cW G) [.ref (gA G 3), .int v0] σ (x_Registers_read σ v0, σ) := by
  refine kc_in_r (q := x_Registers_read σ v0) (by decide) rfl (Nat.le_of_ble_eq_true rfl) ?_
  intro p e s m args below meth c A Q ls hx hb hml hown hts hK hP hD hA hS hZ hl hret
  have hts := fun w h => hts w (List.mem_cons_of_mem _ h)
  have hl : lv_has ls 2 [(0, .ref (gA G 3)), (1, .int v0)] := hl
  have hf : x_Registers_read σ v0 = x_Registers_read σ v0 := rfl
  refine lv_iload_n hx hb dX6_read_0 rfl (lv_at hl 1 rfl) ?_
  refine lv_bipush (v := 15) hx hb dX6_read_1 (by decide) ?_
  refine lv_icmp_ne (tgt := 25) hx hb dX6_read_3 (by decide) (fun h_3 => ?_) (fun h_3 => ?_)
  · have hf := hf.trans (if_neg h_3)
    refine lv_aload_n hx hb dX6_read_25 rfl (lv_at hl 0 rfl) ?_
    refine va_get (D := gD G) (ci := 4) hx hb hts ku_6 hown hK hP 3 rfl rfl 0 (by decide) (hts _ kw_36) (fun _ h9 => h9) rfl dX6_read_26 ?_
    refine va_gets hx hb hZ.1.1.1 hS hown (hts _ kw_198) (fun _ h => h) dX6_read_29 ?_
    refine lv_bipush (v := 16) hx hb dX6_read_32 (by decide) ?_
    refine lv_aload_n hx hb dX6_read_34 rfl (lv_at hl 0 rfl) ?_
    refine va_get (D := gD G) (ci := 4) hx hb hts ku_6 hown hK hP 3 rfl rfl 3 (by decide) (hts _ kw_39) (fun _ h9 => h9) rfl dX6_read_35 ?_
    refine lv_imul hx hb dX6_read_38 ?_
    refine lv_iload_n hx hb dX6_read_39 rfl (lv_at hl 1 rfl) ?_
    refine lv_iadd hx hb dX6_read_40 ?_
    refine va_ti hx hb hZ.1.1.2 hS (i := ((16 * (c_bank σ)) + v0)) (pl_in (c_bank_in _) hv0) rfl dX6_read_41 ?_
    refine va_iald hx hb hK hP 4 0 rfl rfl (pl_held _) dX6_read_42 ?_
    exact hret (c_held σ (tPL ((16 * (c_bank σ)) + v0).toNatClampNeg).toNatClampNeg) _ _ _ _ hf hP hD hS dX6_read_43
  · have hf := hf.trans (if_pos h_3)
    refine lv_aload_n hx hb dX6_read_6 rfl (lv_at hl 0 rfl) ?_
    refine va_get (D := gD G) (ci := 4) hx hb hts ku_6 hown hK hP 3 rfl rfl 4 (by decide) (hts _ kw_40) (fun _ h9 => h9) rfl dX6_read_7 ?_
    refine lv_aload_n hx hb dX6_read_10 rfl (lv_at hl 0 rfl) ?_
    refine kc_Vr (rest := [.int (c_here σ)]) (cx_Registers_thumb l G σ) ⟨hx, hb, hml, hown, hts⟩ (cwV 0 hts (gi_V kw_190 kw_191 kw_192 kw_19 kw_193) rfl rfl rfl ⟨rfl, mdX6_thumb⟩ ⟨by decide, by decide⟩) (va_recv hK hP (ci := 4) (q0 := 3) rfl rfl) cZ_ok hK hP hD hS hA hZ rfl hl.1 rfl (Nat.le_of_ble_eq_true rfl) dX6_read_11 ⟨Nat.zero_le _, Nat.zero_le _⟩ (fun H locs hP hD hS => ?_)
    refine kz_eq (tgt := 21) hx hb dX6_read_14 (by decide) (fun h_4 => ?_) (fun h_4 => ?_)
    · have hf := hf.trans (if_neg h_4)
      refine lv_bipush (v := 8) hx hb dX6_read_21 (by decide) ?_
      refine lv_iadd hx hb dX6_read_23 ?_
      exact hret ((c_here σ) + 8) _ _ _ _ hf hP hD hS dX6_read_24
    · have hf := hf.trans (if_pos h_4)
      refine lv_iconst (v := 4) hx hb dX6_read_17 (by decide) ?_
      refine lv_goto (tgt := 23) hx hb dX6_read_18 (by decide) ?_
      refine lv_iadd hx hb dX6_read_23 ?_
      exact hret ((c_here σ) + 4) _ _ _ _ hf hP hD hS dX6_read_24
def x_Registers_readLateIn (σ : CS) (v0 : Int32) (v1 : Int32) : Int32 := (if v1 = 15 then (c_here σ) + 12 else c_held σ (tPL ((16 * v0) + v1).toNatClampNeg).toNatClampNeg)
set_option maxRecDepth 20000 in
set_option maxHeartbeats 4000000 in
theorem cx_Registers_readLateIn (l : Launch) (G : KG) (σ : CS) (v0 : Int32) (v1 : Int32) (hv0 : vp_in v0 6) (hv1 : vp_in v1 16) : KB l yX6_readLateIn (Cond.code yX6_readLateIn cX6_readLateIn 3 (some .int) :: lw_all) (kr 0) (gD G) vwCl (gT G) (cZ G) (cW G) [.ref (gA G 3), .int v0, .int v1] σ (x_Registers_readLateIn σ v0 v1, σ) := by
  refine kc_in_r (q := x_Registers_readLateIn σ v0 v1) (by decide) rfl (Nat.le_of_ble_eq_true rfl) ?_
  intro p e s m args below meth c A Q ls hx hb hml hown hts hK hP hD hA hS hZ hl hret
  have hts := fun w h => hts w (List.mem_cons_of_mem _ h)
  have hl : lv_has ls 3 [(0, .ref (gA G 3)), (1, .int v0), (2, .int v1)] := hl
  have hf : x_Registers_readLateIn σ v0 v1 = x_Registers_readLateIn σ v0 v1 := rfl
  refine lv_iload_n hx hb dX6_readLateIn_0 rfl (lv_at hl 2 rfl) ?_
  refine lv_bipush (v := 15) hx hb dX6_readLateIn_1 (by decide) ?_
  refine lv_icmp_ne (tgt := 16) hx hb dX6_readLateIn_3 (by decide) (fun h_2 => ?_) (fun h_2 => ?_)
  · have hf := hf.trans (if_neg h_2)
    refine lv_aload_n hx hb dX6_readLateIn_16 rfl (lv_at hl 0 rfl) ?_
    refine va_get (D := gD G) (ci := 4) hx hb hts ku_6 hown hK hP 3 rfl rfl 0 (by decide) (hts _ kw_36) (fun _ h9 => h9) rfl dX6_readLateIn_17 ?_
    refine va_gets hx hb hZ.1.1.1 hS hown (hts _ kw_198) (fun _ h => h) dX6_readLateIn_20 ?_
    refine lv_bipush (v := 16) hx hb dX6_readLateIn_23 (by decide) ?_
    refine lv_iload_n hx hb dX6_readLateIn_25 rfl (lv_at hl 1 rfl) ?_
    refine lv_imul hx hb dX6_readLateIn_26 ?_
    refine lv_iload_n hx hb dX6_readLateIn_27 rfl (lv_at hl 2 rfl) ?_
    refine lv_iadd hx hb dX6_readLateIn_28 ?_
    refine va_ti hx hb hZ.1.1.2 hS (i := ((16 * v0) + v1)) (pl_in hv0 hv1) rfl dX6_readLateIn_29 ?_
    refine va_iald hx hb hK hP 4 0 rfl rfl (pl_held _) dX6_readLateIn_30 ?_
    exact hret (c_held σ (tPL ((16 * v0) + v1).toNatClampNeg).toNatClampNeg) _ _ _ _ hf hP hD hS dX6_readLateIn_31
  · have hf := hf.trans (if_pos h_2)
    refine lv_aload_n hx hb dX6_readLateIn_6 rfl (lv_at hl 0 rfl) ?_
    refine va_get (D := gD G) (ci := 4) hx hb hts ku_6 hown hK hP 3 rfl rfl 4 (by decide) (hts _ kw_40) (fun _ h9 => h9) rfl dX6_readLateIn_7 ?_
    refine lv_bipush (v := 12) hx hb dX6_readLateIn_10 (by decide) ?_
    refine lv_iadd hx hb dX6_readLateIn_12 ?_
    refine lv_goto (tgt := 31) hx hb dX6_readLateIn_13 (by decide) ?_
    exact hret ((c_here σ) + 12) _ _ _ _ hf hP hD hS dX6_readLateIn_31
def x_Registers_readLate (σ : CS) (v0 : Int32) : Int32 := x_Registers_readLateIn σ (c_bank σ) v0
set_option maxRecDepth 20000 in
set_option maxHeartbeats 4000000 in
theorem cx_Registers_readLate (l : Launch) (G : KG) (σ : CS) (v0 : Int32) (hv0 : vp_in v0 16) : KB l yX6_readLate (Cond.code yX6_readLate cX6_readLate 2 (some .int) :: lw_all) (kr 1) (gD G) vwCl (gT G) (cZ G) (cW G) [.ref (gA G 3), .int v0] σ (x_Registers_readLate σ v0, σ) := by
  refine kc_in_r (q := x_Registers_readLate σ v0) (by decide) rfl (Nat.le_of_ble_eq_true rfl) ?_
  intro p e s m args below meth c A Q ls hx hb hml hown hts hK hP hD hA hS hZ hl hret
  have hts := fun w h => hts w (List.mem_cons_of_mem _ h)
  have hl : lv_has ls 2 [(0, .ref (gA G 3)), (1, .int v0)] := hl
  have hf : x_Registers_readLate σ v0 = x_Registers_readLate σ v0 := rfl
  refine lv_aload_n hx hb dX6_readLate_0 rfl (lv_at hl 0 rfl) ?_
  refine lv_aload_n hx hb dX6_readLate_1 rfl (lv_at hl 0 rfl) ?_
  refine va_get (D := gD G) (ci := 4) hx hb hts ku_6 hown hK hP 3 rfl rfl 3 (by decide) (hts _ kw_39) (fun _ h9 => h9) rfl dX6_readLate_2 ?_
  refine lv_iload_n hx hb dX6_readLate_5 rfl (lv_at hl 1 rfl) ?_
  refine kc_Vr (rest := []) (cx_Registers_readLateIn l G σ (c_bank σ) v0 (c_bank_in _) hv0) ⟨hx, hb, hml, hown, hts⟩ (cwV 2 hts (gi_V kw_627 kw_547 kw_548 kw_19 kw_549) rfl rfl rfl ⟨rfl, mdX6_readLateIn⟩ ⟨by decide, by decide⟩) (va_recv hK hP (ci := 4) (q0 := 3) rfl rfl) cZ_ok hK hP hD hS hA hZ rfl hl.1 rfl (Nat.le_of_ble_eq_true rfl) dX6_readLate_6 ⟨Nat.zero_le _, Nat.zero_le _⟩ (fun H locs hP hD hS => ?_)
  exact hret (x_Registers_readLateIn σ (c_bank σ) v0) _ _ _ _ hf hP hD hS dX6_readLate_9
def x_Registers_jump (σ : CS) (v0 : Int32) : CS := (if (x_Registers_thumb σ) = true then s_held σ (upd (c_held σ) (15 : Int32).toNatClampNeg (v0 &&& (-2))) else s_held σ (upd (c_held σ) (15 : Int32).toNatClampNeg (v0 &&& (-4))))
set_option maxRecDepth 20000 in
set_option maxHeartbeats 4000000 in
theorem cx_Registers_jump (l : Launch) (G : KG) (σ : CS) (v0 : Int32) : KV l yX6_jump (Cond.code yX6_jump cX6_jump 2 none :: lw_all) (kr 1) (gD G) vwCl (gT G) (cZ G) (cW G) [.ref (gA G 3), .int v0] σ (x_Registers_jump σ v0) := by
  refine kc_in_v (q := x_Registers_jump σ v0) (by decide) rfl (Nat.le_of_ble_eq_true rfl) ?_
  intro p e s m args below meth c A Q ls hx hb hml hown hts hK hP hD hA hS hZ hl hret
  have hts := fun w h => hts w (List.mem_cons_of_mem _ h)
  have hl : lv_has ls 2 [(0, .ref (gA G 3)), (1, .int v0)] := hl
  have hf : x_Registers_jump σ v0 = x_Registers_jump σ v0 := rfl
  refine lv_aload_n hx hb dX6_jump_0 rfl (lv_at hl 0 rfl) ?_
  refine va_get (D := gD G) (ci := 4) hx hb hts ku_6 hown hK hP 3 rfl rfl 0 (by decide) (hts _ kw_36) (fun _ h9 => h9) rfl dX6_jump_1 ?_
  refine lv_bipush (v := 15) hx hb dX6_jump_4 (by decide) ?_
  refine lv_iload_n hx hb dX6_jump_6 rfl (lv_at hl 1 rfl) ?_
  refine lv_aload_n hx hb dX6_jump_7 rfl (lv_at hl 0 rfl) ?_
  refine kc_Vr (rest := [.int v0, .int 15, .ref (gA G 4)]) (cx_Registers_thumb l G σ) ⟨hx, hb, hml, hown, hts⟩ (cwV 0 hts (gi_V kw_190 kw_191 kw_192 kw_19 kw_193) rfl rfl rfl ⟨rfl, mdX6_thumb⟩ ⟨by decide, by decide⟩) (va_recv hK hP (ci := 4) (q0 := 3) rfl rfl) cZ_ok hK hP hD hS hA hZ rfl hl.1 rfl (Nat.le_of_ble_eq_true rfl) dX6_jump_8 ⟨Nat.zero_le _, Nat.zero_le _⟩ (fun H locs hP hD hS => ?_)
  refine kz_eq (tgt := 19) hx hb dX6_jump_11 (by decide) (fun h_2 => ?_) (fun h_2 => ?_)
  · have hf := hf.trans (if_neg h_2)
    refine lv_bipush (v := (-4)) hx hb dX6_jump_19 (by decide) ?_
    refine lv_iand hx hb dX6_jump_21 ?_
    refine va_iast hx hb hK hP hD hS 4 0 rfl rfl (by unfold vp_in; decide) dX6_jump_22 (fun H locs hP hD hS => ?_)
    have hP := kP_eq (cWs_held G σ (upd (c_held σ) (15 : Int32).toNatClampNeg (v0 &&& (-4)))) hP
    have hD := kD_eq (cWs_held G σ (upd (c_held σ) (15 : Int32).toNatClampNeg (v0 &&& (-4)))) hD
    exact hret (s_held σ (upd (c_held σ) (15 : Int32).toNatClampNeg (v0 &&& (-4)))) _ _ _ _ hf hP hD hS dX6_jump_23
  · have hf := hf.trans (if_pos h_2)
    refine lv_bipush (v := (-2)) hx hb dX6_jump_14 (by decide) ?_
    refine lv_goto (tgt := 21) hx hb dX6_jump_16 (by decide) ?_
    refine lv_iand hx hb dX6_jump_21 ?_
    refine va_iast hx hb hK hP hD hS 4 0 rfl rfl (by unfold vp_in; decide) dX6_jump_22 (fun H locs hP hD hS => ?_)
    have hP := kP_eq (cWs_held G σ (upd (c_held σ) (15 : Int32).toNatClampNeg (v0 &&& (-2)))) hP
    have hD := kD_eq (cWs_held G σ (upd (c_held σ) (15 : Int32).toNatClampNeg (v0 &&& (-2)))) hD
    exact hret (s_held σ (upd (c_held σ) (15 : Int32).toNatClampNeg (v0 &&& (-2)))) _ _ _ _ hf hP hD hS dX6_jump_23
def x_Registers_write (σ : CS) (v0 : Int32) (v1 : Int32) : CS := (if v0 = 15 then x_Registers_jump σ v1 else x_Registers_hold σ (c_bank σ) v0 v1)
set_option maxRecDepth 20000 in
set_option maxHeartbeats 4000000 in
theorem cx_Registers_write (l : Launch) (G : KG) (σ : CS) (v0 : Int32) (v1 : Int32) (hv0 : vp_in v0 16) : KV l yX6_write (Cond.code yX6_write cX6_write 3 none :: lw_all) (kr 2) (gD G) vwCl (gT G) (cZ G) (cW G) [.ref (gA G 3), .int v0, .int v1] σ (x_Registers_write σ v0 v1) := by
  refine kc_in_v (q := x_Registers_write σ v0 v1) (by decide) rfl (Nat.le_of_ble_eq_true rfl) ?_
  intro p e s m args below meth c A Q ls hx hb hml hown hts hK hP hD hA hS hZ hl hret
  have hts := fun w h => hts w (List.mem_cons_of_mem _ h)
  have hl : lv_has ls 3 [(0, .ref (gA G 3)), (1, .int v0), (2, .int v1)] := hl
  have hf : x_Registers_write σ v0 v1 = x_Registers_write σ v0 v1 := rfl
  refine lv_iload_n hx hb dX6_write_0 rfl (lv_at hl 1 rfl) ?_
  refine lv_bipush (v := 15) hx hb dX6_write_1 (by decide) ?_
  refine lv_icmp_ne (tgt := 14) hx hb dX6_write_3 (by decide) (fun h_2 => ?_) (fun h_2 => ?_)
  · have hf := hf.trans (if_neg h_2)
    refine lv_aload_n hx hb dX6_write_14 rfl (lv_at hl 0 rfl) ?_
    refine lv_aload_n hx hb dX6_write_15 rfl (lv_at hl 0 rfl) ?_
    refine va_get (D := gD G) (ci := 4) hx hb hts ku_6 hown hK hP 3 rfl rfl 3 (by decide) (hts _ kw_39) (fun _ h9 => h9) rfl dX6_write_16 ?_
    refine lv_iload_n hx hb dX6_write_19 rfl (lv_at hl 1 rfl) ?_
    refine lv_iload_n hx hb dX6_write_20 rfl (lv_at hl 2 rfl) ?_
    refine kc_Vv (rest := []) (cx_Registers_hold l G σ (c_bank σ) v0 v1 (c_bank_in _) hv0) ⟨hx, hb, hml, hown, hts⟩ (cwV 3 hts (gi_V kw_407 kw_195 kw_196 kw_19 kw_197) rfl rfl rfl ⟨rfl, mdX6_hold⟩ ⟨by decide, by decide⟩) (va_recv hK hP (ci := 4) (q0 := 3) rfl rfl) cZ_ok hK hP hD hS hA hZ rfl hl.1 rfl (Nat.le_of_ble_eq_true rfl) dX6_write_21 ⟨Nat.zero_le _, Nat.zero_le _⟩ (fun H locs hP hD hS => ?_)
    exact hret (x_Registers_hold σ (c_bank σ) v0 v1) _ _ _ _ hf hP hD hS dX6_write_24
  · have hf := hf.trans (if_pos h_2)
    refine lv_aload_n hx hb dX6_write_6 rfl (lv_at hl 0 rfl) ?_
    refine lv_iload_n hx hb dX6_write_7 rfl (lv_at hl 2 rfl) ?_
    refine kc_Vv (rest := []) (cx_Registers_jump l G σ v1) ⟨hx, hb, hml, hown, hts⟩ (cwV 1 hts (gi_V kw_406 kw_187 kw_188 kw_19 kw_189) rfl rfl rfl ⟨rfl, mdX6_jump⟩ ⟨by decide, by decide⟩) (va_recv hK hP (ci := 4) (q0 := 3) rfl rfl) cZ_ok hK hP hD hS hA hZ rfl hl.1 rfl (Nat.le_of_ble_eq_true rfl) dX6_write_8 ⟨Nat.zero_le _, Nat.zero_le _⟩ (fun H locs hP hD hS => ?_)
    refine lv_goto (tgt := 24) hx hb dX6_write_11 (by decide) ?_
    exact hret (x_Registers_jump σ v1) _ _ _ _ hf hP hD hS dX6_write_24
def x_Registers_bank (σ : CS) : Int32 := c_bank σ
set_option maxRecDepth 20000 in
set_option maxHeartbeats 4000000 in
theorem cx_Registers_bank (l : Launch) (G : KG) (σ : CS) : KB l yX6_bank (Cond.code yX6_bank cX6_bank 1 (some .int) :: lw_all) (kr 0) (gD G) vwCl (gT G) (cZ G) (cW G) [.ref (gA G 3)] σ (x_Registers_bank σ, σ) := by
  refine kc_in_r (q := x_Registers_bank σ) (by decide) rfl (Nat.le_of_ble_eq_true rfl) ?_
  intro p e s m args below meth c A Q ls hx hb hml hown hts hK hP hD hA hS hZ hl hret
  have hts := fun w h => hts w (List.mem_cons_of_mem _ h)
  have hl : lv_has ls 1 [(0, .ref (gA G 3))] := hl
  have hf : x_Registers_bank σ = x_Registers_bank σ := rfl
  refine lv_aload_n hx hb dX6_bank_0 rfl (lv_at hl 0 rfl) ?_
  refine va_get (D := gD G) (ci := 4) hx hb hts ku_6 hown hK hP 3 rfl rfl 3 (by decide) (hts _ kw_39) (fun _ h9 => h9) rfl dX6_bank_1 ?_
  exact hret (c_bank σ) _ _ _ _ hf hP hD hS dX6_bank_4
def x_Registers_next (σ : CS) : Int32 := c_held σ (15 : Int32).toNatClampNeg
set_option maxRecDepth 20000 in
set_option maxHeartbeats 4000000 in
theorem cx_Registers_next (l : Launch) (G : KG) (σ : CS) : KB l yX6_next (Cond.code yX6_next cX6_next 1 (some .int) :: lw_all) (kr 0) (gD G) vwCl (gT G) (cZ G) (cW G) [.ref (gA G 3)] σ (x_Registers_next σ, σ) := by
  refine kc_in_r (q := x_Registers_next σ) (by decide) rfl (Nat.le_of_ble_eq_true rfl) ?_
  intro p e s m args below meth c A Q ls hx hb hml hown hts hK hP hD hA hS hZ hl hret
  have hts := fun w h => hts w (List.mem_cons_of_mem _ h)
  have hl : lv_has ls 1 [(0, .ref (gA G 3))] := hl
  have hf : x_Registers_next σ = x_Registers_next σ := rfl
  refine lv_aload_n hx hb dX6_next_0 rfl (lv_at hl 0 rfl) ?_
  refine va_get (D := gD G) (ci := 4) hx hb hts ku_6 hown hK hP 3 rfl rfl 0 (by decide) (hts _ kw_36) (fun _ h9 => h9) rfl dX6_next_1 ?_
  refine lv_bipush (v := 15) hx hb dX6_next_4 (by decide) ?_
  refine va_iald hx hb hK hP 4 0 rfl rfl (by unfold vp_in; decide) dX6_next_6 ?_
  exact hret (c_held σ (15 : Int32).toNatClampNeg) _ _ _ _ hf hP hD hS dX6_next_7
def x_Registers_jumpAndChangeSet_20 (σ : CS) (v0 : Int32) (k0_20 : Int32) : CS := x_Registers_jump (s_cpsr σ (((c_cpsr σ) &&& (-33)) ||| k0_20)) v0
def x_Registers_jumpAndChangeSet (σ : CS) (v0 : Int32) : CS := (if (v0 &&& 1) = 0 then x_Registers_jumpAndChangeSet_20 σ v0 0 else x_Registers_jumpAndChangeSet_20 σ v0 32)
set_option maxRecDepth 20000 in
set_option maxHeartbeats 4000000 in
theorem cx_Registers_jumpAndChangeSet (l : Launch) (G : KG) (σ : CS) (v0 : Int32) : KV l yX6_jumpAndChangeSet (Cond.code yX6_jumpAndChangeSet cX6_jumpAndChangeSet 2 none :: lw_all) (kr 2) (gD G) vwCl (gT G) (cZ G) (cW G) [.ref (gA G 3), .int v0] σ (x_Registers_jumpAndChangeSet σ v0) := by
  refine kc_in_v (q := x_Registers_jumpAndChangeSet σ v0) (by decide) rfl (Nat.le_of_ble_eq_true rfl) ?_
  intro p e s m args below meth c A Q ls hx hb hml hown hts hK hP hD hA hS hZ hl hret
  have hts := fun w h => hts w (List.mem_cons_of_mem _ h)
  have hl : lv_has ls 2 [(0, .ref (gA G 3)), (1, .int v0)] := hl
  have hf : x_Registers_jumpAndChangeSet σ v0 = x_Registers_jumpAndChangeSet σ v0 := rfl
  have J20 : ∀ (k0_20 : Int32) (H : Heap) (locs : List Loc) (ls : Array Slot), va_P (gD G) vwCl (cW G (σ)) H → va_D A (cW G (σ)) → va_S A s.heap H locs → lv_has ls 2 [(0, .ref (gA G 3)), (1, .int v0)] → x_Registers_jumpAndChangeSet σ v0 = x_Registers_jumpAndChangeSet_20 σ v0 k0_20 → W p l e (kr 2) s m args below meth c H locs 0 0 Q (F0 m 20 ls [.int k0_20, .int ((c_cpsr σ) &&& (-33)), .ref (gA G 3)]) := by
    intro k0_20 H locs ls hP hD hS hl hf
    refine lv_ior hx hb dX6_jumpAndChangeSet_20 ?_
    refine va_put (D := gD G) (ci := 4) (v := .int (((c_cpsr σ) &&& (-33)) ||| k0_20)) (ty := .int) hx hb hts ku_6 tyX6 tyX6_ok nmX6 hown hK hP hD hS 3 rfl rfl 2 (by decide) (hts _ kw_38) (fun _ h9 => h9) rfl (tyX6_ok 2 (by decide)) rfl rfl (Nat.le_of_ble_eq_true rfl) dX6_jumpAndChangeSet_21 (fun H locs hP hD hS => ?_)
    have hP := kP_eq (cWs_cpsr G σ (((c_cpsr σ) &&& (-33)) ||| k0_20)) hP
    have hD := kD_eq (cWs_cpsr G σ (((c_cpsr σ) &&& (-33)) ||| k0_20)) hD
    refine lv_aload_n hx hb dX6_jumpAndChangeSet_24 rfl (lv_at hl 0 rfl) ?_
    refine lv_iload_n hx hb dX6_jumpAndChangeSet_25 rfl (lv_at hl 1 rfl) ?_
    refine kc_Vv (rest := []) (cx_Registers_jump l G (s_cpsr σ (((c_cpsr σ) &&& (-33)) ||| k0_20)) v0) ⟨hx, hb, hml, hown, hts⟩ (cwV 1 hts (gi_V kw_406 kw_187 kw_188 kw_19 kw_189) rfl rfl rfl ⟨rfl, mdX6_jump⟩ ⟨by decide, by decide⟩) (va_recv hK hP (ci := 4) (q0 := 3) rfl rfl) cZ_ok hK hP hD hS hA hZ rfl hl.1 rfl (Nat.le_of_ble_eq_true rfl) dX6_jumpAndChangeSet_26 ⟨Nat.zero_le _, Nat.zero_le _⟩ (fun H locs hP hD hS => ?_)
    exact hret (x_Registers_jump (s_cpsr σ (((c_cpsr σ) &&& (-33)) ||| k0_20)) v0) _ _ _ _ hf hP hD hS dX6_jumpAndChangeSet_29
  refine lv_aload_n hx hb dX6_jumpAndChangeSet_0 rfl (lv_at hl 0 rfl) ?_
  refine lv_aload_n hx hb dX6_jumpAndChangeSet_1 rfl (lv_at hl 0 rfl) ?_
  refine va_get (D := gD G) (ci := 4) hx hb hts ku_6 hown hK hP 3 rfl rfl 2 (by decide) (hts _ kw_38) (fun _ h9 => h9) rfl dX6_jumpAndChangeSet_2 ?_
  refine lv_bipush (v := (-33)) hx hb dX6_jumpAndChangeSet_5 (by decide) ?_
  refine lv_iand hx hb dX6_jumpAndChangeSet_7 ?_
  refine lv_iload_n hx hb dX6_jumpAndChangeSet_8 rfl (lv_at hl 1 rfl) ?_
  refine lv_iconst (v := 1) hx hb dX6_jumpAndChangeSet_9 (by decide) ?_
  refine lv_iand hx hb dX6_jumpAndChangeSet_10 ?_
  refine lv_if_eq (tgt := 19) hx hb dX6_jumpAndChangeSet_11 (by decide) (fun h_2 => ?_) (fun h_2 => ?_)
  · have hf := hf.trans (if_pos h_2)
    refine lv_iconst (v := 0) hx hb dX6_jumpAndChangeSet_19 (by decide) ?_
    exact J20 0 _ _ _ hP hD hS (lv_sub hl [0, 1] rfl) hf
  · have hf := hf.trans (if_neg h_2)
    refine lv_bipush (v := 32) hx hb dX6_jumpAndChangeSet_14 (by decide) ?_
    refine lv_goto (tgt := 20) hx hb dX6_jumpAndChangeSet_16 (by decide) ?_
    exact J20 32 _ _ _ hP hD hS (lv_sub hl [0, 1] rfl) hf
def x_Registers_here (σ : CS) : Int32 := c_here σ
set_option maxRecDepth 20000 in
set_option maxHeartbeats 4000000 in
theorem cx_Registers_here (l : Launch) (G : KG) (σ : CS) : KB l yX6_here (Cond.code yX6_here cX6_here 1 (some .int) :: lw_all) (kr 0) (gD G) vwCl (gT G) (cZ G) (cW G) [.ref (gA G 3)] σ (x_Registers_here σ, σ) := by
  refine kc_in_r (q := x_Registers_here σ) (by decide) rfl (Nat.le_of_ble_eq_true rfl) ?_
  intro p e s m args below meth c A Q ls hx hb hml hown hts hK hP hD hA hS hZ hl hret
  have hts := fun w h => hts w (List.mem_cons_of_mem _ h)
  have hl : lv_has ls 1 [(0, .ref (gA G 3))] := hl
  have hf : x_Registers_here σ = x_Registers_here σ := rfl
  refine lv_aload_n hx hb dX6_here_0 rfl (lv_at hl 0 rfl) ?_
  refine va_get (D := gD G) (ci := 4) hx hb hts ku_6 hown hK hP 3 rfl rfl 4 (by decide) (hts _ kw_40) (fun _ h9 => h9) rfl dX6_here_1 ?_
  exact hret (c_here σ) _ _ _ _ hf hP hD hS dX6_here_4
def x_Registers_behind (σ : CS) : Int32 := (if (x_Registers_thumb σ) = true then (c_here σ) + 2 else (c_here σ) + 4)
set_option maxRecDepth 20000 in
set_option maxHeartbeats 4000000 in
theorem cx_Registers_behind (l : Launch) (G : KG) (σ : CS) : KB l yX6_behind (Cond.code yX6_behind cX6_behind 1 (some .int) :: lw_all) (kr 1) (gD G) vwCl (gT G) (cZ G) (cW G) [.ref (gA G 3)] σ (x_Registers_behind σ, σ) := by
  refine kc_in_r (q := x_Registers_behind σ) (by decide) rfl (Nat.le_of_ble_eq_true rfl) ?_
  intro p e s m args below meth c A Q ls hx hb hml hown hts hK hP hD hA hS hZ hl hret
  have hts := fun w h => hts w (List.mem_cons_of_mem _ h)
  have hl : lv_has ls 1 [(0, .ref (gA G 3))] := hl
  have hf : x_Registers_behind σ = x_Registers_behind σ := rfl
  refine lv_aload_n hx hb dX6_behind_0 rfl (lv_at hl 0 rfl) ?_
  refine va_get (D := gD G) (ci := 4) hx hb hts ku_6 hown hK hP 3 rfl rfl 4 (by decide) (hts _ kw_40) (fun _ h9 => h9) rfl dX6_behind_1 ?_
  refine lv_aload_n hx hb dX6_behind_4 rfl (lv_at hl 0 rfl) ?_
  refine kc_Vr (rest := [.int (c_here σ)]) (cx_Registers_thumb l G σ) ⟨hx, hb, hml, hown, hts⟩ (cwV 0 hts (gi_V kw_190 kw_191 kw_192 kw_19 kw_193) rfl rfl rfl ⟨rfl, mdX6_thumb⟩ ⟨by decide, by decide⟩) (va_recv hK hP (ci := 4) (q0 := 3) rfl rfl) cZ_ok hK hP hD hS hA hZ rfl hl.1 rfl (Nat.le_of_ble_eq_true rfl) dX6_behind_5 ⟨Nat.zero_le _, Nat.zero_le _⟩ (fun H locs hP hD hS => ?_)
  refine kz_eq (tgt := 15) hx hb dX6_behind_8 (by decide) (fun h_2 => ?_) (fun h_2 => ?_)
  · have hf := hf.trans (if_neg h_2)
    refine lv_iconst (v := 4) hx hb dX6_behind_15 (by decide) ?_
    refine lv_iadd hx hb dX6_behind_16 ?_
    exact hret ((c_here σ) + 4) _ _ _ _ hf hP hD hS dX6_behind_17
  · have hf := hf.trans (if_pos h_2)
    refine lv_iconst (v := 2) hx hb dX6_behind_11 (by decide) ?_
    refine lv_goto (tgt := 16) hx hb dX6_behind_12 (by decide) ?_
    refine lv_iadd hx hb dX6_behind_16 ?_
    exact hret ((c_here σ) + 2) _ _ _ _ hf hP hD hS dX6_behind_17
def x_Registers_begin (σ : CS) : CS := s_held (s_here σ (c_held σ (15 : Int32).toNatClampNeg)) (upd (c_held (s_here σ (c_held σ (15 : Int32).toNatClampNeg))) (15 : Int32).toNatClampNeg (x_Registers_behind (s_here σ (c_held σ (15 : Int32).toNatClampNeg))))
set_option maxRecDepth 20000 in
set_option maxHeartbeats 4000000 in
theorem cx_Registers_begin (l : Launch) (G : KG) (σ : CS) : KV l yX6_begin (Cond.code yX6_begin cX6_begin 1 none :: lw_all) (kr 2) (gD G) vwCl (gT G) (cZ G) (cW G) [.ref (gA G 3)] σ (x_Registers_begin σ) := by
  refine kc_in_v (q := x_Registers_begin σ) (by decide) rfl (Nat.le_of_ble_eq_true rfl) ?_
  intro p e s m args below meth c A Q ls hx hb hml hown hts hK hP hD hA hS hZ hl hret
  have hts := fun w h => hts w (List.mem_cons_of_mem _ h)
  have hl : lv_has ls 1 [(0, .ref (gA G 3))] := hl
  have hf : x_Registers_begin σ = x_Registers_begin σ := rfl
  refine lv_aload_n hx hb dX6_begin_0 rfl (lv_at hl 0 rfl) ?_
  refine lv_aload_n hx hb dX6_begin_1 rfl (lv_at hl 0 rfl) ?_
  refine va_get (D := gD G) (ci := 4) hx hb hts ku_6 hown hK hP 3 rfl rfl 0 (by decide) (hts _ kw_36) (fun _ h9 => h9) rfl dX6_begin_2 ?_
  refine lv_bipush (v := 15) hx hb dX6_begin_5 (by decide) ?_
  refine va_iald hx hb hK hP 4 0 rfl rfl (by unfold vp_in; decide) dX6_begin_7 ?_
  refine va_put (D := gD G) (ci := 4) (v := .int (c_held σ (15 : Int32).toNatClampNeg)) (ty := .int) hx hb hts ku_6 tyX6 tyX6_ok nmX6 hown hK hP hD hS 3 rfl rfl 4 (by decide) (hts _ kw_40) (fun _ h9 => h9) rfl (tyX6_ok 4 (by decide)) rfl rfl (Nat.le_of_ble_eq_true rfl) dX6_begin_8 (fun H locs hP hD hS => ?_)
  have hP := kP_eq (cWs_here G σ (c_held σ (15 : Int32).toNatClampNeg)) hP
  have hD := kD_eq (cWs_here G σ (c_held σ (15 : Int32).toNatClampNeg)) hD
  refine lv_aload_n hx hb dX6_begin_11 rfl (lv_at hl 0 rfl) ?_
  refine va_get (D := gD G) (ci := 4) hx hb hts ku_6 hown hK hP 3 rfl rfl 0 (by decide) (hts _ kw_36) (fun _ h9 => h9) rfl dX6_begin_12 ?_
  refine lv_bipush (v := 15) hx hb dX6_begin_15 (by decide) ?_
  refine lv_aload_n hx hb dX6_begin_17 rfl (lv_at hl 0 rfl) ?_
  refine kc_Vr (rest := [.int 15, .ref (gA G 4)]) (cx_Registers_behind l G (s_here σ (c_held σ (15 : Int32).toNatClampNeg))) ⟨hx, hb, hml, hown, hts⟩ (cwV 0 hts (gi_V kw_316 kw_317 kw_318 kw_19 kw_319) rfl rfl rfl ⟨rfl, mdX6_behind⟩ ⟨by decide, by decide⟩) (va_recv hK hP (ci := 4) (q0 := 3) rfl rfl) cZ_ok hK hP hD hS hA hZ rfl hl.1 rfl (Nat.le_of_ble_eq_true rfl) dX6_begin_18 ⟨Nat.zero_le _, Nat.zero_le _⟩ (fun H locs hP hD hS => ?_)
  refine va_iast hx hb hK hP hD hS 4 0 rfl rfl (by unfold vp_in; decide) dX6_begin_21 (fun H locs hP hD hS => ?_)
  have hP := kP_eq (cWs_held G (s_here σ (c_held σ (15 : Int32).toNatClampNeg)) (upd (c_held (s_here σ (c_held σ (15 : Int32).toNatClampNeg))) (15 : Int32).toNatClampNeg (x_Registers_behind (s_here σ (c_held σ (15 : Int32).toNatClampNeg))))) hP
  have hD := kD_eq (cWs_held G (s_here σ (c_held σ (15 : Int32).toNatClampNeg)) (upd (c_held (s_here σ (c_held σ (15 : Int32).toNatClampNeg))) (15 : Int32).toNatClampNeg (x_Registers_behind (s_here σ (c_held σ (15 : Int32).toNatClampNeg))))) hD
  exact hret (s_held (s_here σ (c_held σ (15 : Int32).toNatClampNeg)) (upd (c_held (s_here σ (c_held σ (15 : Int32).toNatClampNeg))) (15 : Int32).toNatClampNeg (x_Registers_behind (s_here σ (c_held σ (15 : Int32).toNatClampNeg))))) _ _ _ _ hf hP hD hS dX6_begin_22
def x_Registers_cpsr (σ : CS) : Int32 := c_cpsr σ
set_option maxRecDepth 20000 in
set_option maxHeartbeats 4000000 in
theorem cx_Registers_cpsr (l : Launch) (G : KG) (σ : CS) : KB l yX6_cpsr (Cond.code yX6_cpsr cX6_cpsr 1 (some .int) :: lw_all) (kr 0) (gD G) vwCl (gT G) (cZ G) (cW G) [.ref (gA G 3)] σ (x_Registers_cpsr σ, σ) := by
  refine kc_in_r (q := x_Registers_cpsr σ) (by decide) rfl (Nat.le_of_ble_eq_true rfl) ?_
  intro p e s m args below meth c A Q ls hx hb hml hown hts hK hP hD hA hS hZ hl hret
  have hts := fun w h => hts w (List.mem_cons_of_mem _ h)
  have hl : lv_has ls 1 [(0, .ref (gA G 3))] := hl
  have hf : x_Registers_cpsr σ = x_Registers_cpsr σ := rfl
  refine lv_aload_n hx hb dX6_cpsr_0 rfl (lv_at hl 0 rfl) ?_
  refine va_get (D := gD G) (ci := 4) hx hb hts ku_6 hown hK hP 3 rfl rfl 2 (by decide) (hts _ kw_38) (fun _ h9 => h9) rfl dX6_cpsr_1 ?_
  exact hret (c_cpsr σ) _ _ _ _ hf hP hD hS dX6_cpsr_4
def x_Registers_changeCpsr (σ : CS) (v0 : Int32) : CS := (if (x_Registers_bankOf (v0 &&& 31)) = (-1) then s_cpsr σ (((v0 &&& (-268435201)) &&& (-32)) ||| ((c_cpsr σ) &&& 31)) else s_bank (s_cpsr σ (v0 &&& (-268435201))) ((x_Registers_bankOf (v0 &&& 31)).toNatClampNeg))
set_option maxRecDepth 20000 in
set_option maxHeartbeats 4000000 in
theorem cx_Registers_changeCpsr (l : Launch) (G : KG) (σ : CS) (v0 : Int32) : KV l yX6_changeCpsr (Cond.code yX6_changeCpsr cX6_changeCpsr 3 none :: lw_all) (kr 1) (gD G) vwCl (gT G) (cZ G) (cW G) [.ref (gA G 3), .int v0] σ (x_Registers_changeCpsr σ v0) := by
  refine kc_in_v (q := x_Registers_changeCpsr σ v0) (by decide) rfl (Nat.le_of_ble_eq_true rfl) ?_
  intro p e s m args below meth c A Q ls hx hb hml hown hts hK hP hD hA hS hZ hl hret
  have hts := fun w h => hts w (List.mem_cons_of_mem _ h)
  have hl : lv_has ls 3 [(0, .ref (gA G 3)), (1, .int v0)] := hl
  have hf : x_Registers_changeCpsr σ v0 = x_Registers_changeCpsr σ v0 := rfl
  refine lv_iload_n hx hb dX6_changeCpsr_0 rfl (lv_at hl 1 rfl) ?_
  refine lv_bipush (v := 31) hx hb dX6_changeCpsr_1 (by decide) ?_
  refine lv_iand hx hb dX6_changeCpsr_3 ?_
  refine kp_Si (rest := []) (cx_Registers_bankOf l (v0 &&& 31)) ⟨hx, hb, hml, hown, hts⟩ (va_cwS 1 hts (gi_S kw_245 kw_181 kw_19 kw_182) rfl rfl rfl mdX6_bankOf ⟨by decide, by decide⟩) rfl hl.1 rfl (Nat.le_of_ble_eq_true rfl) dX6_changeCpsr_4 ⟨Nat.zero_le _, Nat.zero_le _⟩ ?_
  refine lv_istore_n (lv' := [(2, .int (x_Registers_bankOf (v0 &&& 31))), (0, .ref (gA G 3)), (1, .int v0)]) hx hb dX6_changeCpsr_7 rfl hl (by decide) rfl (fun ls hl => ?_)
  refine lv_iload_n hx hb dX6_changeCpsr_8 rfl (lv_at hl 0 rfl) ?_
  refine lv_iconst (v := (-1)) hx hb dX6_changeCpsr_9 (by decide) ?_
  refine lv_icmp_ne (tgt := 35) hx hb dX6_changeCpsr_10 (by decide) (fun h_2 => ?_) (fun h_2 => ?_)
  · have hf := hf.trans (if_neg h_2)
    refine lv_aload_n hx hb dX6_changeCpsr_35 rfl (lv_at hl 1 rfl) ?_
    refine lv_iload_n hx hb dX6_changeCpsr_36 rfl (lv_at hl 2 rfl) ?_
    refine lv_ldc (v := (-268435201)) hx hb hown (hts _ kw_244) dX6_changeCpsr_37 ?_
    refine lv_iand hx hb dX6_changeCpsr_39 ?_
    refine va_put (D := gD G) (ci := 4) (v := .int (v0 &&& (-268435201))) (ty := .int) hx hb hts ku_6 tyX6 tyX6_ok nmX6 hown hK hP hD hS 3 rfl rfl 2 (by decide) (hts _ kw_38) (fun _ h9 => h9) rfl (tyX6_ok 2 (by decide)) rfl rfl (Nat.le_of_ble_eq_true rfl) dX6_changeCpsr_40 (fun H locs hP hD hS => ?_)
    have hP := kP_eq (cWs_cpsr G σ (v0 &&& (-268435201))) hP
    have hD := kD_eq (cWs_cpsr G σ (v0 &&& (-268435201))) hD
    refine lv_aload_n hx hb dX6_changeCpsr_43 rfl (lv_at hl 1 rfl) ?_
    refine lv_iload_n hx hb dX6_changeCpsr_44 rfl (lv_at hl 0 rfl) ?_
    refine kc_top (bk_put (bankOf_in (by assumption))) ?_
    refine va_put (D := gD G) (ci := 4) (v := .int (nI ((x_Registers_bankOf (v0 &&& 31)).toNatClampNeg % 6))) (ty := .int) hx hb hts ku_6 tyX6 tyX6_ok nmX6 hown hK hP hD hS 3 rfl rfl 3 (by decide) (hts _ kw_39) (fun _ h9 => h9) rfl (tyX6_ok 3 (by decide)) rfl rfl (Nat.le_of_ble_eq_true rfl) dX6_changeCpsr_45 (fun H locs hP hD hS => ?_)
    have hP := kP_eq (cWs_bank G (s_cpsr σ (v0 &&& (-268435201))) ((x_Registers_bankOf (v0 &&& 31)).toNatClampNeg)) hP
    have hD := kD_eq (cWs_bank G (s_cpsr σ (v0 &&& (-268435201))) ((x_Registers_bankOf (v0 &&& 31)).toNatClampNeg)) hD
    exact hret (s_bank (s_cpsr σ (v0 &&& (-268435201))) ((x_Registers_bankOf (v0 &&& 31)).toNatClampNeg)) _ _ _ _ hf hP hD hS dX6_changeCpsr_48
  · have hf := hf.trans (if_pos h_2)
    refine lv_aload_n hx hb dX6_changeCpsr_13 rfl (lv_at hl 1 rfl) ?_
    refine lv_iload_n hx hb dX6_changeCpsr_14 rfl (lv_at hl 2 rfl) ?_
    refine lv_ldc (v := (-268435201)) hx hb hown (hts _ kw_244) dX6_changeCpsr_15 ?_
    refine lv_iand hx hb dX6_changeCpsr_17 ?_
    refine lv_bipush (v := (-32)) hx hb dX6_changeCpsr_18 (by decide) ?_
    refine lv_iand hx hb dX6_changeCpsr_20 ?_
    refine lv_aload_n hx hb dX6_changeCpsr_21 rfl (lv_at hl 1 rfl) ?_
    refine va_get (D := gD G) (ci := 4) hx hb hts ku_6 hown hK hP 3 rfl rfl 2 (by decide) (hts _ kw_38) (fun _ h9 => h9) rfl dX6_changeCpsr_22 ?_
    refine lv_bipush (v := 31) hx hb dX6_changeCpsr_25 (by decide) ?_
    refine lv_iand hx hb dX6_changeCpsr_27 ?_
    refine lv_ior hx hb dX6_changeCpsr_28 ?_
    refine va_put (D := gD G) (ci := 4) (v := .int (((v0 &&& (-268435201)) &&& (-32)) ||| ((c_cpsr σ) &&& 31))) (ty := .int) hx hb hts ku_6 tyX6 tyX6_ok nmX6 hown hK hP hD hS 3 rfl rfl 2 (by decide) (hts _ kw_38) (fun _ h9 => h9) rfl (tyX6_ok 2 (by decide)) rfl rfl (Nat.le_of_ble_eq_true rfl) dX6_changeCpsr_29 (fun H locs hP hD hS => ?_)
    have hP := kP_eq (cWs_cpsr G σ (((v0 &&& (-268435201)) &&& (-32)) ||| ((c_cpsr σ) &&& 31))) hP
    have hD := kD_eq (cWs_cpsr G σ (((v0 &&& (-268435201)) &&& (-32)) ||| ((c_cpsr σ) &&& 31))) hD
    refine lv_goto (tgt := 48) hx hb dX6_changeCpsr_32 (by decide) ?_
    exact hret (s_cpsr σ (((v0 &&& (-268435201)) &&& (-32)) ||| ((c_cpsr σ) &&& 31))) _ _ _ _ hf hP hD hS dX6_changeCpsr_48
def x_Registers_mixIntoCpsr_30 (σ : CS) (v0 : Int32) (v1 : Int32) (k0_30 : Int32) : CS := x_Registers_changeCpsr σ (((c_cpsr σ) &&& ((v1 &&& k0_30) ^^^ (-1))) ||| (v0 &&& (v1 &&& k0_30)))
def x_Registers_mixIntoCpsr (σ : CS) (v0 : Int32) (v1 : Int32) : CS := (if (decide (((c_cpsr σ) &&& 31) = 16)) = true then x_Registers_mixIntoCpsr_30 σ v0 v1 (-268435456) else x_Registers_mixIntoCpsr_30 σ v0 v1 (-268435233))
set_option maxRecDepth 20000 in
set_option maxHeartbeats 4000000 in
theorem cx_Registers_mixIntoCpsr (l : Launch) (G : KG) (σ : CS) (v0 : Int32) (v1 : Int32) : KV l yX6_mixIntoCpsr (Cond.code yX6_mixIntoCpsr cX6_mixIntoCpsr 5 none :: lw_all) (kr 2) (gD G) vwCl (gT G) (cZ G) (cW G) [.ref (gA G 3), .int v0, .int v1] σ (x_Registers_mixIntoCpsr σ v0 v1) := by
  refine kc_in_v (q := x_Registers_mixIntoCpsr σ v0 v1) (by decide) rfl (Nat.le_of_ble_eq_true rfl) ?_
  intro p e s m args below meth c A Q ls hx hb hml hown hts hK hP hD hA hS hZ hl hret
  have hts := fun w h => hts w (List.mem_cons_of_mem _ h)
  have hl : lv_has ls 5 [(0, .ref (gA G 3)), (1, .int v0), (2, .int v1)] := hl
  have hf : x_Registers_mixIntoCpsr σ v0 v1 = x_Registers_mixIntoCpsr σ v0 v1 := rfl
  have J30 : ∀ (k0_30 : Int32) (H : Heap) (locs : List Loc) (ls : Array Slot), va_P (gD G) vwCl (cW G (σ)) H → va_D A (cW G (σ)) → va_S A s.heap H locs → lv_has ls 5 [(0, .ref (gA G 3)), (1, .int v0)] → x_Registers_mixIntoCpsr σ v0 v1 = x_Registers_mixIntoCpsr_30 σ v0 v1 k0_30 → W p l e (kr 2) s m args below meth c H locs 0 0 Q (F0 m 30 ls [.int k0_30, .int v1]) := by
    intro k0_30 H locs ls hP hD hS hl hf
    refine lv_iand hx hb dX6_mixIntoCpsr_30 ?_
    refine lv_istore (lv' := [(4, .int (v1 &&& k0_30)), (0, .ref (gA G 3)), (1, .int v0)]) hx hb dX6_mixIntoCpsr_31 hl (by decide) rfl (fun ls hl => ?_)
    refine lv_aload_n hx hb dX6_mixIntoCpsr_33 rfl (lv_at hl 1 rfl) ?_
    refine lv_aload_n hx hb dX6_mixIntoCpsr_34 rfl (lv_at hl 1 rfl) ?_
    refine va_get (D := gD G) (ci := 4) hx hb hts ku_6 hown hK hP 3 rfl rfl 2 (by decide) (hts _ kw_38) (fun _ h9 => h9) rfl dX6_mixIntoCpsr_35 ?_
    refine lv_iload hx hb dX6_mixIntoCpsr_38 (lv_at hl 0 rfl) ?_
    refine lv_iconst (v := (-1)) hx hb dX6_mixIntoCpsr_40 (by decide) ?_
    refine lv_ixor hx hb dX6_mixIntoCpsr_41 ?_
    refine lv_iand hx hb dX6_mixIntoCpsr_42 ?_
    refine lv_iload_n hx hb dX6_mixIntoCpsr_43 rfl (lv_at hl 2 rfl) ?_
    refine lv_iload hx hb dX6_mixIntoCpsr_44 (lv_at hl 0 rfl) ?_
    refine lv_iand hx hb dX6_mixIntoCpsr_46 ?_
    refine lv_ior hx hb dX6_mixIntoCpsr_47 ?_
    refine kc_Vv (rest := []) (cx_Registers_changeCpsr l G σ (((c_cpsr σ) &&& ((v1 &&& k0_30) ^^^ (-1))) ||| (v0 &&& (v1 &&& k0_30)))) ⟨hx, hb, hml, hown, hts⟩ (cwV 1 hts (gi_V kw_649 kw_241 kw_242 kw_19 kw_243) rfl rfl rfl ⟨rfl, mdX6_changeCpsr⟩ ⟨by decide, by decide⟩) (va_recv hK hP (ci := 4) (q0 := 3) rfl rfl) cZ_ok hK hP hD hS hA hZ rfl hl.1 rfl (Nat.le_of_ble_eq_true rfl) dX6_mixIntoCpsr_48 ⟨Nat.zero_le _, Nat.zero_le _⟩ (fun H locs hP hD hS => ?_)
    exact hret (x_Registers_changeCpsr σ (((c_cpsr σ) &&& ((v1 &&& k0_30) ^^^ (-1))) ||| (v0 &&& (v1 &&& k0_30)))) _ _ _ _ hf hP hD hS dX6_mixIntoCpsr_51
  refine lv_aload_n hx hb dX6_mixIntoCpsr_0 rfl (lv_at hl 0 rfl) ?_
  refine va_get (D := gD G) (ci := 4) hx hb hts ku_6 hown hK hP 3 rfl rfl 2 (by decide) (hts _ kw_38) (fun _ h9 => h9) rfl dX6_mixIntoCpsr_1 ?_
  refine lv_bipush (v := 31) hx hb dX6_mixIntoCpsr_4 (by decide) ?_
  refine lv_iand hx hb dX6_mixIntoCpsr_6 ?_
  refine lv_bipush (v := 16) hx hb dX6_mixIntoCpsr_7 (by decide) ?_
  refine kz_dN0 (P := ((c_cpsr σ) &&& 31) = 16) (tgt := 16) (M := 17) (fun a b => lv_icmp_ne (tgt := 16) hx hb dX6_mixIntoCpsr_9 (by decide) a b) hx hb dX6_mixIntoCpsr_12 dX6_mixIntoCpsr_13 (by decide) dX6_mixIntoCpsr_16 rfl ?_
  refine lv_istore_n (lv' := [(3, .int (b01 (decide (((c_cpsr σ) &&& 31) = 16)))), (0, .ref (gA G 3)), (1, .int v0), (2, .int v1)]) hx hb dX6_mixIntoCpsr_17 rfl hl (by decide) rfl (fun ls hl => ?_)
  refine lv_iload_n hx hb dX6_mixIntoCpsr_18 rfl (lv_at hl 3 rfl) ?_
  refine lv_iload_n hx hb dX6_mixIntoCpsr_19 rfl (lv_at hl 0 rfl) ?_
  refine kz_eq (tgt := 28) hx hb dX6_mixIntoCpsr_20 (by decide) (fun h_4 => ?_) (fun h_4 => ?_)
  · have hf := hf.trans (if_neg h_4)
    refine lv_ldc (v := (-268435233)) hx hb hown (hts _ kw_648) dX6_mixIntoCpsr_28 ?_
    exact J30 (-268435233) _ _ _ hP hD hS (lv_sub hl [1, 2] rfl) hf
  · have hf := hf.trans (if_pos h_4)
    refine lv_ldc (v := (-268435456)) hx hb hown (hts _ kw_397) dX6_mixIntoCpsr_23 ?_
    refine lv_goto (tgt := 30) hx hb dX6_mixIntoCpsr_25 (by decide) ?_
    exact J30 (-268435456) _ _ _ hP hD hS (lv_sub hl [1, 2] rfl) hf
def x_Registers_spsr (σ : CS) (v0 : Int32) : Int32 := c_spsrs σ v0.toNatClampNeg
set_option maxRecDepth 20000 in
set_option maxHeartbeats 4000000 in
theorem cx_Registers_spsr (l : Launch) (G : KG) (σ : CS) (v0 : Int32) (hv0 : vp_in v0 6) : KB l yX6_spsr (Cond.code yX6_spsr cX6_spsr 2 (some .int) :: lw_all) (kr 0) (gD G) vwCl (gT G) (cZ G) (cW G) [.ref (gA G 3), .int v0] σ (x_Registers_spsr σ v0, σ) := by
  refine kc_in_r (q := x_Registers_spsr σ v0) (by decide) rfl (Nat.le_of_ble_eq_true rfl) ?_
  intro p e s m args below meth c A Q ls hx hb hml hown hts hK hP hD hA hS hZ hl hret
  have hts := fun w h => hts w (List.mem_cons_of_mem _ h)
  have hl : lv_has ls 2 [(0, .ref (gA G 3)), (1, .int v0)] := hl
  have hf : x_Registers_spsr σ v0 = x_Registers_spsr σ v0 := rfl
  refine lv_aload_n hx hb dX6_spsr_0 rfl (lv_at hl 0 rfl) ?_
  refine va_get (D := gD G) (ci := 4) hx hb hts ku_6 hown hK hP 3 rfl rfl 1 (by decide) (hts _ kw_37) (fun _ h9 => h9) rfl dX6_spsr_1 ?_
  refine lv_iload_n hx hb dX6_spsr_4 rfl (lv_at hl 1 rfl) ?_
  refine va_iald hx hb hK hP 5 0 rfl rfl hv0 dX6_spsr_5 ?_
  exact hret (c_spsrs σ v0.toNatClampNeg) _ _ _ _ hf hP hD hS dX6_spsr_6
def x_Registers_changeSpsr (σ : CS) (v0 : Int32) (v1 : Int32) : CS := s_spsrs σ (upd (c_spsrs σ) v0.toNatClampNeg (v1 &&& (-268435201)))
set_option maxRecDepth 20000 in
set_option maxHeartbeats 4000000 in
theorem cx_Registers_changeSpsr (l : Launch) (G : KG) (σ : CS) (v0 : Int32) (v1 : Int32) (hv0 : vp_in v0 6) : KV l yX6_changeSpsr (Cond.code yX6_changeSpsr cX6_changeSpsr 3 none :: lw_all) (kr 0) (gD G) vwCl (gT G) (cZ G) (cW G) [.ref (gA G 3), .int v0, .int v1] σ (x_Registers_changeSpsr σ v0 v1) := by
  refine kc_in_v (q := x_Registers_changeSpsr σ v0 v1) (by decide) rfl (Nat.le_of_ble_eq_true rfl) ?_
  intro p e s m args below meth c A Q ls hx hb hml hown hts hK hP hD hA hS hZ hl hret
  have hts := fun w h => hts w (List.mem_cons_of_mem _ h)
  have hl : lv_has ls 3 [(0, .ref (gA G 3)), (1, .int v0), (2, .int v1)] := hl
  have hf : x_Registers_changeSpsr σ v0 v1 = x_Registers_changeSpsr σ v0 v1 := rfl
  refine lv_aload_n hx hb dX6_changeSpsr_0 rfl (lv_at hl 0 rfl) ?_
  refine va_get (D := gD G) (ci := 4) hx hb hts ku_6 hown hK hP 3 rfl rfl 1 (by decide) (hts _ kw_37) (fun _ h9 => h9) rfl dX6_changeSpsr_1 ?_
  refine lv_iload_n hx hb dX6_changeSpsr_4 rfl (lv_at hl 1 rfl) ?_
  refine lv_iload_n hx hb dX6_changeSpsr_5 rfl (lv_at hl 2 rfl) ?_
  refine lv_ldc (v := (-268435201)) hx hb hown (hts _ kw_244) dX6_changeSpsr_6 ?_
  refine lv_iand hx hb dX6_changeSpsr_8 ?_
  refine va_iast hx hb hK hP hD hS 5 0 rfl rfl hv0 dX6_changeSpsr_9 (fun H locs hP hD hS => ?_)
  have hP := kP_eq (cWs_spsrs G σ (upd (c_spsrs σ) v0.toNatClampNeg (v1 &&& (-268435201)))) hP
  have hD := kD_eq (cWs_spsrs G σ (upd (c_spsrs σ) v0.toNatClampNeg (v1 &&& (-268435201)))) hD
  exact hret (s_spsrs σ (upd (c_spsrs σ) v0.toNatClampNeg (v1 &&& (-268435201)))) _ _ _ _ hf hP hD hS dX6_changeSpsr_10
def x_Registers_mixIntoSpsr (σ : CS) (v0 : Int32) (v1 : Int32) : CS := (if (c_bank σ) = 0 then σ else x_Registers_changeSpsr σ (c_bank σ) (((c_spsrs σ (c_bank σ).toNatClampNeg) &&& (v1 ^^^ (-1))) ||| (v0 &&& v1)))
set_option maxRecDepth 20000 in
set_option maxHeartbeats 4000000 in
theorem cx_Registers_mixIntoSpsr (l : Launch) (G : KG) (σ : CS) (v0 : Int32) (v1 : Int32) : KV l yX6_mixIntoSpsr (Cond.code yX6_mixIntoSpsr cX6_mixIntoSpsr 3 none :: lw_all) (kr 1) (gD G) vwCl (gT G) (cZ G) (cW G) [.ref (gA G 3), .int v0, .int v1] σ (x_Registers_mixIntoSpsr σ v0 v1) := by
  refine kc_in_v (q := x_Registers_mixIntoSpsr σ v0 v1) (by decide) rfl (Nat.le_of_ble_eq_true rfl) ?_
  intro p e s m args below meth c A Q ls hx hb hml hown hts hK hP hD hA hS hZ hl hret
  have hts := fun w h => hts w (List.mem_cons_of_mem _ h)
  have hl : lv_has ls 3 [(0, .ref (gA G 3)), (1, .int v0), (2, .int v1)] := hl
  have hf : x_Registers_mixIntoSpsr σ v0 v1 = x_Registers_mixIntoSpsr σ v0 v1 := rfl
  refine lv_aload_n hx hb dX6_mixIntoSpsr_0 rfl (lv_at hl 0 rfl) ?_
  refine va_get (D := gD G) (ci := 4) hx hb hts ku_6 hown hK hP 3 rfl rfl 3 (by decide) (hts _ kw_39) (fun _ h9 => h9) rfl dX6_mixIntoSpsr_1 ?_
  refine lv_if_eq (tgt := 32) hx hb dX6_mixIntoSpsr_4 (by decide) (fun h_2 => ?_) (fun h_2 => ?_)
  · have hf := hf.trans (if_pos h_2)
    exact hret σ _ _ _ _ hf hP hD hS dX6_mixIntoSpsr_32
  · have hf := hf.trans (if_neg h_2)
    refine lv_aload_n hx hb dX6_mixIntoSpsr_7 rfl (lv_at hl 0 rfl) ?_
    refine lv_aload_n hx hb dX6_mixIntoSpsr_8 rfl (lv_at hl 0 rfl) ?_
    refine va_get (D := gD G) (ci := 4) hx hb hts ku_6 hown hK hP 3 rfl rfl 3 (by decide) (hts _ kw_39) (fun _ h9 => h9) rfl dX6_mixIntoSpsr_9 ?_
    refine lv_aload_n hx hb dX6_mixIntoSpsr_12 rfl (lv_at hl 0 rfl) ?_
    refine va_get (D := gD G) (ci := 4) hx hb hts ku_6 hown hK hP 3 rfl rfl 1 (by decide) (hts _ kw_37) (fun _ h9 => h9) rfl dX6_mixIntoSpsr_13 ?_
    refine lv_aload_n hx hb dX6_mixIntoSpsr_16 rfl (lv_at hl 0 rfl) ?_
    refine va_get (D := gD G) (ci := 4) hx hb hts ku_6 hown hK hP 3 rfl rfl 3 (by decide) (hts _ kw_39) (fun _ h9 => h9) rfl dX6_mixIntoSpsr_17 ?_
    refine va_iald hx hb hK hP 5 0 rfl rfl (c_bank_in _) dX6_mixIntoSpsr_20 ?_
    refine lv_iload_n hx hb dX6_mixIntoSpsr_21 rfl (lv_at hl 2 rfl) ?_
    refine lv_iconst (v := (-1)) hx hb dX6_mixIntoSpsr_22 (by decide) ?_
    refine lv_ixor hx hb dX6_mixIntoSpsr_23 ?_
    refine lv_iand hx hb dX6_mixIntoSpsr_24 ?_
    refine lv_iload_n hx hb dX6_mixIntoSpsr_25 rfl (lv_at hl 1 rfl) ?_
    refine lv_iload_n hx hb dX6_mixIntoSpsr_26 rfl (lv_at hl 2 rfl) ?_
    refine lv_iand hx hb dX6_mixIntoSpsr_27 ?_
    refine lv_ior hx hb dX6_mixIntoSpsr_28 ?_
    refine kc_Vv (rest := []) (cx_Registers_changeSpsr l G σ (c_bank σ) (((c_spsrs σ (c_bank σ).toNatClampNeg) &&& (v1 ^^^ (-1))) ||| (v0 &&& v1)) (c_bank_in _)) ⟨hx, hb, hml, hown, hts⟩ (cwV 2 hts (gi_V kw_643 kw_275 kw_276 kw_19 kw_277) rfl rfl rfl ⟨rfl, mdX6_changeSpsr⟩ ⟨by decide, by decide⟩) (va_recv hK hP (ci := 4) (q0 := 3) rfl rfl) cZ_ok hK hP hD hS hA hZ rfl hl.1 rfl (Nat.le_of_ble_eq_true rfl) dX6_mixIntoSpsr_29 ⟨Nat.zero_le _, Nat.zero_le _⟩ (fun H locs hP hD hS => ?_)
    exact hret (x_Registers_changeSpsr σ (c_bank σ) (((c_spsrs σ (c_bank σ).toNatClampNeg) &&& (v1 ^^^ (-1))) ||| (v0 &&& v1))) _ _ _ _ hf hP hD hS dX6_mixIntoSpsr_32
def x_Registers_spsrOrCpsr (σ : CS) : Int32 := (if (c_bank σ) = 0 then c_cpsr σ else c_spsrs σ (c_bank σ).toNatClampNeg)
set_option maxRecDepth 20000 in
set_option maxHeartbeats 4000000 in
theorem cx_Registers_spsrOrCpsr (l : Launch) (G : KG) (σ : CS) : KB l yX6_spsrOrCpsr (Cond.code yX6_spsrOrCpsr cX6_spsrOrCpsr 1 (some .int) :: lw_all) (kr 0) (gD G) vwCl (gT G) (cZ G) (cW G) [.ref (gA G 3)] σ (x_Registers_spsrOrCpsr σ, σ) := by
  refine kc_in_r (q := x_Registers_spsrOrCpsr σ) (by decide) rfl (Nat.le_of_ble_eq_true rfl) ?_
  intro p e s m args below meth c A Q ls hx hb hml hown hts hK hP hD hA hS hZ hl hret
  have hts := fun w h => hts w (List.mem_cons_of_mem _ h)
  have hl : lv_has ls 1 [(0, .ref (gA G 3))] := hl
  have hf : x_Registers_spsrOrCpsr σ = x_Registers_spsrOrCpsr σ := rfl
  refine lv_aload_n hx hb dX6_spsrOrCpsr_0 rfl (lv_at hl 0 rfl) ?_
  refine va_get (D := gD G) (ci := 4) hx hb hts ku_6 hown hK hP 3 rfl rfl 3 (by decide) (hts _ kw_39) (fun _ h9 => h9) rfl dX6_spsrOrCpsr_1 ?_
  refine lv_if_ne (tgt := 14) hx hb dX6_spsrOrCpsr_4 (by decide) (fun h_2 => ?_) (fun h_2 => ?_)
  · have hf := hf.trans (if_neg h_2)
    refine lv_aload_n hx hb dX6_spsrOrCpsr_14 rfl (lv_at hl 0 rfl) ?_
    refine va_get (D := gD G) (ci := 4) hx hb hts ku_6 hown hK hP 3 rfl rfl 1 (by decide) (hts _ kw_37) (fun _ h9 => h9) rfl dX6_spsrOrCpsr_15 ?_
    refine lv_aload_n hx hb dX6_spsrOrCpsr_18 rfl (lv_at hl 0 rfl) ?_
    refine va_get (D := gD G) (ci := 4) hx hb hts ku_6 hown hK hP 3 rfl rfl 3 (by decide) (hts _ kw_39) (fun _ h9 => h9) rfl dX6_spsrOrCpsr_19 ?_
    refine va_iald hx hb hK hP 5 0 rfl rfl (c_bank_in _) dX6_spsrOrCpsr_22 ?_
    exact hret (c_spsrs σ (c_bank σ).toNatClampNeg) _ _ _ _ hf hP hD hS dX6_spsrOrCpsr_23
  · have hf := hf.trans (if_pos h_2)
    refine lv_aload_n hx hb dX6_spsrOrCpsr_7 rfl (lv_at hl 0 rfl) ?_
    refine va_get (D := gD G) (ci := 4) hx hb hts ku_6 hown hK hP 3 rfl rfl 2 (by decide) (hts _ kw_38) (fun _ h9 => h9) rfl dX6_spsrOrCpsr_8 ?_
    refine lv_goto (tgt := 23) hx hb dX6_spsrOrCpsr_11 (by decide) ?_
    exact hret (c_cpsr σ) _ _ _ _ hf hP hD hS dX6_spsrOrCpsr_23
def x_Registers_irqAllowed (σ : CS) : Bool := (if ((c_cpsr σ) &&& 128) = 0 then true else false)
set_option maxRecDepth 20000 in
set_option maxHeartbeats 4000000 in
theorem cx_Registers_irqAllowed (l : Launch) (G : KG) (σ : CS) : KB l yX6_irqAllowed (Cond.code yX6_irqAllowed cX6_irqAllowed 1 (some .boolean) :: lw_all) (kr 0) (gD G) vwCl (gT G) (cZ G) (cW G) [.ref (gA G 3)] σ (b01 (x_Registers_irqAllowed σ), σ) := by
  refine kc_in_y (q := x_Registers_irqAllowed σ) (by decide) rfl (Nat.le_of_ble_eq_true rfl) ?_
  intro p e s m args below meth c A Q ls hx hb hml hown hts hK hP hD hA hS hZ hl hret
  have hts := fun w h => hts w (List.mem_cons_of_mem _ h)
  have hl : lv_has ls 1 [(0, .ref (gA G 3))] := hl
  have hf : x_Registers_irqAllowed σ = x_Registers_irqAllowed σ := rfl
  refine lv_aload_n hx hb dX6_irqAllowed_0 rfl (lv_at hl 0 rfl) ?_
  refine va_get (D := gD G) (ci := 4) hx hb hts ku_6 hown hK hP 3 rfl rfl 2 (by decide) (hts _ kw_38) (fun _ h9 => h9) rfl dX6_irqAllowed_1 ?_
  refine lv_sipush (v := 128) hx hb dX6_irqAllowed_4 (by decide) ?_
  refine lv_iand hx hb dX6_irqAllowed_7 ?_
  refine lv_if_ne (tgt := 15) hx hb dX6_irqAllowed_8 (by decide) (fun h_2 => ?_) (fun h_2 => ?_)
  · have hf := hf.trans (if_neg h_2)
    refine lv_iconst (v := 0) hx hb dX6_irqAllowed_15 (by decide) ?_
    exact hret false _ _ _ _ hf hP hD hS dX6_irqAllowed_16
  · have hf := hf.trans (if_pos h_2)
    refine lv_iconst (v := 1) hx hb dX6_irqAllowed_11 (by decide) ?_
    refine lv_goto (tgt := 16) hx hb dX6_irqAllowed_12 (by decide) ?_
    exact hret true _ _ _ _ hf hP hD hS dX6_irqAllowed_16
def x_Registers_fiqAllowed (σ : CS) : Bool := (if ((c_cpsr σ) &&& 64) = 0 then true else false)
set_option maxRecDepth 20000 in
set_option maxHeartbeats 4000000 in
theorem cx_Registers_fiqAllowed (l : Launch) (G : KG) (σ : CS) : KB l yX6_fiqAllowed (Cond.code yX6_fiqAllowed cX6_fiqAllowed 1 (some .boolean) :: lw_all) (kr 0) (gD G) vwCl (gT G) (cZ G) (cW G) [.ref (gA G 3)] σ (b01 (x_Registers_fiqAllowed σ), σ) := by
  refine kc_in_y (q := x_Registers_fiqAllowed σ) (by decide) rfl (Nat.le_of_ble_eq_true rfl) ?_
  intro p e s m args below meth c A Q ls hx hb hml hown hts hK hP hD hA hS hZ hl hret
  have hts := fun w h => hts w (List.mem_cons_of_mem _ h)
  have hl : lv_has ls 1 [(0, .ref (gA G 3))] := hl
  have hf : x_Registers_fiqAllowed σ = x_Registers_fiqAllowed σ := rfl
  refine lv_aload_n hx hb dX6_fiqAllowed_0 rfl (lv_at hl 0 rfl) ?_
  refine va_get (D := gD G) (ci := 4) hx hb hts ku_6 hown hK hP 3 rfl rfl 2 (by decide) (hts _ kw_38) (fun _ h9 => h9) rfl dX6_fiqAllowed_1 ?_
  refine lv_bipush (v := 64) hx hb dX6_fiqAllowed_4 (by decide) ?_
  refine lv_iand hx hb dX6_fiqAllowed_6 ?_
  refine lv_if_ne (tgt := 14) hx hb dX6_fiqAllowed_7 (by decide) (fun h_2 => ?_) (fun h_2 => ?_)
  · have hf := hf.trans (if_neg h_2)
    refine lv_iconst (v := 0) hx hb dX6_fiqAllowed_14 (by decide) ?_
    exact hret false _ _ _ _ hf hP hD hS dX6_fiqAllowed_15
  · have hf := hf.trans (if_pos h_2)
    refine lv_iconst (v := 1) hx hb dX6_fiqAllowed_10 (by decide) ?_
    refine lv_goto (tgt := 15) hx hb dX6_fiqAllowed_11 (by decide) ?_
    exact hret true _ _ _ _ hf hP hD hS dX6_fiqAllowed_15
def x_Registers_carry (σ : CS) : Int32 := (iu (c_cpsr σ) 29) &&& 1
set_option maxRecDepth 20000 in
set_option maxHeartbeats 4000000 in
theorem cx_Registers_carry (l : Launch) (G : KG) (σ : CS) : KB l yX6_carry (Cond.code yX6_carry cX6_carry 1 (some .int) :: lw_all) (kr 0) (gD G) vwCl (gT G) (cZ G) (cW G) [.ref (gA G 3)] σ (x_Registers_carry σ, σ) := by
  refine kc_in_r (q := x_Registers_carry σ) (by decide) rfl (Nat.le_of_ble_eq_true rfl) ?_
  intro p e s m args below meth c A Q ls hx hb hml hown hts hK hP hD hA hS hZ hl hret
  have hts := fun w h => hts w (List.mem_cons_of_mem _ h)
  have hl : lv_has ls 1 [(0, .ref (gA G 3))] := hl
  have hf : x_Registers_carry σ = x_Registers_carry σ := rfl
  refine lv_aload_n hx hb dX6_carry_0 rfl (lv_at hl 0 rfl) ?_
  refine va_get (D := gD G) (ci := 4) hx hb hts ku_6 hown hK hP 3 rfl rfl 2 (by decide) (hts _ kw_38) (fun _ h9 => h9) rfl dX6_carry_1 ?_
  refine lv_bipush (v := 29) hx hb dX6_carry_4 (by decide) ?_
  refine lv_iushr (v := iu (c_cpsr σ) 29) hx hb dX6_carry_6 rfl ?_
  refine lv_iconst (v := 1) hx hb dX6_carry_7 (by decide) ?_
  refine lv_iand hx hb dX6_carry_8 ?_
  exact hret ((iu (c_cpsr σ) 29) &&& 1) _ _ _ _ hf hP hD hS dX6_carry_9
def x_Registers_overflow (σ : CS) : Int32 := (iu (c_cpsr σ) 28) &&& 1
set_option maxRecDepth 20000 in
set_option maxHeartbeats 4000000 in
theorem cx_Registers_overflow (l : Launch) (G : KG) (σ : CS) : KB l yX6_overflow (Cond.code yX6_overflow cX6_overflow 1 (some .int) :: lw_all) (kr 0) (gD G) vwCl (gT G) (cZ G) (cW G) [.ref (gA G 3)] σ (x_Registers_overflow σ, σ) := by
  refine kc_in_r (q := x_Registers_overflow σ) (by decide) rfl (Nat.le_of_ble_eq_true rfl) ?_
  intro p e s m args below meth c A Q ls hx hb hml hown hts hK hP hD hA hS hZ hl hret
  have hts := fun w h => hts w (List.mem_cons_of_mem _ h)
  have hl : lv_has ls 1 [(0, .ref (gA G 3))] := hl
  have hf : x_Registers_overflow σ = x_Registers_overflow σ := rfl
  refine lv_aload_n hx hb dX6_overflow_0 rfl (lv_at hl 0 rfl) ?_
  refine va_get (D := gD G) (ci := 4) hx hb hts ku_6 hown hK hP 3 rfl rfl 2 (by decide) (hts _ kw_38) (fun _ h9 => h9) rfl dX6_overflow_1 ?_
  refine lv_bipush (v := 28) hx hb dX6_overflow_4 (by decide) ?_
  refine lv_iushr (v := iu (c_cpsr σ) 28) hx hb dX6_overflow_6 rfl ?_
  refine lv_iconst (v := 1) hx hb dX6_overflow_7 (by decide) ?_
  refine lv_iand hx hb dX6_overflow_8 ?_
  exact hret ((iu (c_cpsr σ) 28) &&& 1) _ _ _ _ hf hP hD hS dX6_overflow_9
def x_Registers_changeFlags (σ : CS) (v0 : Int32) : CS := s_cpsr σ ((v0 &&& (-268435456)) ||| ((c_cpsr σ) &&& 268435455))
set_option maxRecDepth 20000 in
set_option maxHeartbeats 4000000 in
theorem cx_Registers_changeFlags (l : Launch) (G : KG) (σ : CS) (v0 : Int32) : KV l yX6_changeFlags (Cond.code yX6_changeFlags cX6_changeFlags 2 none :: lw_all) (kr 0) (gD G) vwCl (gT G) (cZ G) (cW G) [.ref (gA G 3), .int v0] σ (x_Registers_changeFlags σ v0) := by
  refine kc_in_v (q := x_Registers_changeFlags σ v0) (by decide) rfl (Nat.le_of_ble_eq_true rfl) ?_
  intro p e s m args below meth c A Q ls hx hb hml hown hts hK hP hD hA hS hZ hl hret
  have hts := fun w h => hts w (List.mem_cons_of_mem _ h)
  have hl : lv_has ls 2 [(0, .ref (gA G 3)), (1, .int v0)] := hl
  have hf : x_Registers_changeFlags σ v0 = x_Registers_changeFlags σ v0 := rfl
  refine lv_aload_n hx hb dX6_changeFlags_0 rfl (lv_at hl 0 rfl) ?_
  refine lv_iload_n hx hb dX6_changeFlags_1 rfl (lv_at hl 1 rfl) ?_
  refine lv_ldc (v := (-268435456)) hx hb hown (hts _ kw_397) dX6_changeFlags_2 ?_
  refine lv_iand hx hb dX6_changeFlags_4 ?_
  refine lv_aload_n hx hb dX6_changeFlags_5 rfl (lv_at hl 0 rfl) ?_
  refine va_get (D := gD G) (ci := 4) hx hb hts ku_6 hown hK hP 3 rfl rfl 2 (by decide) (hts _ kw_38) (fun _ h9 => h9) rfl dX6_changeFlags_6 ?_
  refine lv_ldc (v := 268435455) hx hb hown (hts _ kw_398) dX6_changeFlags_9 ?_
  refine lv_iand hx hb dX6_changeFlags_11 ?_
  refine lv_ior hx hb dX6_changeFlags_12 ?_
  refine va_put (D := gD G) (ci := 4) (v := .int ((v0 &&& (-268435456)) ||| ((c_cpsr σ) &&& 268435455))) (ty := .int) hx hb hts ku_6 tyX6 tyX6_ok nmX6 hown hK hP hD hS 3 rfl rfl 2 (by decide) (hts _ kw_38) (fun _ h9 => h9) rfl (tyX6_ok 2 (by decide)) rfl rfl (Nat.le_of_ble_eq_true rfl) dX6_changeFlags_13 (fun H locs hP hD hS => ?_)
  have hP := kP_eq (cWs_cpsr G σ ((v0 &&& (-268435456)) ||| ((c_cpsr σ) &&& 268435455))) hP
  have hD := kD_eq (cWs_cpsr G σ ((v0 &&& (-268435456)) ||| ((c_cpsr σ) &&& 268435455))) hD
  exact hret (s_cpsr σ ((v0 &&& (-268435456)) ||| ((c_cpsr σ) &&& 268435455))) _ _ _ _ hf hP hD hS dX6_changeFlags_16
def x_Registers_fits_176 (σ : CS) (v0 : Int32) (n6_176 : Bool) : Bool := (if (b01 n6_176) = (b01 (x_Bits_on v0 0)) then false else true)
def x_Registers_fits_132 (σ : CS) (v0 : Int32) (k0_132 : Bool) : Bool := x_Registers_fits_176 σ v0 k0_132
def x_Registers_fits_131 (σ : CS) (v0 : Int32) : Bool := x_Registers_fits_132 σ v0 false
def x_Registers_fits_168 (σ : CS) (v0 : Int32) (k0_168 : Bool) : Bool := x_Registers_fits_176 σ v0 k0_168
def x_Registers_fits_167 (σ : CS) (v0 : Int32) : Bool := x_Registers_fits_168 σ v0 false
def x_Registers_fits (σ : CS) (v0 : Int32) : Bool := (if (iu v0 1) = 0 then x_Registers_fits_176 σ v0 (x_Bits_on (c_cpsr σ) 30) else (if (iu v0 1) = 1 then x_Registers_fits_176 σ v0 (x_Bits_on (c_cpsr σ) 29) else (if (iu v0 1) = 2 then x_Registers_fits_176 σ v0 (decide (¬ 0 ≤ (c_cpsr σ))) else (if (iu v0 1) = 3 then x_Registers_fits_176 σ v0 (x_Bits_on (c_cpsr σ) 28) else (if (iu v0 1) = 4 then (if (x_Bits_on (c_cpsr σ) 29) = true then (if (x_Bits_on (c_cpsr σ) 30) = true then x_Registers_fits_131 σ v0 else x_Registers_fits_132 σ v0 true) else x_Registers_fits_131 σ v0) else (if (iu v0 1) = 5 then x_Registers_fits_176 σ v0 (decide ((b01 (decide (¬ 0 ≤ (c_cpsr σ)))) = (b01 (x_Bits_on (c_cpsr σ) 28)))) else (if (iu v0 1) = 6 then (if (b01 (decide (¬ 0 ≤ (c_cpsr σ)))) = (b01 (x_Bits_on (c_cpsr σ) 28)) then (if (x_Bits_on (c_cpsr σ) 30) = true then x_Registers_fits_167 σ v0 else x_Registers_fits_168 σ v0 true) else x_Registers_fits_167 σ v0) else x_Registers_fits_176 σ v0 true)))))))
set_option maxRecDepth 20000 in
set_option maxHeartbeats 4000000 in
theorem cx_Registers_fits (l : Launch) (G : KG) (σ : CS) (v0 : Int32) : KB l yX6_fits (Cond.code yX6_fits cX6_fits 7 (some .boolean) :: lw_all) (kr 1) (gD G) vwCl (gT G) (cZ G) (cW G) [.ref (gA G 3), .int v0] σ (b01 (x_Registers_fits σ v0), σ) := by
  refine kc_in_y (q := x_Registers_fits σ v0) (by decide) rfl (Nat.le_of_ble_eq_true rfl) ?_
  intro p e s m args below meth c A Q ls hx hb hml hown hts hK hP hD hA hS hZ hl hret
  have hts := fun w h => hts w (List.mem_cons_of_mem _ h)
  have hl : lv_has ls 7 [(0, .ref (gA G 3)), (1, .int v0)] := hl
  have hf : x_Registers_fits σ v0 = x_Registers_fits σ v0 := rfl
  have J176 : ∀ (n6_176 : Bool) (H : Heap) (locs : List Loc) (ls : Array Slot), va_P (gD G) vwCl (cW G (σ)) H → va_D A (cW G (σ)) → va_S A s.heap H locs → lv_has ls 7 [(1, .int v0), (6, .int (b01 n6_176))] → x_Registers_fits σ v0 = x_Registers_fits_176 σ v0 n6_176 → W p l e (kr 1) s m args below meth c H locs 0 0 Q (F0 m 176 ls []) := by
    intro n6_176 H locs ls hP hD hS hl hf
    refine lv_iload hx hb dX6_fits_176 (lv_at hl 1 rfl) ?_
    refine lv_iload_n hx hb dX6_fits_178 rfl (lv_at hl 0 rfl) ?_
    refine lv_iconst (v := 0) hx hb dX6_fits_179 (by decide) ?_
    refine kp_Si (rest := [.int (b01 n6_176)]) (cx_Bits_on l v0 0) ⟨hx, hb, hml, hown, hts⟩ (va_cwS 2 hts (gi_S kw_565 kw_356 kw_346 kw_357) rfl rfl rfl mdX2_on ⟨by decide, by decide⟩) rfl hl.1 rfl (Nat.le_of_ble_eq_true rfl) dX6_fits_180 ⟨Nat.zero_le _, Nat.zero_le _⟩ ?_
    refine lv_icmp_eq (tgt := 190) hx hb dX6_fits_183 (by decide) (fun h_15 => ?_) (fun h_15 => ?_)
    · have hf := hf.trans (if_pos h_15)
      refine lv_iconst (v := 0) hx hb dX6_fits_190 (by decide) ?_
      exact hret false _ _ _ _ hf hP hD hS dX6_fits_191
    · have hf := hf.trans (if_neg h_15)
      refine lv_iconst (v := 1) hx hb dX6_fits_186 (by decide) ?_
      refine lv_goto (tgt := 191) hx hb dX6_fits_187 (by decide) ?_
      exact hret true _ _ _ _ hf hP hD hS dX6_fits_191
  have J132 : ∀ (k0_132 : Bool) (H : Heap) (locs : List Loc) (ls : Array Slot), va_P (gD G) vwCl (cW G (σ)) H → va_D A (cW G (σ)) → va_S A s.heap H locs → lv_has ls 7 [(1, .int v0)] → x_Registers_fits σ v0 = x_Registers_fits_132 σ v0 k0_132 → W p l e (kr 1) s m args below meth c H locs 0 0 Q (F0 m 132 ls [.int (b01 k0_132)]) := by
    intro k0_132 H locs ls hP hD hS hl hf
    refine lv_istore (lv' := [(6, .int (b01 k0_132)), (1, .int v0)]) hx hb dX6_fits_132 hl (by decide) rfl (fun ls hl => ?_)
    refine lv_goto (tgt := 176) hx hb dX6_fits_134 (by decide) ?_
    exact J176 k0_132 _ _ _ hP hD hS (lv_sub hl [1, 0] rfl) hf
  have J131 : ∀ (H : Heap) (locs : List Loc) (ls : Array Slot), va_P (gD G) vwCl (cW G (σ)) H → va_D A (cW G (σ)) → va_S A s.heap H locs → lv_has ls 7 [(1, .int v0)] → x_Registers_fits σ v0 = x_Registers_fits_131 σ v0 → W p l e (kr 1) s m args below meth c H locs 0 0 Q (F0 m 131 ls []) := by
    intro H locs ls hP hD hS hl hf
    refine lv_iconst (v := 0) hx hb dX6_fits_131 (by decide) ?_
    exact J132 false _ _ _ hP hD hS (lv_sub hl [0] rfl) hf
  have J168 : ∀ (k0_168 : Bool) (H : Heap) (locs : List Loc) (ls : Array Slot), va_P (gD G) vwCl (cW G (σ)) H → va_D A (cW G (σ)) → va_S A s.heap H locs → lv_has ls 7 [(1, .int v0)] → x_Registers_fits σ v0 = x_Registers_fits_168 σ v0 k0_168 → W p l e (kr 1) s m args below meth c H locs 0 0 Q (F0 m 168 ls [.int (b01 k0_168)]) := by
    intro k0_168 H locs ls hP hD hS hl hf
    refine lv_istore (lv' := [(6, .int (b01 k0_168)), (1, .int v0)]) hx hb dX6_fits_168 hl (by decide) rfl (fun ls hl => ?_)
    refine lv_goto (tgt := 176) hx hb dX6_fits_170 (by decide) ?_
    exact J176 k0_168 _ _ _ hP hD hS (lv_sub hl [1, 0] rfl) hf
  have J167 : ∀ (H : Heap) (locs : List Loc) (ls : Array Slot), va_P (gD G) vwCl (cW G (σ)) H → va_D A (cW G (σ)) → va_S A s.heap H locs → lv_has ls 7 [(1, .int v0)] → x_Registers_fits σ v0 = x_Registers_fits_167 σ v0 → W p l e (kr 1) s m args below meth c H locs 0 0 Q (F0 m 167 ls []) := by
    intro H locs ls hP hD hS hl hf
    refine lv_iconst (v := 0) hx hb dX6_fits_167 (by decide) ?_
    exact J168 false _ _ _ hP hD hS (lv_sub hl [0] rfl) hf
  refine lv_aload_n hx hb dX6_fits_0 rfl (lv_at hl 0 rfl) ?_
  refine va_get (D := gD G) (ci := 4) hx hb hts ku_6 hown hK hP 3 rfl rfl 2 (by decide) (hts _ kw_38) (fun _ h9 => h9) rfl dX6_fits_1 ?_
  refine kz_dP0 (P := 0 ≤ (c_cpsr σ)) (tgt := 11) (M := 12) (fun a b => lv_if_ge (tgt := 11) hx hb dX6_fits_4 (by decide) a b) hx hb dX6_fits_7 dX6_fits_8 (by decide) dX6_fits_11 rfl ?_
  refine lv_istore_n (lv' := [(2, .int (b01 (decide (¬ 0 ≤ (c_cpsr σ))))), (0, .ref (gA G 3)), (1, .int v0)]) hx hb dX6_fits_12 rfl hl (by decide) rfl (fun ls hl => ?_)
  refine lv_aload_n hx hb dX6_fits_13 rfl (lv_at hl 1 rfl) ?_
  refine va_get (D := gD G) (ci := 4) hx hb hts ku_6 hown hK hP 3 rfl rfl 2 (by decide) (hts _ kw_38) (fun _ h9 => h9) rfl dX6_fits_14 ?_
  refine lv_bipush (v := 30) hx hb dX6_fits_17 (by decide) ?_
  refine kp_Si (rest := []) (cx_Bits_on l (c_cpsr σ) 30) ⟨hx, hb, hml, hown, hts⟩ (va_cwS 2 hts (gi_S kw_565 kw_356 kw_346 kw_357) rfl rfl rfl mdX2_on ⟨by decide, by decide⟩) rfl hl.1 rfl (Nat.le_of_ble_eq_true rfl) dX6_fits_19 ⟨Nat.zero_le _, Nat.zero_le _⟩ ?_
  refine lv_istore_n (lv' := [(3, .int (b01 (x_Bits_on (c_cpsr σ) 30))), (2, .int (b01 (decide (¬ 0 ≤ (c_cpsr σ))))), (0, .ref (gA G 3)), (1, .int v0)]) hx hb dX6_fits_22 rfl hl (by decide) rfl (fun ls hl => ?_)
  refine lv_aload_n hx hb dX6_fits_23 rfl (lv_at hl 2 rfl) ?_
  refine va_get (D := gD G) (ci := 4) hx hb hts ku_6 hown hK hP 3 rfl rfl 2 (by decide) (hts _ kw_38) (fun _ h9 => h9) rfl dX6_fits_24 ?_
  refine lv_bipush (v := 29) hx hb dX6_fits_27 (by decide) ?_
  refine kp_Si (rest := []) (cx_Bits_on l (c_cpsr σ) 29) ⟨hx, hb, hml, hown, hts⟩ (va_cwS 2 hts (gi_S kw_565 kw_356 kw_346 kw_357) rfl rfl rfl mdX2_on ⟨by decide, by decide⟩) rfl hl.1 rfl (Nat.le_of_ble_eq_true rfl) dX6_fits_29 ⟨Nat.zero_le _, Nat.zero_le _⟩ ?_
  refine lv_istore (lv' := [(4, .int (b01 (x_Bits_on (c_cpsr σ) 29))), (3, .int (b01 (x_Bits_on (c_cpsr σ) 30))), (2, .int (b01 (decide (¬ 0 ≤ (c_cpsr σ))))), (0, .ref (gA G 3)), (1, .int v0)]) hx hb dX6_fits_32 hl (by decide) rfl (fun ls hl => ?_)
  refine lv_aload_n hx hb dX6_fits_34 rfl (lv_at hl 3 rfl) ?_
  refine va_get (D := gD G) (ci := 4) hx hb hts ku_6 hown hK hP 3 rfl rfl 2 (by decide) (hts _ kw_38) (fun _ h9 => h9) rfl dX6_fits_35 ?_
  refine lv_bipush (v := 28) hx hb dX6_fits_38 (by decide) ?_
  refine kp_Si (rest := []) (cx_Bits_on l (c_cpsr σ) 28) ⟨hx, hb, hml, hown, hts⟩ (va_cwS 2 hts (gi_S kw_565 kw_356 kw_346 kw_357) rfl rfl rfl mdX2_on ⟨by decide, by decide⟩) rfl hl.1 rfl (Nat.le_of_ble_eq_true rfl) dX6_fits_40 ⟨Nat.zero_le _, Nat.zero_le _⟩ ?_
  refine lv_istore (lv' := [(5, .int (b01 (x_Bits_on (c_cpsr σ) 28))), (4, .int (b01 (x_Bits_on (c_cpsr σ) 29))), (3, .int (b01 (x_Bits_on (c_cpsr σ) 30))), (2, .int (b01 (decide (¬ 0 ≤ (c_cpsr σ))))), (0, .ref (gA G 3)), (1, .int v0)]) hx hb dX6_fits_43 hl (by decide) rfl (fun ls hl => ?_)
  refine lv_iload_n hx hb dX6_fits_45 rfl (lv_at hl 5 rfl) ?_
  refine lv_iconst (v := 1) hx hb dX6_fits_46 (by decide) ?_
  refine lv_iushr (v := iu v0 1) hx hb dX6_fits_47 rfl ?_
  by_cases h_17 : (iu v0 1) = 0
  · have hf := hf.trans (if_pos h_17)
    refine lv_tableIn (tgt := 92) hx hb dX6_fits_48 (by rw [h_17]; decide) (by rw [h_17]; decide) (by rw [h_17]; rfl) (by decide) ?_
    refine lv_iload_n hx hb dX6_fits_92 rfl (lv_at hl 2 rfl) ?_
    refine lv_istore (lv' := [(6, .int (b01 (x_Bits_on (c_cpsr σ) 30))), (5, .int (b01 (x_Bits_on (c_cpsr σ) 28))), (4, .int (b01 (x_Bits_on (c_cpsr σ) 29))), (3, .int (b01 (x_Bits_on (c_cpsr σ) 30))), (2, .int (b01 (decide (¬ 0 ≤ (c_cpsr σ))))), (0, .ref (gA G 3)), (1, .int v0)]) hx hb dX6_fits_93 hl (by decide) rfl (fun ls hl => ?_)
    refine lv_goto (tgt := 176) hx hb dX6_fits_95 (by decide) ?_
    exact J176 (x_Bits_on (c_cpsr σ) 30) _ _ _ hP hD hS (lv_sub hl [6, 0] rfl) hf
  have hf := hf.trans (if_neg h_17)
  by_cases h_18 : (iu v0 1) = 1
  · have hf := hf.trans (if_pos h_18)
    refine lv_tableIn (tgt := 98) hx hb dX6_fits_48 (by rw [h_18]; decide) (by rw [h_18]; decide) (by rw [h_18]; rfl) (by decide) ?_
    refine lv_iload hx hb dX6_fits_98 (lv_at hl 1 rfl) ?_
    refine lv_istore (lv' := [(6, .int (b01 (x_Bits_on (c_cpsr σ) 29))), (5, .int (b01 (x_Bits_on (c_cpsr σ) 28))), (4, .int (b01 (x_Bits_on (c_cpsr σ) 29))), (3, .int (b01 (x_Bits_on (c_cpsr σ) 30))), (2, .int (b01 (decide (¬ 0 ≤ (c_cpsr σ))))), (0, .ref (gA G 3)), (1, .int v0)]) hx hb dX6_fits_100 hl (by decide) rfl (fun ls hl => ?_)
    refine lv_goto (tgt := 176) hx hb dX6_fits_102 (by decide) ?_
    exact J176 (x_Bits_on (c_cpsr σ) 29) _ _ _ hP hD hS (lv_sub hl [6, 0] rfl) hf
  have hf := hf.trans (if_neg h_18)
  by_cases h_19 : (iu v0 1) = 2
  · have hf := hf.trans (if_pos h_19)
    refine lv_tableIn (tgt := 105) hx hb dX6_fits_48 (by rw [h_19]; decide) (by rw [h_19]; decide) (by rw [h_19]; rfl) (by decide) ?_
    refine lv_iload_n hx hb dX6_fits_105 rfl (lv_at hl 3 rfl) ?_
    refine lv_istore (lv' := [(6, .int (b01 (decide (¬ 0 ≤ (c_cpsr σ))))), (5, .int (b01 (x_Bits_on (c_cpsr σ) 28))), (4, .int (b01 (x_Bits_on (c_cpsr σ) 29))), (3, .int (b01 (x_Bits_on (c_cpsr σ) 30))), (2, .int (b01 (decide (¬ 0 ≤ (c_cpsr σ))))), (0, .ref (gA G 3)), (1, .int v0)]) hx hb dX6_fits_106 hl (by decide) rfl (fun ls hl => ?_)
    refine lv_goto (tgt := 176) hx hb dX6_fits_108 (by decide) ?_
    exact J176 (decide (¬ 0 ≤ (c_cpsr σ))) _ _ _ hP hD hS (lv_sub hl [6, 0] rfl) hf
  have hf := hf.trans (if_neg h_19)
  by_cases h_20 : (iu v0 1) = 3
  · have hf := hf.trans (if_pos h_20)
    refine lv_tableIn (tgt := 111) hx hb dX6_fits_48 (by rw [h_20]; decide) (by rw [h_20]; decide) (by rw [h_20]; rfl) (by decide) ?_
    refine lv_iload hx hb dX6_fits_111 (lv_at hl 0 rfl) ?_
    refine lv_istore (lv' := [(6, .int (b01 (x_Bits_on (c_cpsr σ) 28))), (5, .int (b01 (x_Bits_on (c_cpsr σ) 28))), (4, .int (b01 (x_Bits_on (c_cpsr σ) 29))), (3, .int (b01 (x_Bits_on (c_cpsr σ) 30))), (2, .int (b01 (decide (¬ 0 ≤ (c_cpsr σ))))), (0, .ref (gA G 3)), (1, .int v0)]) hx hb dX6_fits_113 hl (by decide) rfl (fun ls hl => ?_)
    refine lv_goto (tgt := 176) hx hb dX6_fits_115 (by decide) ?_
    exact J176 (x_Bits_on (c_cpsr σ) 28) _ _ _ hP hD hS (lv_sub hl [6, 0] rfl) hf
  have hf := hf.trans (if_neg h_20)
  by_cases h_21 : (iu v0 1) = 4
  · have hf := hf.trans (if_pos h_21)
    refine lv_tableIn (tgt := 118) hx hb dX6_fits_48 (by rw [h_21]; decide) (by rw [h_21]; decide) (by rw [h_21]; rfl) (by decide) ?_
    refine lv_iload hx hb dX6_fits_118 (lv_at hl 1 rfl) ?_
    refine kz_eq (tgt := 131) hx hb dX6_fits_120 (by decide) (fun h_22 => ?_) (fun h_22 => ?_)
    · have hf := hf.trans (if_neg h_22)
      exact J131 _ _ _ hP hD hS (lv_sub hl [5] rfl) hf
    · have hf := hf.trans (if_pos h_22)
      refine lv_iload_n hx hb dX6_fits_123 rfl (lv_at hl 2 rfl) ?_
      refine kz_ne (tgt := 131) hx hb dX6_fits_124 (by decide) (fun h_23 => ?_) (fun h_23 => ?_)
      · have hf := hf.trans (if_pos h_23)
        exact J131 _ _ _ hP hD hS (lv_sub hl [5] rfl) hf
      · have hf := hf.trans (if_neg h_23)
        refine lv_iconst (v := 1) hx hb dX6_fits_127 (by decide) ?_
        refine lv_goto (tgt := 132) hx hb dX6_fits_128 (by decide) ?_
        exact J132 true _ _ _ hP hD hS (lv_sub hl [5] rfl) hf
  have hf := hf.trans (if_neg h_21)
  by_cases h_24 : (iu v0 1) = 5
  · have hf := hf.trans (if_pos h_24)
    refine lv_tableIn (tgt := 137) hx hb dX6_fits_48 (by rw [h_24]; decide) (by rw [h_24]; decide) (by rw [h_24]; rfl) (by decide) ?_
    refine lv_iload_n hx hb dX6_fits_137 rfl (lv_at hl 3 rfl) ?_
    refine lv_iload hx hb dX6_fits_138 (lv_at hl 0 rfl) ?_
    refine kz_dN0 (P := (b01 (decide (¬ 0 ≤ (c_cpsr σ)))) = (b01 (x_Bits_on (c_cpsr σ) 28))) (tgt := 147) (M := 148) (fun a b => lv_icmp_ne (tgt := 147) hx hb dX6_fits_140 (by decide) a b) hx hb dX6_fits_143 dX6_fits_144 (by decide) dX6_fits_147 rfl ?_
    refine lv_istore (lv' := [(6, .int (b01 (decide ((b01 (decide (¬ 0 ≤ (c_cpsr σ)))) = (b01 (x_Bits_on (c_cpsr σ) 28)))))), (5, .int (b01 (x_Bits_on (c_cpsr σ) 28))), (4, .int (b01 (x_Bits_on (c_cpsr σ) 29))), (3, .int (b01 (x_Bits_on (c_cpsr σ) 30))), (2, .int (b01 (decide (¬ 0 ≤ (c_cpsr σ))))), (0, .ref (gA G 3)), (1, .int v0)]) hx hb dX6_fits_148 hl (by decide) rfl (fun ls hl => ?_)
    refine lv_goto (tgt := 176) hx hb dX6_fits_150 (by decide) ?_
    exact J176 (decide ((b01 (decide (¬ 0 ≤ (c_cpsr σ)))) = (b01 (x_Bits_on (c_cpsr σ) 28)))) _ _ _ hP hD hS (lv_sub hl [6, 0] rfl) hf
  have hf := hf.trans (if_neg h_24)
  by_cases h_26 : (iu v0 1) = 6
  · have hf := hf.trans (if_pos h_26)
    refine lv_tableIn (tgt := 153) hx hb dX6_fits_48 (by rw [h_26]; decide) (by rw [h_26]; decide) (by rw [h_26]; rfl) (by decide) ?_
    refine lv_iload_n hx hb dX6_fits_153 rfl (lv_at hl 3 rfl) ?_
    refine lv_iload hx hb dX6_fits_154 (lv_at hl 0 rfl) ?_
    refine lv_icmp_ne (tgt := 167) hx hb dX6_fits_156 (by decide) (fun h_27 => ?_) (fun h_27 => ?_)
    · have hf := hf.trans (if_neg h_27)
      exact J167 _ _ _ hP hD hS (lv_sub hl [5] rfl) hf
    · have hf := hf.trans (if_pos h_27)
      refine lv_iload_n hx hb dX6_fits_159 rfl (lv_at hl 2 rfl) ?_
      refine kz_ne (tgt := 167) hx hb dX6_fits_160 (by decide) (fun h_28 => ?_) (fun h_28 => ?_)
      · have hf := hf.trans (if_pos h_28)
        exact J167 _ _ _ hP hD hS (lv_sub hl [5] rfl) hf
      · have hf := hf.trans (if_neg h_28)
        refine lv_iconst (v := 1) hx hb dX6_fits_163 (by decide) ?_
        refine lv_goto (tgt := 168) hx hb dX6_fits_164 (by decide) ?_
        exact J168 true _ _ _ hP hD hS (lv_sub hl [5] rfl) hf
  have hf := hf.trans (if_neg h_26)
  refine ksw_dflt (tgt := 173) hx hb dX6_fits_48 [0, 1, 2, 3, 4, 5, 6] (ksw_c h_17 (ksw_c h_18 (ksw_c h_19 (ksw_c h_20 (ksw_c h_21 (ksw_c h_24 (ksw_c h_26 ksw_n))))))) (by decide) (by decide) ?_
  refine lv_iconst (v := 1) hx hb dX6_fits_173 (by decide) ?_
  refine lv_istore (lv' := [(6, .int 1), (5, .int (b01 (x_Bits_on (c_cpsr σ) 28))), (4, .int (b01 (x_Bits_on (c_cpsr σ) 29))), (3, .int (b01 (x_Bits_on (c_cpsr σ) 30))), (2, .int (b01 (decide (¬ 0 ≤ (c_cpsr σ))))), (0, .ref (gA G 3)), (1, .int v0)]) hx hb dX6_fits_174 hl (by decide) rfl (fun ls hl => ?_)
  exact J176 true _ _ _ hP hD hS (lv_sub hl [6, 0] rfl) hf
def x_Registers_linkOf (σ : CS) (v0 : Int32) : Int32 := (if v0 = 0 then x_Registers_behind σ else (if v0 = 1 then x_Registers_behind σ else (if v0 = 3 then (c_here σ) + 8 else (c_here σ) + 4)))
set_option maxRecDepth 20000 in
set_option maxHeartbeats 4000000 in
theorem cx_Registers_linkOf (l : Launch) (G : KG) (σ : CS) (v0 : Int32) : KB l yX6_linkOf (Cond.code yX6_linkOf cX6_linkOf 2 (some .int) :: lw_all) (kr 2) (gD G) vwCl (gT G) (cZ G) (cW G) [.ref (gA G 3), .int v0] σ (x_Registers_linkOf σ v0, σ) := by
  refine kc_in_r (q := x_Registers_linkOf σ v0) (by decide) rfl (Nat.le_of_ble_eq_true rfl) ?_
  intro p e s m args below meth c A Q ls hx hb hml hown hts hK hP hD hA hS hZ hl hret
  have hts := fun w h => hts w (List.mem_cons_of_mem _ h)
  have hl : lv_has ls 2 [(0, .ref (gA G 3)), (1, .int v0)] := hl
  have hf : x_Registers_linkOf σ v0 = x_Registers_linkOf σ v0 := rfl
  refine lv_iload_n hx hb dX6_linkOf_0 rfl (lv_at hl 1 rfl) ?_
  refine lv_if_eq (tgt := 9) hx hb dX6_linkOf_1 (by decide) (fun h_4 => ?_) (fun h_4 => ?_)
  · have hf := hf.trans (if_pos h_4)
    refine lv_aload_n hx hb dX6_linkOf_9 rfl (lv_at hl 0 rfl) ?_
    refine kc_Vr (rest := []) (cx_Registers_behind l G σ) ⟨hx, hb, hml, hown, hts⟩ (cwV 0 hts (gi_V kw_316 kw_317 kw_318 kw_19 kw_319) rfl rfl rfl ⟨rfl, mdX6_behind⟩ ⟨by decide, by decide⟩) (va_recv hK hP (ci := 4) (q0 := 3) rfl rfl) cZ_ok hK hP hD hS hA hZ rfl hl.1 rfl (Nat.le_of_ble_eq_true rfl) dX6_linkOf_10 ⟨Nat.zero_le _, Nat.zero_le _⟩ (fun H locs hP hD hS => ?_)
    exact hret (x_Registers_behind σ) _ _ _ _ hf hP hD hS dX6_linkOf_13
  · have hf := hf.trans (if_neg h_4)
    refine lv_iload_n hx hb dX6_linkOf_4 rfl (lv_at hl 1 rfl) ?_
    refine lv_iconst (v := 1) hx hb dX6_linkOf_5 (by decide) ?_
    refine lv_icmp_ne (tgt := 14) hx hb dX6_linkOf_6 (by decide) (fun h_5 => ?_) (fun h_5 => ?_)
    · have hf := hf.trans (if_neg h_5)
      refine lv_iload_n hx hb dX6_linkOf_14 rfl (lv_at hl 1 rfl) ?_
      refine lv_iconst (v := 3) hx hb dX6_linkOf_15 (by decide) ?_
      refine lv_icmp_ne (tgt := 29) hx hb dX6_linkOf_16 (by decide) (fun h_6 => ?_) (fun h_6 => ?_)
      · have hf := hf.trans (if_neg h_6)
        refine lv_aload_n hx hb dX6_linkOf_29 rfl (lv_at hl 0 rfl) ?_
        refine va_get (D := gD G) (ci := 4) hx hb hts ku_6 hown hK hP 3 rfl rfl 4 (by decide) (hts _ kw_40) (fun _ h9 => h9) rfl dX6_linkOf_30 ?_
        refine lv_iconst (v := 4) hx hb dX6_linkOf_33 (by decide) ?_
        refine lv_iadd hx hb dX6_linkOf_34 ?_
        exact hret ((c_here σ) + 4) _ _ _ _ hf hP hD hS dX6_linkOf_35
      · have hf := hf.trans (if_pos h_6)
        refine lv_aload_n hx hb dX6_linkOf_19 rfl (lv_at hl 0 rfl) ?_
        refine va_get (D := gD G) (ci := 4) hx hb hts ku_6 hown hK hP 3 rfl rfl 4 (by decide) (hts _ kw_40) (fun _ h9 => h9) rfl dX6_linkOf_20 ?_
        refine lv_bipush (v := 8) hx hb dX6_linkOf_23 (by decide) ?_
        refine lv_iadd hx hb dX6_linkOf_25 ?_
        refine lv_goto (tgt := 35) hx hb dX6_linkOf_26 (by decide) ?_
        exact hret ((c_here σ) + 8) _ _ _ _ hf hP hD hS dX6_linkOf_35
    · have hf := hf.trans (if_pos h_5)
      refine lv_aload_n hx hb dX6_linkOf_9 rfl (lv_at hl 0 rfl) ?_
      refine kc_Vr (rest := []) (cx_Registers_behind l G σ) ⟨hx, hb, hml, hown, hts⟩ (cwV 0 hts (gi_V kw_316 kw_317 kw_318 kw_19 kw_319) rfl rfl rfl ⟨rfl, mdX6_behind⟩ ⟨by decide, by decide⟩) (va_recv hK hP (ci := 4) (q0 := 3) rfl rfl) cZ_ok hK hP hD hS hA hZ rfl hl.1 rfl (Nat.le_of_ble_eq_true rfl) dX6_linkOf_10 ⟨Nat.zero_le _, Nat.zero_le _⟩ (fun H locs hP hD hS => ?_)
      exact hret (x_Registers_behind σ) _ _ _ _ hf hP hD hS dX6_linkOf_13
def x_Registers_enter_25 (σ : CS) (v0 : Int32) (k0_25 : Int32) : CS := x_Registers_jump (x_Registers_write (x_Registers_changeSpsr (x_Registers_changeCpsr σ (((((c_cpsr σ) &&& (-33)) &&& (-32)) ||| k0_25) ||| (x_Fault_modeOf σ v0))) (c_bank (x_Registers_changeCpsr σ (((((c_cpsr σ) &&& (-33)) &&& (-32)) ||| k0_25) ||| (x_Fault_modeOf σ v0)))) (c_cpsr σ)) 14 (x_Registers_linkOf σ v0)) (x_Fault_vectorOf (x_Registers_write (x_Registers_changeSpsr (x_Registers_changeCpsr σ (((((c_cpsr σ) &&& (-33)) &&& (-32)) ||| k0_25) ||| (x_Fault_modeOf σ v0))) (c_bank (x_Registers_changeCpsr σ (((((c_cpsr σ) &&& (-33)) &&& (-32)) ||| k0_25) ||| (x_Fault_modeOf σ v0)))) (c_cpsr σ)) 14 (x_Registers_linkOf σ v0)) v0)
def x_Registers_enter (σ : CS) (v0 : Int32) : CS := (if v0 = 5 then x_Registers_enter_25 σ v0 192 else x_Registers_enter_25 σ v0 128)
set_option maxRecDepth 20000 in
set_option maxHeartbeats 4000000 in
theorem cx_Registers_enter (l : Launch) (G : KG) (σ : CS) (v0 : Int32) : KV l yX6_enter (Cond.code yX6_enter cX6_enter 5 none :: lw_all) (kr 3) (gD G) vwCl (gT G) (cZ G) (cW G) [.ref (gA G 3), .int v0] σ (x_Registers_enter σ v0) := by
  refine kc_in_v (q := x_Registers_enter σ v0) (by decide) rfl (Nat.le_of_ble_eq_true rfl) ?_
  intro p e s m args below meth c A Q ls hx hb hml hown hts hK hP hD hA hS hZ hl hret
  have hts := fun w h => hts w (List.mem_cons_of_mem _ h)
  have hl : lv_has ls 5 [(0, .ref (gA G 3)), (1, .int v0)] := hl
  have hf : x_Registers_enter σ v0 = x_Registers_enter σ v0 := rfl
  have J25 : ∀ (k0_25 : Int32) (H : Heap) (locs : List Loc) (ls : Array Slot), va_P (gD G) vwCl (cW G (σ)) H → va_D A (cW G (σ)) → va_S A s.heap H locs → lv_has ls 5 [(0, .ref (gA G 3)), (1, .int v0), (2, .int (c_cpsr σ)), (3, .int (x_Registers_linkOf σ v0))] → x_Registers_enter σ v0 = x_Registers_enter_25 σ v0 k0_25 → W p l e (kr 3) s m args below meth c H locs 0 0 Q (F0 m 25 ls [.int k0_25]) := by
    intro k0_25 H locs ls hP hD hS hl hf
    refine lv_istore (lv' := [(4, .int k0_25), (0, .ref (gA G 3)), (1, .int v0), (2, .int (c_cpsr σ)), (3, .int (x_Registers_linkOf σ v0))]) hx hb dX6_enter_25 hl (by decide) rfl (fun ls hl => ?_)
    refine lv_aload_n hx hb dX6_enter_27 rfl (lv_at hl 1 rfl) ?_
    refine lv_iload_n hx hb dX6_enter_28 rfl (lv_at hl 3 rfl) ?_
    refine lv_bipush (v := (-33)) hx hb dX6_enter_29 (by decide) ?_
    refine lv_iand hx hb dX6_enter_31 ?_
    refine lv_bipush (v := (-32)) hx hb dX6_enter_32 (by decide) ?_
    refine lv_iand hx hb dX6_enter_34 ?_
    refine lv_iload hx hb dX6_enter_35 (lv_at hl 0 rfl) ?_
    refine lv_ior hx hb dX6_enter_37 ?_
    refine lv_iload_n hx hb dX6_enter_38 rfl (lv_at hl 2 rfl) ?_
    refine kc_Sr (rest := [.int ((((c_cpsr σ) &&& (-33)) &&& (-32)) ||| k0_25), .ref (gA G 3)]) (cx_Fault_modeOf l G σ v0) ⟨hx, hb, hml, hown, hts⟩ (va_cwS 1 hts (gi_S kw_706 kw_707 kw_696 kw_708) rfl rfl rfl mdX3_modeOf ⟨by decide, by decide⟩) cZ_ok hK hP hD hS hA hZ rfl hl.1 rfl (Nat.le_of_ble_eq_true rfl) dX6_enter_39 ⟨Nat.zero_le _, Nat.zero_le _⟩ (fun H locs hP hD hS => ?_)
    refine lv_ior hx hb dX6_enter_42 ?_
    refine kc_Vv (rest := []) (cx_Registers_changeCpsr l G σ (((((c_cpsr σ) &&& (-33)) &&& (-32)) ||| k0_25) ||| (x_Fault_modeOf σ v0))) ⟨hx, hb, hml, hown, hts⟩ (cwV 1 hts (gi_V kw_649 kw_241 kw_242 kw_19 kw_243) rfl rfl rfl ⟨rfl, mdX6_changeCpsr⟩ ⟨by decide, by decide⟩) (va_recv hK hP (ci := 4) (q0 := 3) rfl rfl) cZ_ok hK hP hD hS hA hZ rfl hl.1 rfl (Nat.le_of_ble_eq_true rfl) dX6_enter_43 ⟨Nat.zero_le _, Nat.zero_le _⟩ (fun H locs hP hD hS => ?_)
    refine lv_aload_n hx hb dX6_enter_46 rfl (lv_at hl 1 rfl) ?_
    refine lv_aload_n hx hb dX6_enter_47 rfl (lv_at hl 1 rfl) ?_
    refine va_get (D := gD G) (ci := 4) hx hb hts ku_6 hown hK hP 3 rfl rfl 3 (by decide) (hts _ kw_39) (fun _ h9 => h9) rfl dX6_enter_48 ?_
    refine lv_iload_n hx hb dX6_enter_51 rfl (lv_at hl 3 rfl) ?_
    refine kc_Vv (rest := []) (cx_Registers_changeSpsr l G (x_Registers_changeCpsr σ (((((c_cpsr σ) &&& (-33)) &&& (-32)) ||| k0_25) ||| (x_Fault_modeOf σ v0))) (c_bank (x_Registers_changeCpsr σ (((((c_cpsr σ) &&& (-33)) &&& (-32)) ||| k0_25) ||| (x_Fault_modeOf σ v0)))) (c_cpsr σ) (c_bank_in _)) ⟨hx, hb, hml, hown, hts⟩ (cwV 2 hts (gi_V kw_643 kw_275 kw_276 kw_19 kw_277) rfl rfl rfl ⟨rfl, mdX6_changeSpsr⟩ ⟨by decide, by decide⟩) (va_recv hK hP (ci := 4) (q0 := 3) rfl rfl) cZ_ok hK hP hD hS hA hZ rfl hl.1 rfl (Nat.le_of_ble_eq_true rfl) dX6_enter_52 ⟨Nat.zero_le _, Nat.zero_le _⟩ (fun H locs hP hD hS => ?_)
    refine lv_aload_n hx hb dX6_enter_55 rfl (lv_at hl 1 rfl) ?_
    refine lv_bipush (v := 14) hx hb dX6_enter_56 (by decide) ?_
    refine lv_iload_n hx hb dX6_enter_58 rfl (lv_at hl 4 rfl) ?_
    refine kc_Vv (rest := []) (cx_Registers_write l G (x_Registers_changeSpsr (x_Registers_changeCpsr σ (((((c_cpsr σ) &&& (-33)) &&& (-32)) ||| k0_25) ||| (x_Fault_modeOf σ v0))) (c_bank (x_Registers_changeCpsr σ (((((c_cpsr σ) &&& (-33)) &&& (-32)) ||| k0_25) ||| (x_Fault_modeOf σ v0)))) (c_cpsr σ)) 14 (x_Registers_linkOf σ v0) (by unfold vp_in; decide)) ⟨hx, hb, hml, hown, hts⟩ (cwV 2 hts (gi_V kw_711 kw_403 kw_404 kw_19 kw_405) rfl rfl rfl ⟨rfl, mdX6_write⟩ ⟨by decide, by decide⟩) (va_recv hK hP (ci := 4) (q0 := 3) rfl rfl) cZ_ok hK hP hD hS hA hZ rfl hl.1 rfl (Nat.le_of_ble_eq_true rfl) dX6_enter_59 ⟨Nat.zero_le _, Nat.zero_le _⟩ (fun H locs hP hD hS => ?_)
    refine lv_aload_n hx hb dX6_enter_62 rfl (lv_at hl 1 rfl) ?_
    refine lv_iload_n hx hb dX6_enter_63 rfl (lv_at hl 2 rfl) ?_
    refine kc_Sr (rest := [.ref (gA G 3)]) (cx_Fault_vectorOf l G (x_Registers_write (x_Registers_changeSpsr (x_Registers_changeCpsr σ (((((c_cpsr σ) &&& (-33)) &&& (-32)) ||| k0_25) ||| (x_Fault_modeOf σ v0))) (c_bank (x_Registers_changeCpsr σ (((((c_cpsr σ) &&& (-33)) &&& (-32)) ||| k0_25) ||| (x_Fault_modeOf σ v0)))) (c_cpsr σ)) 14 (x_Registers_linkOf σ v0)) v0) ⟨hx, hb, hml, hown, hts⟩ (va_cwS 1 hts (gi_S kw_712 kw_713 kw_696 kw_714) rfl rfl rfl mdX3_vectorOf ⟨by decide, by decide⟩) cZ_ok hK hP hD hS hA hZ rfl hl.1 rfl (Nat.le_of_ble_eq_true rfl) dX6_enter_64 ⟨Nat.zero_le _, Nat.zero_le _⟩ (fun H locs hP hD hS => ?_)
    refine kc_Vv (rest := []) (cx_Registers_jump l G (x_Registers_write (x_Registers_changeSpsr (x_Registers_changeCpsr σ (((((c_cpsr σ) &&& (-33)) &&& (-32)) ||| k0_25) ||| (x_Fault_modeOf σ v0))) (c_bank (x_Registers_changeCpsr σ (((((c_cpsr σ) &&& (-33)) &&& (-32)) ||| k0_25) ||| (x_Fault_modeOf σ v0)))) (c_cpsr σ)) 14 (x_Registers_linkOf σ v0)) (x_Fault_vectorOf (x_Registers_write (x_Registers_changeSpsr (x_Registers_changeCpsr σ (((((c_cpsr σ) &&& (-33)) &&& (-32)) ||| k0_25) ||| (x_Fault_modeOf σ v0))) (c_bank (x_Registers_changeCpsr σ (((((c_cpsr σ) &&& (-33)) &&& (-32)) ||| k0_25) ||| (x_Fault_modeOf σ v0)))) (c_cpsr σ)) 14 (x_Registers_linkOf σ v0)) v0)) ⟨hx, hb, hml, hown, hts⟩ (cwV 1 hts (gi_V kw_406 kw_187 kw_188 kw_19 kw_189) rfl rfl rfl ⟨rfl, mdX6_jump⟩ ⟨by decide, by decide⟩) (va_recv hK hP (ci := 4) (q0 := 3) rfl rfl) cZ_ok hK hP hD hS hA hZ rfl hl.1 rfl (Nat.le_of_ble_eq_true rfl) dX6_enter_67 ⟨Nat.zero_le _, Nat.zero_le _⟩ (fun H locs hP hD hS => ?_)
    exact hret (x_Registers_jump (x_Registers_write (x_Registers_changeSpsr (x_Registers_changeCpsr σ (((((c_cpsr σ) &&& (-33)) &&& (-32)) ||| k0_25) ||| (x_Fault_modeOf σ v0))) (c_bank (x_Registers_changeCpsr σ (((((c_cpsr σ) &&& (-33)) &&& (-32)) ||| k0_25) ||| (x_Fault_modeOf σ v0)))) (c_cpsr σ)) 14 (x_Registers_linkOf σ v0)) (x_Fault_vectorOf (x_Registers_write (x_Registers_changeSpsr (x_Registers_changeCpsr σ (((((c_cpsr σ) &&& (-33)) &&& (-32)) ||| k0_25) ||| (x_Fault_modeOf σ v0))) (c_bank (x_Registers_changeCpsr σ (((((c_cpsr σ) &&& (-33)) &&& (-32)) ||| k0_25) ||| (x_Fault_modeOf σ v0)))) (c_cpsr σ)) 14 (x_Registers_linkOf σ v0)) v0)) _ _ _ _ hf hP hD hS dX6_enter_70
  refine lv_aload_n hx hb dX6_enter_0 rfl (lv_at hl 0 rfl) ?_
  refine va_get (D := gD G) (ci := 4) hx hb hts ku_6 hown hK hP 3 rfl rfl 2 (by decide) (hts _ kw_38) (fun _ h9 => h9) rfl dX6_enter_1 ?_
  refine lv_istore_n (lv' := [(2, .int (c_cpsr σ)), (0, .ref (gA G 3)), (1, .int v0)]) hx hb dX6_enter_4 rfl hl (by decide) rfl (fun ls hl => ?_)
  refine lv_aload_n hx hb dX6_enter_5 rfl (lv_at hl 1 rfl) ?_
  refine lv_iload_n hx hb dX6_enter_6 rfl (lv_at hl 2 rfl) ?_
  refine kc_Vr (rest := []) (cx_Registers_linkOf l G σ v0) ⟨hx, hb, hml, hown, hts⟩ (cwV 1 hts (gi_V kw_702 kw_703 kw_704 kw_19 kw_705) rfl rfl rfl ⟨rfl, mdX6_linkOf⟩ ⟨by decide, by decide⟩) (va_recv hK hP (ci := 4) (q0 := 3) rfl rfl) cZ_ok hK hP hD hS hA hZ rfl hl.1 rfl (Nat.le_of_ble_eq_true rfl) dX6_enter_7 ⟨Nat.zero_le _, Nat.zero_le _⟩ (fun H locs hP hD hS => ?_)
  refine lv_istore_n (lv' := [(3, .int (x_Registers_linkOf σ v0)), (2, .int (c_cpsr σ)), (0, .ref (gA G 3)), (1, .int v0)]) hx hb dX6_enter_10 rfl hl (by decide) rfl (fun ls hl => ?_)
  refine lv_iload_n hx hb dX6_enter_11 rfl (lv_at hl 3 rfl) ?_
  refine lv_iconst (v := 5) hx hb dX6_enter_12 (by decide) ?_
  refine lv_icmp_ne (tgt := 22) hx hb dX6_enter_13 (by decide) (fun h_2 => ?_) (fun h_2 => ?_)
  · have hf := hf.trans (if_neg h_2)
    refine lv_sipush (v := 128) hx hb dX6_enter_22 (by decide) ?_
    exact J25 128 _ _ _ hP hD hS (lv_sub hl [2, 3, 1, 0] rfl) hf
  · have hf := hf.trans (if_pos h_2)
    refine lv_sipush (v := 192) hx hb dX6_enter_16 (by decide) ?_
    refine lv_goto (tgt := 25) hx hb dX6_enter_19 (by decide) ?_
    exact J25 192 _ _ _ hP hD hS (lv_sub hl [2, 3, 1, 0] rfl) hf
