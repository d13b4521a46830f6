def x_Bits_on (v0 : Int32) (v1 : Int32) : Bool := (if ((iu v0 v1) &&& 1) = 0 then false else true)
set_option maxRecDepth 20000 in
set_option maxHeartbeats 4000000 in
theorem cx_Bits_on (l : Launch) (v0 : Int32) (v1 : Int32) : KPi l yX2_on (Cond.code yX2_on cX2_on 2 (some .boolean) :: lw_all) (kr 0) [.int v0, .int v1] (b01 (x_Bits_on v0 v1)) := by
  refine kp_in_z (q := x_Bits_on v0 v1) (by decide) rfl (Nat.le_of_ble_eq_true rfl) ?_
  intro p e s m args below meth c Q ls hx hb hml hown hts hl hret
  have hts := fun w h => hts w (List.mem_cons_of_mem _ h)
  have hl : lv_has ls 2 [(0, .int v0), (1, .int v1)] := hl
  have hf : x_Bits_on v0 v1 = x_Bits_on v0 v1 := rfl
  refine lv_iload_n hx hb dX2_on_0 rfl (lv_at hl 0 rfl) ?_
  refine lv_iload_n hx hb dX2_on_1 rfl (lv_at hl 1 rfl) ?_
  refine lv_iushr (v := iu v0 v1) hx hb dX2_on_2 rfl ?_
  refine lv_iconst (v := 1) hx hb dX2_on_3 (by decide) ?_
  refine lv_iand hx hb dX2_on_4 ?_
  refine lv_if_eq (tgt := 12) hx hb dX2_on_5 (by decide) (fun h_2 => ?_) (fun h_2 => ?_)
  · have hf := hf.trans (if_pos h_2)
    refine lv_iconst (v := 0) hx hb dX2_on_12 (by decide) ?_
    exact hret false _ _ hf dX2_on_13
  · have hf := hf.trans (if_neg h_2)
    refine lv_iconst (v := 1) hx hb dX2_on_8 (by decide) ?_
    refine lv_goto (tgt := 13) hx hb dX2_on_9 (by decide) ?_
    exact hret true _ _ hf dX2_on_13
def x_Bits_three (v0 : Int32) (v1 : Int32) : Int32 := (iu v0 v1) &&& 7
set_option maxRecDepth 20000 in
set_option maxHeartbeats 4000000 in
theorem cx_Bits_three (l : Launch) (v0 : Int32) (v1 : Int32) : KPi l yX2_three (Cond.code yX2_three cX2_three 2 (some .int) :: lw_all) (kr 0) [.int v0, .int v1] (x_Bits_three v0 v1) := by
  refine kp_in_i (q := x_Bits_three v0 v1) (by decide) rfl (Nat.le_of_ble_eq_true rfl) ?_
  intro p e s m args below meth c Q ls hx hb hml hown hts hl hret
  have hts := fun w h => hts w (List.mem_cons_of_mem _ h)
  have hl : lv_has ls 2 [(0, .int v0), (1, .int v1)] := hl
  have hf : x_Bits_three v0 v1 = x_Bits_three v0 v1 := rfl
  refine lv_iload_n hx hb dX2_three_0 rfl (lv_at hl 0 rfl) ?_
  refine lv_iload_n hx hb dX2_three_1 rfl (lv_at hl 1 rfl) ?_
  refine lv_iushr (v := iu v0 v1) hx hb dX2_three_2 rfl ?_
  refine lv_bipush (v := 7) hx hb dX2_three_3 (by decide) ?_
  refine lv_iand hx hb dX2_three_5 ?_
  exact hret ((iu v0 v1) &&& 7) _ _ hf dX2_three_6
theorem bt3_8 (v l : Int32) : vp_in (x_Bits_three v l) 8 := pk_andIn _ 3 (by decide) (by decide)
theorem bt3_16 (v l : Int32) : vp_in (x_Bits_three v l) 16 := by
  obtain ⟨j, hj, e⟩ := vp_in_of (bt3_8 v l) (by decide)
  rw [e]; exact nI_vp (by omega) (by decide)
def x_Bits_four (v0 : Int32) (v1 : Int32) : Int32 := (iu v0 v1) &&& 15
set_option maxRecDepth 20000 in
set_option maxHeartbeats 4000000 in
theorem cx_Bits_four (l : Launch) (v0 : Int32) (v1 : Int32) : KPi l yX2_four (Cond.code yX2_four cX2_four 2 (some .int) :: lw_all) (kr 0) [.int v0, .int v1] (x_Bits_four v0 v1) := by
  refine kp_in_i (q := x_Bits_four v0 v1) (by decide) rfl (Nat.le_of_ble_eq_true rfl) ?_
  intro p e s m args below meth c Q ls hx hb hml hown hts hl hret
  have hts := fun w h => hts w (List.mem_cons_of_mem _ h)
  have hl : lv_has ls 2 [(0, .int v0), (1, .int v1)] := hl
  have hf : x_Bits_four v0 v1 = x_Bits_four v0 v1 := rfl
  refine lv_iload_n hx hb dX2_four_0 rfl (lv_at hl 0 rfl) ?_
  refine lv_iload_n hx hb dX2_four_1 rfl (lv_at hl 1 rfl) ?_
  refine lv_iushr (v := iu v0 v1) hx hb dX2_four_2 rfl ?_
  refine lv_bipush (v := 15) hx hb dX2_four_3 (by decide) ?_
  refine lv_iand hx hb dX2_four_5 ?_
  exact hret ((iu v0 v1) &&& 15) _ _ hf dX2_four_6
theorem bt4_16 (v l : Int32) : vp_in (x_Bits_four v l) 16 := pk_andIn _ 4 (by decide) (by decide)
def x_Bits_five (v0 : Int32) (v1 : Int32) : Int32 := (iu v0 v1) &&& 31
set_option maxRecDepth 20000 in
set_option maxHeartbeats 4000000 in
theorem cx_Bits_five (l : Launch) (v0 : Int32) (v1 : Int32) : KPi l yX2_five (Cond.code yX2_five cX2_five 2 (some .int) :: lw_all) (kr 0) [.int v0, .int v1] (x_Bits_five v0 v1) := by
  refine kp_in_i (q := x_Bits_five v0 v1) (by decide) rfl (Nat.le_of_ble_eq_true rfl) ?_
  intro p e s m args below meth c Q ls hx hb hml hown hts hl hret
  have hts := fun w h => hts w (List.mem_cons_of_mem _ h)
  have hl : lv_has ls 2 [(0, .int v0), (1, .int v1)] := hl
  have hf : x_Bits_five v0 v1 = x_Bits_five v0 v1 := rfl
  refine lv_iload_n hx hb dX2_five_0 rfl (lv_at hl 0 rfl) ?_
  refine lv_iload_n hx hb dX2_five_1 rfl (lv_at hl 1 rfl) ?_
  refine lv_iushr (v := iu v0 v1) hx hb dX2_five_2 rfl ?_
  refine lv_bipush (v := 31) hx hb dX2_five_3 (by decide) ?_
  refine lv_iand hx hb dX2_five_5 ?_
  exact hret ((iu v0 v1) &&& 31) _ _ hf dX2_five_6
def x_Fault_isKind (v0 : Int32) : Bool := (if v0 < 0 then false else (if 6 ≤ v0 then false else true))
set_option maxRecDepth 20000 in
set_option maxHeartbeats 4000000 in
theorem cx_Fault_isKind (l : Launch) (v0 : Int32) : KPi l yX3_isKind (Cond.code yX3_isKind cX3_isKind 1 (some .boolean) :: lw_all) (kr 0) [.int v0] (b01 (x_Fault_isKind v0)) := by
  refine kp_in_z (q := x_Fault_isKind v0) (by decide) rfl (Nat.le_of_ble_eq_true rfl) ?_
  intro p e s m args below meth c Q ls hx hb hml hown hts hl hret
  have hts := fun w h => hts w (List.mem_cons_of_mem _ h)
  have hl : lv_has ls 1 [(0, .int v0)] := hl
  have hf : x_Fault_isKind v0 = x_Fault_isKind v0 := rfl
  refine lv_iload_n hx hb dX3_isKind_0 rfl (lv_at hl 0 rfl) ?_
  refine lv_if_lt (tgt := 14) hx hb dX3_isKind_1 (by decide) (fun h_3 => ?_) (fun h_3 => ?_)
  · have hf := hf.trans (if_pos h_3)
    refine lv_iconst (v := 0) hx hb dX3_isKind_14 (by decide) ?_
    exact hret false _ _ hf dX3_isKind_15
  · have hf := hf.trans (if_neg h_3)
    refine lv_iload_n hx hb dX3_isKind_4 rfl (lv_at hl 0 rfl) ?_
    refine lv_bipush (v := 6) hx hb dX3_isKind_5 (by decide) ?_
    refine lv_icmp_ge (tgt := 14) hx hb dX3_isKind_7 (by decide) (fun h_4 => ?_) (fun h_4 => ?_)
    · have hf := hf.trans (if_pos h_4)
      refine lv_iconst (v := 0) hx hb dX3_isKind_14 (by decide) ?_
      exact hret false _ _ hf dX3_isKind_15
    · have hf := hf.trans (if_neg h_4)
      refine lv_iconst (v := 1) hx hb dX3_isKind_10 (by decide) ?_
      refine lv_goto (tgt := 15) hx hb dX3_isKind_11 (by decide) ?_
      exact hret true _ _ hf dX3_isKind_15
theorem fk_in {f : Int32} (h : x_Fault_isKind f = true) : vp_in f 6 := by
  unfold x_Fault_isKind at h
  by_cases h1 : f < 0
  · rw [if_pos h1] at h; cases h
  · rw [if_neg h1] at h
    by_cases h2 : 6 ≤ f
    · rw [if_pos h2] at h; cases h
    · rw [vp_in_iff]
      have a1 : ¬ f.toInt < (0 : Int32).toInt := fun q => h1 (Int32.lt_iff_toInt_lt.mpr q)
      have a2 : ¬ (6 : Int32).toInt ≤ f.toInt := fun q => h2 (Int32.le_iff_toInt_le.mpr q)
      have e0 : (0 : Int32).toInt = 0 := by decide
      have e6 : (6 : Int32).toInt = 6 := by decide
      rw [e0] at a1
      rw [e6] at a2
      exact ⟨by omega, by omega⟩
def x_Fault_modeOf (σ : CS) (v0 : Int32) : Int32 := (if (x_Fault_isKind v0) = true then tMO v0.toNatClampNeg else tMO (0 : Int32).toNatClampNeg)
set_option maxRecDepth 20000 in
set_option maxHeartbeats 4000000 in
theorem cx_Fault_modeOf (l : Launch) (G : KG) (σ : CS) (v0 : Int32) : KB l yX3_modeOf (Cond.code yX3_modeOf cX3_modeOf 1 (some .int) :: lw_all) (kr 1) (gD G) vwCl (gT G) (cZ G) (cW G) [.int v0] σ (x_Fault_modeOf σ v0, σ) := by
  refine kc_in_r (q := x_Fault_modeOf σ v0) (by decide) rfl (Nat.le_of_ble_eq_true rfl) ?_
  intro p e s m args below meth c A Q ls hx hb hml hown hts hK hP hD hA hS hZ hl hret
  have hts := fun w h => hts w (List.mem_cons_of_mem _ h)
  have hl : lv_has ls 1 [(0, .int v0)] := hl
  have hf : x_Fault_modeOf σ v0 = x_Fault_modeOf σ v0 := rfl
  refine lv_iload_n hx hb dX3_modeOf_0 rfl (lv_at hl 0 rfl) ?_
  refine kp_Si (rest := []) (cx_Fault_isKind l v0) ⟨hx, hb, hml, hown, hts⟩ (va_cwS 1 hts (gi_S kw_710 kw_695 kw_696 kw_697) rfl rfl rfl mdX3_isKind ⟨by decide, by decide⟩) rfl hl.1 rfl (Nat.le_of_ble_eq_true rfl) dX3_modeOf_1 ⟨Nat.zero_le _, Nat.zero_le _⟩ ?_
  refine kz_eq (tgt := 15) hx hb dX3_modeOf_4 (by decide) (fun h_2 => ?_) (fun h_2 => ?_)
  · have hf := hf.trans (if_neg h_2)
    refine va_gets hx hb hZ.1.2.1.1 hS hown (hts _ kw_709) (fun _ h => h) dX3_modeOf_15 ?_
    refine lv_iconst (v := 0) hx hb dX3_modeOf_18 (by decide) ?_
    refine va_ti hx hb hZ.1.2.1.2 hS (i := (0 : Int32)) (by unfold vp_in; decide) rfl dX3_modeOf_19 ?_
    exact hret (tMO (0 : Int32).toNatClampNeg) _ _ _ _ hf hP hD hS dX3_modeOf_20
  · have hf := hf.trans (if_pos h_2)
    refine va_gets hx hb hZ.1.2.1.1 hS hown (hts _ kw_709) (fun _ h => h) dX3_modeOf_7 ?_
    refine lv_iload_n hx hb dX3_modeOf_10 rfl (lv_at hl 0 rfl) ?_
    refine va_ti hx hb hZ.1.2.1.2 hS (i := v0) (fk_in (by assumption)) rfl dX3_modeOf_11 ?_
    refine lv_goto (tgt := 20) hx hb dX3_modeOf_12 (by decide) ?_
    exact hret (tMO v0.toNatClampNeg) _ _ _ _ hf hP hD hS dX3_modeOf_20
def x_Fault_vectorOf (σ : CS) (v0 : Int32) : Int32 := (if (x_Fault_isKind v0) = true then tVE v0.toNatClampNeg else tVE (0 : Int32).toNatClampNeg)
set_option maxRecDepth 20000 in
set_option maxHeartbeats 4000000 in
theorem cx_Fault_vectorOf (l : Launch) (G : KG) (σ : CS) (v0 : Int32) : KB l yX3_vectorOf (Cond.code yX3_vectorOf cX3_vectorOf 1 (some .int) :: lw_all) (kr 1) (gD G) vwCl (gT G) (cZ G) (cW G) [.int v0] σ (x_Fault_vectorOf σ v0, σ) := by
  refine kc_in_r (q := x_Fault_vectorOf σ v0) (by decide) rfl (Nat.le_of_ble_eq_true rfl) ?_
  intro p e s m args below meth c A Q ls hx hb hml hown hts hK hP hD hA hS hZ hl hret
  have hts := fun w h => hts w (List.mem_cons_of_mem _ h)
  have hl : lv_has ls 1 [(0, .int v0)] := hl
  have hf : x_Fault_vectorOf σ v0 = x_Fault_vectorOf σ v0 := rfl
  refine lv_iload_n hx hb dX3_vectorOf_0 rfl (lv_at hl 0 rfl) ?_
  refine kp_Si (rest := []) (cx_Fault_isKind l v0) ⟨hx, hb, hml, hown, hts⟩ (va_cwS 1 hts (gi_S kw_710 kw_695 kw_696 kw_697) rfl rfl rfl mdX3_isKind ⟨by decide, by decide⟩) rfl hl.1 rfl (Nat.le_of_ble_eq_true rfl) dX3_vectorOf_1 ⟨Nat.zero_le _, Nat.zero_le _⟩ ?_
  refine kz_eq (tgt := 15) hx hb dX3_vectorOf_4 (by decide) (fun h_2 => ?_) (fun h_2 => ?_)
  · have hf := hf.trans (if_neg h_2)
    refine va_gets hx hb hZ.1.2.2.1.1 hS hown (hts _ kw_715) (fun _ h => h) dX3_vectorOf_15 ?_
    refine lv_iconst (v := 0) hx hb dX3_vectorOf_18 (by decide) ?_
    refine va_ti hx hb hZ.1.2.2.1.2 hS (i := (0 : Int32)) (by unfold vp_in; decide) rfl dX3_vectorOf_19 ?_
    exact hret (tVE (0 : Int32).toNatClampNeg) _ _ _ _ hf hP hD hS dX3_vectorOf_20
  · have hf := hf.trans (if_pos h_2)
    refine va_gets hx hb hZ.1.2.2.1.1 hS hown (hts _ kw_715) (fun _ h => h) dX3_vectorOf_7 ?_
    refine lv_iload_n hx hb dX3_vectorOf_10 rfl (lv_at hl 0 rfl) ?_
    refine va_ti hx hb hZ.1.2.2.1.2 hS (i := v0) (fk_in (by assumption)) rfl dX3_vectorOf_11 ?_
    refine lv_goto (tgt := 20) hx hb dX3_vectorOf_12 (by decide) ?_
    exact hret (tVE v0.toNatClampNeg) _ _ _ _ hf hP hD hS dX3_vectorOf_20
def x_Memory_holds (σ : CS) (v0 : Int32) : Bool := (if v0 < 0 then false else (if 262144 ≤ v0 then false else true))
set_option maxRecDepth 20000 in
set_option maxHeartbeats 4000000 in
theorem cx_Memory_holds (l : Launch) (G : KG) (σ : CS) (v0 : Int32) : KB l yX4_holds (Cond.code yX4_holds cX4_holds 2 (some .boolean) :: lw_all) (kr 0) (gD G) vwCl (gT G) (cZ G) (cW G) [.ref (gA G 1), .int v0] σ (b01 (x_Memory_holds σ v0), σ) := by
  refine kc_in_y (q := x_Memory_holds σ v0) (by decide) rfl (Nat.le_of_ble_eq_true rfl) ?_
  intro p e s m args below meth c A Q ls hx hb hml hown hts hK hP hD hA hS hZ hl hret
  have hts := fun w h => hts w (List.mem_cons_of_mem _ h)
  have hl : lv_has ls 2 [(0, .ref (gA G 1)), (1, .int v0)] := hl
  have hf : x_Memory_holds σ v0 = x_Memory_holds σ v0 := rfl
  refine lv_iload_n hx hb dX4_holds_0 rfl (lv_at hl 1 rfl) ?_
  refine lv_if_lt (tgt := 14) hx hb dX4_holds_1 (by decide) (fun h_3 => ?_) (fun h_3 => ?_)
  · have hf := hf.trans (if_pos h_3)
    refine lv_iconst (v := 0) hx hb dX4_holds_14 (by decide) ?_
    exact hret false _ _ _ _ hf hP hD hS dX4_holds_15
  · have hf := hf.trans (if_neg h_3)
    refine lv_iload_n hx hb dX4_holds_4 rfl (lv_at hl 1 rfl) ?_
    refine lv_ldc (v := 262144) hx hb hown (hts _ kw_135) dX4_holds_5 ?_
    refine lv_icmp_ge (tgt := 14) hx hb dX4_holds_7 (by decide) (fun h_4 => ?_) (fun h_4 => ?_)
    · have hf := hf.trans (if_pos h_4)
      refine lv_iconst (v := 0) hx hb dX4_holds_14 (by decide) ?_
      exact hret false _ _ _ _ hf hP hD hS dX4_holds_15
    · have hf := hf.trans (if_neg h_4)
      refine lv_iconst (v := 1) hx hb dX4_holds_10 (by decide) ?_
      refine lv_goto (tgt := 15) hx hb dX4_holds_11 (by decide) ?_
      exact hret true _ _ _ _ hf hP hD hS dX4_holds_15
def x_Memory_word (σ : CS) (v0 : Int32) : Int32 := c_words σ (iu (v0 &&& 262143) 2).toNatClampNeg
set_option maxRecDepth 20000 in
set_option maxHeartbeats 4000000 in
theorem cx_Memory_word (l : Launch) (G : KG) (σ : CS) (v0 : Int32) : KB l yX4_word (Cond.code yX4_word cX4_word 2 (some .int) :: lw_all) (kr 0) (gD G) vwCl (gT G) (cZ G) (cW G) [.ref (gA G 1), .int v0] σ (x_Memory_word σ v0, σ) := by
  refine kc_in_r (q := x_Memory_word σ v0) (by decide) rfl (Nat.le_of_ble_eq_true rfl) ?_
  intro p e s m args below meth c A Q ls hx hb hml hown hts hK hP hD hA hS hZ hl hret
  have hts := fun w h => hts w (List.mem_cons_of_mem _ h)
  have hl : lv_has ls 2 [(0, .ref (gA G 1)), (1, .int v0)] := hl
  have hf : x_Memory_word σ v0 = x_Memory_word σ v0 := rfl
  refine lv_aload_n hx hb dX4_word_0 rfl (lv_at hl 0 rfl) ?_
  refine va_get (D := gD G) (ci := 2) hx hb hts ku_4 hown hK hP 1 rfl rfl 0 (by decide) (hts _ kw_31) (fun _ h9 => h9) rfl dX4_word_1 ?_
  refine lv_iload_n hx hb dX4_word_4 rfl (lv_at hl 1 rfl) ?_
  refine lv_ldc (v := 262143) hx hb hown (hts _ kw_140) dX4_word_5 ?_
  refine lv_iand hx hb dX4_word_7 ?_
  refine lv_iconst (v := 2) hx hb dX4_word_8 (by decide) ?_
  refine lv_iushr (v := iu (v0 &&& 262143) 2) hx hb dX4_word_9 rfl ?_
  refine va_iald hx hb hK hP 2 0 rfl rfl (wd_in _) dX4_word_10 ?_
  exact hret (c_words σ (iu (v0 &&& 262143) 2).toNatClampNeg) _ _ _ _ hf hP hD hS dX4_word_11
def x_Memory_putWord (σ : CS) (v0 : Int32) (v1 : Int32) : CS := s_words σ (upd (c_words σ) (iu (v0 &&& 262143) 2).toNatClampNeg v1)
set_option maxRecDepth 20000 in
set_option maxHeartbeats 4000000 in
theorem cx_Memory_putWord (l : Launch) (G : KG) (σ : CS) (v0 : Int32) (v1 : Int32) : KV l yX4_putWord (Cond.code yX4_putWord cX4_putWord 3 none :: lw_all) (kr 0) (gD G) vwCl (gT G) (cZ G) (cW G) [.ref (gA G 1), .int v0, .int v1] σ (x_Memory_putWord σ v0 v1) := by
  refine kc_in_v (q := x_Memory_putWord σ v0 v1) (by decide) rfl (Nat.le_of_ble_eq_true rfl) ?_
  intro p e s m args below meth c A Q ls hx hb hml hown hts hK hP hD hA hS hZ hl hret
  have hts := fun w h => hts w (List.mem_cons_of_mem _ h)
  have hl : lv_has ls 3 [(0, .ref (gA G 1)), (1, .int v0), (2, .int v1)] := hl
  have hf : x_Memory_putWord σ v0 v1 = x_Memory_putWord σ v0 v1 := rfl
  refine lv_aload_n hx hb dX4_putWord_0 rfl (lv_at hl 0 rfl) ?_
  refine va_get (D := gD G) (ci := 2) hx hb hts ku_4 hown hK hP 1 rfl rfl 0 (by decide) (hts _ kw_31) (fun _ h9 => h9) rfl dX4_putWord_1 ?_
  refine lv_iload_n hx hb dX4_putWord_4 rfl (lv_at hl 1 rfl) ?_
  refine lv_ldc (v := 262143) hx hb hown (hts _ kw_140) dX4_putWord_5 ?_
  refine lv_iand hx hb dX4_putWord_7 ?_
  refine lv_iconst (v := 2) hx hb dX4_putWord_8 (by decide) ?_
  refine lv_iushr (v := iu (v0 &&& 262143) 2) hx hb dX4_putWord_9 rfl ?_
  refine lv_iload_n hx hb dX4_putWord_10 rfl (lv_at hl 2 rfl) ?_
  refine va_iast hx hb hK hP hD hS 2 0 rfl rfl (wd_in _) dX4_putWord_11 (fun H locs hP hD hS => ?_)
  have hP := kP_eq (cWs_words G σ (upd (c_words σ) (iu (v0 &&& 262143) 2).toNatClampNeg v1)) hP
  have hD := kD_eq (cWs_words G σ (upd (c_words σ) (iu (v0 &&& 262143) 2).toNatClampNeg v1)) hD
  exact hret (s_words σ (upd (c_words σ) (iu (v0 &&& 262143) 2).toNatClampNeg v1)) _ _ _ _ hf hP hD hS dX4_putWord_12
def x_Memory_half (σ : CS) (v0 : Int32) : Int32 := (iu (x_Memory_word σ v0) (8 * (v0 &&& 2))) &&& 65535
set_option maxRecDepth 20000 in
set_option maxHeartbeats 4000000 in
theorem cx_Memory_half (l : Launch) (G : KG) (σ : CS) (v0 : Int32) : KB l yX4_half (Cond.code yX4_half cX4_half 2 (some .int) :: lw_all) (kr 1) (gD G) vwCl (gT G) (cZ G) (cW G) [.ref (gA G 1), .int v0] σ (x_Memory_half σ v0, σ) := by
  refine kc_in_r (q := x_Memory_half σ v0) (by decide) rfl (Nat.le_of_ble_eq_true rfl) ?_
  intro p e s m args below meth c A Q ls hx hb hml hown hts hK hP hD hA hS hZ hl hret
  have hts := fun w h => hts w (List.mem_cons_of_mem _ h)
  have hl : lv_has ls 2 [(0, .ref (gA G 1)), (1, .int v0)] := hl
  have hf : x_Memory_half σ v0 = x_Memory_half σ v0 := rfl
  refine lv_aload_n hx hb dX4_half_0 rfl (lv_at hl 0 rfl) ?_
  refine lv_iload_n hx hb dX4_half_1 rfl (lv_at hl 1 rfl) ?_
  refine kc_Vr (rest := []) (cx_Memory_word l G σ v0) ⟨hx, hb, hml, hown, hts⟩ (cwV 1 hts (gi_V kw_339 kw_137 kw_138 kw_15 kw_139) rfl rfl rfl ⟨rfl, mdX4_word⟩ ⟨by decide, by decide⟩) (va_recv hK hP (ci := 2) (q0 := 1) rfl rfl) cZ_ok hK hP hD hS hA hZ rfl hl.1 rfl (Nat.le_of_ble_eq_true rfl) dX4_half_2 ⟨Nat.zero_le _, Nat.zero_le _⟩ (fun H locs hP hD hS => ?_)
  refine lv_bipush (v := 8) hx hb dX4_half_5 (by decide) ?_
  refine lv_iload_n hx hb dX4_half_7 rfl (lv_at hl 1 rfl) ?_
  refine lv_iconst (v := 2) hx hb dX4_half_8 (by decide) ?_
  refine lv_iand hx hb dX4_half_9 ?_
  refine lv_imul hx hb dX4_half_10 ?_
  refine lv_iushr (v := iu (x_Memory_word σ v0) (8 * (v0 &&& 2))) hx hb dX4_half_11 rfl ?_
  refine lv_ldc (v := 65535) hx hb hown (hts _ kw_338) dX4_half_12 ?_
  refine lv_iand hx hb dX4_half_14 ?_
  exact hret ((iu (x_Memory_word σ v0) (8 * (v0 &&& 2))) &&& 65535) _ _ _ _ hf hP hD hS dX4_half_15
def x_Shifter_turnRight (v0 : Int32) (v1 : Int32) : Int32 := (iu v0 (v1 &&& 31)) ||| (v0 <<< (((-v1) &&& 31) &&& 31))
set_option maxRecDepth 20000 in
set_option maxHeartbeats 4000000 in
theorem cx_Shifter_turnRight (l : Launch) (v0 : Int32) (v1 : Int32) : KPi l yX7_turnRight (Cond.code yX7_turnRight cX7_turnRight 2 (some .int) :: lw_all) (kr 0) [.int v0, .int v1] (x_Shifter_turnRight v0 v1) := by
  refine kp_in_i (q := x_Shifter_turnRight v0 v1) (by decide) rfl (Nat.le_of_ble_eq_true rfl) ?_
  intro p e s m args below meth c Q ls hx hb hml hown hts hl hret
  have hts := fun w h => hts w (List.mem_cons_of_mem _ h)
  have hl : lv_has ls 2 [(0, .int v0), (1, .int v1)] := hl
  have hf : x_Shifter_turnRight v0 v1 = x_Shifter_turnRight v0 v1 := rfl
  refine lv_iload_n hx hb dX7_turnRight_0 rfl (lv_at hl 0 rfl) ?_
  refine lv_iload_n hx hb dX7_turnRight_1 rfl (lv_at hl 1 rfl) ?_
  refine lv_bipush (v := 31) hx hb dX7_turnRight_2 (by decide) ?_
  refine lv_iand hx hb dX7_turnRight_4 ?_
  refine lv_iushr (v := iu v0 (v1 &&& 31)) hx hb dX7_turnRight_5 rfl ?_
  refine lv_iload_n hx hb dX7_turnRight_6 rfl (lv_at hl 0 rfl) ?_
  refine lv_iload_n hx hb dX7_turnRight_7 rfl (lv_at hl 1 rfl) ?_
  refine lv_ineg hx hb dX7_turnRight_8 ?_
  refine lv_bipush (v := 31) hx hb dX7_turnRight_9 (by decide) ?_
  refine lv_iand hx hb dX7_turnRight_11 ?_
  refine lv_ishl hx hb dX7_turnRight_12 ?_
  refine lv_ior hx hb dX7_turnRight_13 ?_
  exact hret ((iu v0 (v1 &&& 31)) ||| (v0 <<< (((-v1) &&& 31) &&& 31))) _ _ hf dX7_turnRight_14
def x_Memory_load (σ : CS) (v0 : Int32) (v1 : Int32) : Int32 := (if v0 = 1 then (iu (x_Memory_word σ v1) (8 * (v1 &&& 3))) &&& 255 else (if v0 = 2 then (iu (x_Memory_word σ v1) (8 * (v1 &&& 2))) &&& 65535 else (if v0 = 3 then (iu (x_Memory_word σ v1) (8 * (v1 &&& 3))).toInt8.toInt32 else (if v0 = 4 then (iu (x_Memory_word σ v1) (8 * (v1 &&& 2))).toInt16.toInt32 else x_Shifter_turnRight (x_Memory_word σ v1) (8 * (v1 &&& 3))))))
set_option maxRecDepth 20000 in
set_option maxHeartbeats 4000000 in
theorem cx_Memory_load (l : Launch) (G : KG) (σ : CS) (v0 : Int32) (v1 : Int32) : KB l yX4_load (Cond.code yX4_load cX4_load 6 (some .int) :: lw_all) (kr 1) (gD G) vwCl (gT G) (cZ G) (cW G) [.ref (gA G 1), .int v0, .int v1] σ (x_Memory_load σ v0 v1, σ) := by
  refine kc_in_r (q := x_Memory_load σ v0 v1) (by decide) rfl (Nat.le_of_ble_eq_true rfl) ?_
  intro p e s m args below meth c A Q ls hx hb hml hown hts hK hP hD hA hS hZ hl hret
  have hts := fun w h => hts w (List.mem_cons_of_mem _ h)
  have hl : lv_has ls 6 [(0, .ref (gA G 1)), (1, .int v0), (2, .int v1)] := hl
  have hf : x_Memory_load σ v0 v1 = x_Memory_load σ v0 v1 := rfl
  refine lv_aload_n hx hb dX4_load_0 rfl (lv_at hl 0 rfl) ?_
  refine lv_iload_n hx hb dX4_load_1 rfl (lv_at hl 2 rfl) ?_
  refine kc_Vr (rest := []) (cx_Memory_word l G σ v1) ⟨hx, hb, hml, hown, hts⟩ (cwV 1 hts (gi_V kw_339 kw_137 kw_138 kw_15 kw_139) rfl rfl rfl ⟨rfl, mdX4_word⟩ ⟨by decide, by decide⟩) (va_recv hK hP (ci := 2) (q0 := 1) rfl rfl) cZ_ok hK hP hD hS hA hZ rfl hl.1 rfl (Nat.le_of_ble_eq_true rfl) dX4_load_2 ⟨Nat.zero_le _, Nat.zero_le _⟩ (fun H locs hP hD hS => ?_)
  refine lv_istore_n (lv' := [(3, .int (x_Memory_word σ v1)), (0, .ref (gA G 1)), (1, .int v0), (2, .int v1)]) hx hb dX4_load_5 rfl hl (by decide) rfl (fun ls hl => ?_)
  refine lv_bipush (v := 8) hx hb dX4_load_6 (by decide) ?_
  refine lv_iload_n hx hb dX4_load_8 rfl (lv_at hl 3 rfl) ?_
  refine lv_iconst (v := 3) hx hb dX4_load_9 (by decide) ?_
  refine lv_iand hx hb dX4_load_10 ?_
  refine lv_imul hx hb dX4_load_11 ?_
  refine lv_istore (lv' := [(4, .int (8 * (v1 &&& 3))), (3, .int (x_Memory_word σ v1)), (0, .ref (gA G 1)), (1, .int v0), (2, .int v1)]) hx hb dX4_load_12 hl (by decide) rfl (fun ls hl => ?_)
  refine lv_bipush (v := 8) hx hb dX4_load_14 (by decide) ?_
  refine lv_iload_n hx hb dX4_load_16 rfl (lv_at hl 4 rfl) ?_
  refine lv_iconst (v := 2) hx hb dX4_load_17 (by decide) ?_
  refine lv_iand hx hb dX4_load_18 ?_
  refine lv_imul hx hb dX4_load_19 ?_
  refine lv_istore (lv' := [(5, .int (8 * (v1 &&& 2))), (4, .int (8 * (v1 &&& 3))), (3, .int (x_Memory_word σ v1)), (0, .ref (gA G 1)), (1, .int v0), (2, .int v1)]) hx hb dX4_load_20 hl (by decide) rfl (fun ls hl => ?_)
  refine lv_iload_n hx hb dX4_load_22 rfl (lv_at hl 4 rfl) ?_
  by_cases h_5 : v0 = 1
  · have hf := hf.trans (if_pos h_5)
    refine lv_tableIn (tgt := 52) hx hb dX4_load_23 (by rw [h_5]; decide) (by rw [h_5]; decide) (by rw [h_5]; rfl) (by decide) ?_
    refine lv_iload_n hx hb dX4_load_52 rfl (lv_at hl 2 rfl) ?_
    refine lv_iload hx hb dX4_load_53 (lv_at hl 1 rfl) ?_
    refine lv_iushr (v := iu (x_Memory_word σ v1) (8 * (v1 &&& 3))) hx hb dX4_load_55 rfl ?_
    refine lv_sipush (v := 255) hx hb dX4_load_56 (by decide) ?_
    refine lv_iand hx hb dX4_load_59 ?_
    exact hret ((iu (x_Memory_word σ v1) (8 * (v1 &&& 3))) &&& 255) _ _ _ _ hf hP hD hS dX4_load_60
  have hf := hf.trans (if_neg h_5)
  by_cases h_6 : v0 = 2
  · have hf := hf.trans (if_pos h_6)
    refine lv_tableIn (tgt := 67) hx hb dX4_load_23 (by rw [h_6]; decide) (by rw [h_6]; decide) (by rw [h_6]; rfl) (by decide) ?_
    refine lv_iload_n hx hb dX4_load_67 rfl (lv_at hl 2 rfl) ?_
    refine lv_iload hx hb dX4_load_68 (lv_at hl 0 rfl) ?_
    refine lv_iushr (v := iu (x_Memory_word σ v1) (8 * (v1 &&& 2))) hx hb dX4_load_70 rfl ?_
    refine lv_ldc (v := 65535) hx hb hown (hts _ kw_338) dX4_load_71 ?_
    refine lv_iand hx hb dX4_load_73 ?_
    exact hret ((iu (x_Memory_word σ v1) (8 * (v1 &&& 2))) &&& 65535) _ _ _ _ hf hP hD hS dX4_load_74
  have hf := hf.trans (if_neg h_6)
  by_cases h_7 : v0 = 3
  · have hf := hf.trans (if_pos h_7)
    refine lv_tableIn (tgt := 61) hx hb dX4_load_23 (by rw [h_7]; decide) (by rw [h_7]; decide) (by rw [h_7]; rfl) (by decide) ?_
    refine lv_iload_n hx hb dX4_load_61 rfl (lv_at hl 2 rfl) ?_
    refine lv_iload hx hb dX4_load_62 (lv_at hl 1 rfl) ?_
    refine lv_iushr (v := iu (x_Memory_word σ v1) (8 * (v1 &&& 3))) hx hb dX4_load_64 rfl ?_
    refine lv_i2b (v := (iu (x_Memory_word σ v1) (8 * (v1 &&& 3))).toInt8.toInt32) hx hb dX4_load_65 rfl ?_
    exact hret ((iu (x_Memory_word σ v1) (8 * (v1 &&& 3))).toInt8.toInt32) _ _ _ _ hf hP hD hS dX4_load_66
  have hf := hf.trans (if_neg h_7)
  by_cases h_8 : v0 = 4
  · have hf := hf.trans (if_pos h_8)
    refine lv_tableIn (tgt := 75) hx hb dX4_load_23 (by rw [h_8]; decide) (by rw [h_8]; decide) (by rw [h_8]; rfl) (by decide) ?_
    refine lv_iload_n hx hb dX4_load_75 rfl (lv_at hl 2 rfl) ?_
    refine lv_iload hx hb dX4_load_76 (lv_at hl 0 rfl) ?_
    refine lv_iushr (v := iu (x_Memory_word σ v1) (8 * (v1 &&& 2))) hx hb dX4_load_78 rfl ?_
    refine lv_i2s (v := (iu (x_Memory_word σ v1) (8 * (v1 &&& 2))).toInt16.toInt32) hx hb dX4_load_79 rfl ?_
    exact hret ((iu (x_Memory_word σ v1) (8 * (v1 &&& 2))).toInt16.toInt32) _ _ _ _ hf hP hD hS dX4_load_80
  have hf := hf.trans (if_neg h_8)
  refine ksw_dflt (tgt := 81) hx hb dX4_load_23 [1, 2, 3, 4] (ksw_c h_5 (ksw_c h_6 (ksw_c h_7 (ksw_c h_8 ksw_n)))) (by decide) (by decide) ?_
  refine lv_iload_n hx hb dX4_load_81 rfl (lv_at hl 2 rfl) ?_
  refine lv_iload hx hb dX4_load_82 (lv_at hl 1 rfl) ?_
  refine kp_Si (rest := []) (cx_Shifter_turnRight l (x_Memory_word σ v1) (8 * (v1 &&& 3))) ⟨hx, hb, hml, hown, hts⟩ (va_cwS 2 hts (gi_S kw_463 kw_425 kw_49 kw_426) rfl rfl rfl mdX7_turnRight ⟨by decide, by decide⟩) rfl hl.1 rfl (Nat.le_of_ble_eq_true rfl) dX4_load_84 ⟨Nat.zero_le _, Nat.zero_le _⟩ ?_
  exact hret (x_Shifter_turnRight (x_Memory_word σ v1) (8 * (v1 &&& 3))) _ _ _ _ hf hP hD hS dX4_load_87
def x_Memory_store_42 (σ : CS) (v0 : Int32) (v1 : Int32) (v2 : Int32) (k0_24 : Int32) (k0_42 : Int32) : CS := x_Memory_putWord σ v1 (((x_Memory_word σ v1) &&& ((k0_24 <<< ((8 * k0_42) &&& 31)) ^^^ (-1))) ||| ((v2 &&& k0_24) <<< ((8 * k0_42) &&& 31)))
def x_Memory_store_24 (σ : CS) (v0 : Int32) (v1 : Int32) (v2 : Int32) (k0_24 : Int32) : CS := (if v0 = 1 then x_Memory_store_42 σ v0 v1 v2 k0_24 (v1 &&& 3) else x_Memory_store_42 σ v0 v1 v2 k0_24 (v1 &&& 2))
def x_Memory_store (σ : CS) (v0 : Int32) (v1 : Int32) (v2 : Int32) : CS := (if v0 = 0 then x_Memory_putWord σ v1 v2 else (if v0 = 1 then x_Memory_store_24 σ v0 v1 v2 255 else x_Memory_store_24 σ v0 v1 v2 65535))
set_option maxRecDepth 20000 in
set_option maxHeartbeats 4000000 in
theorem cx_Memory_store (l : Launch) (G : KG) (σ : CS) (v0 : Int32) (v1 : Int32) (v2 : Int32) : KV l yX4_store (Cond.code yX4_store cX4_store 6 none :: lw_all) (kr 1) (gD G) vwCl (gT G) (cZ G) (cW G) [.ref (gA G 1), .int v0, .int v1, .int v2] σ (x_Memory_store σ v0 v1 v2) := by
  refine kc_in_v (q := x_Memory_store σ v0 v1 v2) (by decide) rfl (Nat.le_of_ble_eq_true rfl) ?_
  intro p e s m args below meth c A Q ls hx hb hml hown hts hK hP hD hA hS hZ hl hret
  have hts := fun w h => hts w (List.mem_cons_of_mem _ h)
  have hl : lv_has ls 6 [(0, .ref (gA G 1)), (1, .int v0), (2, .int v1), (3, .int v2)] := hl
  have hf : x_Memory_store σ v0 v1 v2 = x_Memory_store σ v0 v1 v2 := rfl
  have J42 : ∀ (k0_24 : Int32) (k0_42 : Int32) (H : Heap) (locs : List Loc) (ls : Array Slot), va_P (gD G) vwCl (cW G (σ)) H → va_D A (cW G (σ)) → va_S A s.heap H locs → lv_has ls 6 [(0, .ref (gA G 1)), (2, .int v1), (3, .int v2), (4, .int k0_24)] → x_Memory_store σ v0 v1 v2 = x_Memory_store_42 σ v0 v1 v2 k0_24 k0_42 → W p l e (kr 1) s m args below meth c H locs 0 0 Q (F0 m 42 ls [.int k0_42, .int 8]) := by
    intro k0_24 k0_42 H locs ls hP hD hS hl hf
    refine lv_imul hx hb dX4_store_42 ?_
    refine lv_istore (lv' := [(5, .int (8 * k0_42)), (0, .ref (gA G 1)), (2, .int v1), (3, .int v2), (4, .int k0_24)]) hx hb dX4_store_43 hl (by decide) rfl (fun ls hl => ?_)
    refine lv_aload_n hx hb dX4_store_45 rfl (lv_at hl 1 rfl) ?_
    refine lv_iload_n hx hb dX4_store_46 rfl (lv_at hl 2 rfl) ?_
    refine lv_aload_n hx hb dX4_store_47 rfl (lv_at hl 1 rfl) ?_
    refine lv_iload_n hx hb dX4_store_48 rfl (lv_at hl 2 rfl) ?_
    refine kc_Vr (rest := [.int v1, .ref (gA G 1)]) (cx_Memory_word l G σ v1) ⟨hx, hb, hml, hown, hts⟩ (cwV 1 hts (gi_V kw_339 kw_137 kw_138 kw_15 kw_139) rfl rfl rfl ⟨rfl, mdX4_word⟩ ⟨by decide, by decide⟩) (va_recv hK hP (ci := 2) (q0 := 1) rfl rfl) cZ_ok hK hP hD hS hA hZ rfl hl.1 rfl (Nat.le_of_ble_eq_true rfl) dX4_store_49 ⟨Nat.zero_le _, Nat.zero_le _⟩ (fun H locs hP hD hS => ?_)
    refine lv_iload hx hb dX4_store_52 (lv_at hl 4 rfl) ?_
    refine lv_iload hx hb dX4_store_54 (lv_at hl 0 rfl) ?_
    refine lv_ishl hx hb dX4_store_56 ?_
    refine lv_iconst (v := (-1)) hx hb dX4_store_57 (by decide) ?_
    refine lv_ixor hx hb dX4_store_58 ?_
    refine lv_iand hx hb dX4_store_59 ?_
    refine lv_iload_n hx hb dX4_store_60 rfl (lv_at hl 3 rfl) ?_
    refine lv_iload hx hb dX4_store_61 (lv_at hl 4 rfl) ?_
    refine lv_iand hx hb dX4_store_63 ?_
    refine lv_iload hx hb dX4_store_64 (lv_at hl 0 rfl) ?_
    refine lv_ishl hx hb dX4_store_66 ?_
    refine lv_ior hx hb dX4_store_67 ?_
    refine kc_Vv (rest := []) (cx_Memory_putWord l G σ v1 (((x_Memory_word σ v1) &&& ((k0_24 <<< ((8 * k0_42) &&& 31)) ^^^ (-1))) ||| ((v2 &&& k0_24) <<< ((8 * k0_42) &&& 31)))) ⟨hx, hb, hml, hown, hts⟩ (cwV 2 hts (gi_V kw_470 kw_142 kw_143 kw_15 kw_144) rfl rfl rfl ⟨rfl, mdX4_putWord⟩ ⟨by decide, by decide⟩) (va_recv hK hP (ci := 2) (q0 := 1) rfl rfl) cZ_ok hK hP hD hS hA hZ rfl hl.1 rfl (Nat.le_of_ble_eq_true rfl) dX4_store_68 ⟨Nat.zero_le _, Nat.zero_le _⟩ (fun H locs hP hD hS => ?_)
    exact hret (x_Memory_putWord σ v1 (((x_Memory_word σ v1) &&& ((k0_24 <<< ((8 * k0_42) &&& 31)) ^^^ (-1))) ||| ((v2 &&& k0_24) <<< ((8 * k0_42) &&& 31)))) _ _ _ _ hf hP hD hS dX4_store_71
  have J24 : ∀ (k0_24 : Int32) (H : Heap) (locs : List Loc) (ls : Array Slot), va_P (gD G) vwCl (cW G (σ)) H → va_D A (cW G (σ)) → va_S A s.heap H locs → lv_has ls 6 [(0, .ref (gA G 1)), (1, .int v0), (2, .int v1), (3, .int v2)] → x_Memory_store σ v0 v1 v2 = x_Memory_store_24 σ v0 v1 v2 k0_24 → W p l e (kr 1) s m args below meth c H locs 0 0 Q (F0 m 24 ls [.int k0_24]) := by
    intro k0_24 H locs ls hP hD hS hl hf
    refine lv_istore (lv' := [(4, .int k0_24), (0, .ref (gA G 1)), (1, .int v0), (2, .int v1), (3, .int v2)]) hx hb dX4_store_24 hl (by decide) rfl (fun ls hl => ?_)
    refine lv_bipush (v := 8) hx hb dX4_store_26 (by decide) ?_
    refine lv_iload_n hx hb dX4_store_28 rfl (lv_at hl 2 rfl) ?_
    refine lv_iconst (v := 1) hx hb dX4_store_29 (by decide) ?_
    refine lv_icmp_ne (tgt := 39) hx hb dX4_store_30 (by decide) (fun h_4 => ?_) (fun h_4 => ?_)
    · have hf := hf.trans (if_neg h_4)
      refine lv_iload_n hx hb dX4_store_39 rfl (lv_at hl 3 rfl) ?_
      refine lv_iconst (v := 2) hx hb dX4_store_40 (by decide) ?_
      refine lv_iand hx hb dX4_store_41 ?_
      exact J42 k0_24 (v1 &&& 2) _ _ _ hP hD hS (lv_sub hl [1, 3, 4, 0] rfl) hf
    · have hf := hf.trans (if_pos h_4)
      refine lv_iload_n hx hb dX4_store_33 rfl (lv_at hl 3 rfl) ?_
      refine lv_iconst (v := 3) hx hb dX4_store_34 (by decide) ?_
      refine lv_iand hx hb dX4_store_35 ?_
      refine lv_goto (tgt := 42) hx hb dX4_store_36 (by decide) ?_
      exact J42 k0_24 (v1 &&& 3) _ _ _ hP hD hS (lv_sub hl [1, 3, 4, 0] rfl) hf
  refine lv_iload_n hx hb dX4_store_0 rfl (lv_at hl 1 rfl) ?_
  refine lv_if_ne (tgt := 11) hx hb dX4_store_1 (by decide) (fun h_5 => ?_) (fun h_5 => ?_)
  · have hf := hf.trans (if_neg h_5)
    refine lv_iload_n hx hb dX4_store_11 rfl (lv_at hl 1 rfl) ?_
    refine lv_iconst (v := 1) hx hb dX4_store_12 (by decide) ?_
    refine lv_icmp_ne (tgt := 22) hx hb dX4_store_13 (by decide) (fun h_6 => ?_) (fun h_6 => ?_)
    · have hf := hf.trans (if_neg h_6)
      refine lv_ldc (v := 65535) hx hb hown (hts _ kw_338) dX4_store_22 ?_
      exact J24 65535 _ _ _ hP hD hS (lv_sub hl [0, 1, 2, 3] rfl) hf
    · have hf := hf.trans (if_pos h_6)
      refine lv_sipush (v := 255) hx hb dX4_store_16 (by decide) ?_
      refine lv_goto (tgt := 24) hx hb dX4_store_19 (by decide) ?_
      exact J24 255 _ _ _ hP hD hS (lv_sub hl [0, 1, 2, 3] rfl) hf
  · have hf := hf.trans (if_pos h_5)
    refine lv_aload_n hx hb dX4_store_4 rfl (lv_at hl 0 rfl) ?_
    refine lv_iload_n hx hb dX4_store_5 rfl (lv_at hl 2 rfl) ?_
    refine lv_iload_n hx hb dX4_store_6 rfl (lv_at hl 3 rfl) ?_
    refine kc_Vv (rest := []) (cx_Memory_putWord l G σ v1 v2) ⟨hx, hb, hml, hown, hts⟩ (cwV 2 hts (gi_V kw_470 kw_142 kw_143 kw_15 kw_144) rfl rfl rfl ⟨rfl, mdX4_putWord⟩ ⟨by decide, by decide⟩) (va_recv hK hP (ci := 2) (q0 := 1) rfl rfl) cZ_ok hK hP hD hS hA hZ rfl hl.1 rfl (Nat.le_of_ble_eq_true rfl) dX4_store_7 ⟨Nat.zero_le _, Nat.zero_le _⟩ (fun H locs hP hD hS => ?_)
    exact hret (x_Memory_putWord σ v1 v2) _ _ _ _ hf hP hD hS dX4_store_10
