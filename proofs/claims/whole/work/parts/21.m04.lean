def y_Model_hasSaved (σ : MS) : Bool := (if 5 ≤ (y_Model_bank (y_Model_mode σ)) then false else true)
set_option maxRecDepth 20000 in
set_option maxHeartbeats 4000000 in
theorem cy_Model_hasSaved (l : Launch) (G : KG) (σ : MS) : KB l yX11_hasSaved (Cond.code yX11_hasSaved cX11_hasSaved 1 (some .boolean) :: lw_all) (kr 1) (gD G) vwCl (gT G) (mZ G) (mW G) [.ref (gA G 20)] σ (b01 (y_Model_hasSaved σ), σ) := by
  refine kc_in_y (q := y_Model_hasSaved σ) (by decide) rfl (Nat.le_of_ble_eq_true rfl) ?_
  intro p e s m args below meth c A Q ls hx hb hml hown hts hK hP hD hA hS hZ hl hret
  have hts := fun w h => hts w (List.mem_cons_of_mem _ h)
  have hl : lv_has ls 1 [(0, .ref (gA G 20))] := hl
  have hf : y_Model_hasSaved σ = y_Model_hasSaved σ := rfl
  refine lv_aload_n hx hb dX11_hasSaved_0 rfl (lv_at hl 0 rfl) ?_
  refine kc_Vr (rest := []) (cy_Model_mode l G σ) ⟨hx, hb, hml, hown, hts⟩ (cwV 0 hts (gi_V kw_259 kw_260 kw_261 kw_5 kw_262) rfl rfl rfl ⟨rfl, mdX11_mode⟩ ⟨by decide, by decide⟩) (va_recv hK hP (ci := 9) (q0 := 0) rfl rfl) mZ_ok hK hP hD hS hA hZ rfl hl.1 rfl (Nat.le_of_ble_eq_true rfl) dX11_hasSaved_1 ⟨Nat.zero_le _, Nat.zero_le _⟩ (fun H locs hP hD hS => ?_)
  refine kp_Si (rest := []) (cy_Model_bank l (y_Model_mode σ)) ⟨hx, hb, hml, hown, hts⟩ (va_cwS 1 hts (gi_S kw_203 kw_204 kw_5 kw_205) rfl rfl rfl mdX11_bank ⟨by decide, by decide⟩) rfl hl.1 rfl (Nat.le_of_ble_eq_true rfl) dX11_hasSaved_4 ⟨Nat.zero_le _, Nat.zero_le _⟩ ?_
  refine lv_iconst (v := 5) hx hb dX11_hasSaved_7 (by decide) ?_
  refine lv_icmp_ge (tgt := 15) hx hb dX11_hasSaved_8 (by decide) (fun h_2 => ?_) (fun h_2 => ?_)
  · have hf := hf.trans (if_pos h_2)
    refine lv_iconst (v := 0) hx hb dX11_hasSaved_15 (by decide) ?_
    exact hret false _ _ _ _ hf hP hD hS dX11_hasSaved_16
  · have hf := hf.trans (if_neg h_2)
    refine lv_iconst (v := 1) hx hb dX11_hasSaved_11 (by decide) ?_
    refine lv_goto (tgt := 16) hx hb dX11_hasSaved_12 (by decide) ?_
    exact hret true _ _ _ _ hf hP hD hS dX11_hasSaved_16
theorem hs_in {τ : MS} (h : y_Model_hasSaved τ = true) : vp_in (y_Model_bank (y_Model_mode τ)) 5 := by
  have q := vp_in_iff.mp (okm_bank (md_ok τ))
  unfold y_Model_hasSaved at h
  by_cases h1 : 5 ≤ y_Model_bank (y_Model_mode τ)
  · rw [if_pos h1] at h; cases h
  · have a2 : ¬ (5 : Int32).toInt ≤ (y_Model_bank (y_Model_mode τ)).toInt := fun q => h1 (Int32.le_iff_toInt_le.mpr q)
    have e5 : (5 : Int32).toInt = 5 := by decide
    rw [e5] at a2
    rw [vp_in_iff]
    exact ⟨q.1, by omega⟩
def y_Model_kept (σ : MS) : Int32 := (if (y_Model_hasSaved σ) = true then m_spsr σ (y_Model_bank (y_Model_mode σ)).toNatClampNeg else m_cpsr σ)
set_option maxRecDepth 20000 in
set_option maxHeartbeats 4000000 in
theorem cy_Model_kept (l : Launch) (G : KG) (σ : MS) : KB l yX11_kept (Cond.code yX11_kept cX11_kept 1 (some .int) :: lw_all) (kr 2) (gD G) vwCl (gT G) (mZ G) (mW G) [.ref (gA G 20)] σ (y_Model_kept σ, σ) := by
  refine kc_in_r (q := y_Model_kept σ) (by decide) rfl (Nat.le_of_ble_eq_true rfl) ?_
  intro p e s m args below meth c A Q ls hx hb hml hown hts hK hP hD hA hS hZ hl hret
  have hts := fun w h => hts w (List.mem_cons_of_mem _ h)
  have hl : lv_has ls 1 [(0, .ref (gA G 20))] := hl
  have hf : y_Model_kept σ = y_Model_kept σ := rfl
  refine lv_aload_n hx hb dX11_kept_0 rfl (lv_at hl 0 rfl) ?_
  refine kc_Vr (rest := []) (cy_Model_hasSaved l G σ) ⟨hx, hb, hml, hown, hts⟩ (cwV 0 hts (gi_V kw_882 kw_883 kw_884 kw_5 kw_885) rfl rfl rfl ⟨rfl, mdX11_hasSaved⟩ ⟨by decide, by decide⟩) (va_recv hK hP (ci := 9) (q0 := 0) rfl rfl) mZ_ok hK hP hD hS hA hZ rfl hl.1 rfl (Nat.le_of_ble_eq_true rfl) dX11_kept_1 ⟨Nat.zero_le _, Nat.zero_le _⟩ (fun H locs hP hD hS => ?_)
  refine kz_eq (tgt := 22) hx hb dX11_kept_4 (by decide) (fun h_2 => ?_) (fun h_2 => ?_)
  · have hf := hf.trans (if_neg h_2)
    refine lv_aload_n hx hb dX11_kept_22 rfl (lv_at hl 0 rfl) ?_
    refine va_get (D := gD G) (ci := 9) hx hb hts ku_11 hown hK hP 0 rfl rfl 4 (by decide) (hts _ kw_109) (fun _ h9 => h9) rfl dX11_kept_23 ?_
    exact hret (m_cpsr σ) _ _ _ _ hf hP hD hS dX11_kept_26
  · have hf := hf.trans (if_pos h_2)
    refine lv_aload_n hx hb dX11_kept_7 rfl (lv_at hl 0 rfl) ?_
    refine va_get (D := gD G) (ci := 9) hx hb hts ku_11 hown hK hP 0 rfl rfl 3 (by decide) (hts _ kw_108) (fun _ h9 => h9) rfl dX11_kept_8 ?_
    refine lv_aload_n hx hb dX11_kept_11 rfl (lv_at hl 0 rfl) ?_
    refine kc_Vr (rest := [.ref (gA G 23)]) (cy_Model_mode l G σ) ⟨hx, hb, hml, hown, hts⟩ (cwV 0 hts (gi_V kw_259 kw_260 kw_261 kw_5 kw_262) rfl rfl rfl ⟨rfl, mdX11_mode⟩ ⟨by decide, by decide⟩) (va_recv hK hP (ci := 9) (q0 := 0) rfl rfl) mZ_ok hK hP hD hS hA hZ rfl hl.1 rfl (Nat.le_of_ble_eq_true rfl) dX11_kept_12 ⟨Nat.zero_le _, Nat.zero_le _⟩ (fun H locs hP hD hS => ?_)
    refine kp_Si (rest := [.ref (gA G 23)]) (cy_Model_bank l (y_Model_mode σ)) ⟨hx, hb, hml, hown, hts⟩ (va_cwS 1 hts (gi_S kw_203 kw_204 kw_5 kw_205) rfl rfl rfl mdX11_bank ⟨by decide, by decide⟩) rfl hl.1 rfl (Nat.le_of_ble_eq_true rfl) dX11_kept_15 ⟨Nat.zero_le _, Nat.zero_le _⟩ ?_
    refine va_iald hx hb hK hP 3 0 rfl rfl (hs_in (by assumption)) dX11_kept_18 ?_
    refine lv_goto (tgt := 26) hx hb dX11_kept_19 (by decide) ?_
    exact hret (m_spsr σ (y_Model_bank (y_Model_mode σ)).toNatClampNeg) _ _ _ _ hf hP hD hS dX11_kept_26
def y_Model_is (σ : MS) (v0 : Int32) : Bool := (if (((m_cpsr σ) >>> (v0 &&& 31)) &&& 1) = 1 then true else false)
set_option maxRecDepth 20000 in
set_option maxHeartbeats 4000000 in
theorem cy_Model_is (l : Launch) (G : KG) (σ : MS) (v0 : Int32) : KB l yX11_is (Cond.code yX11_is cX11_is 2 (some .boolean) :: lw_all) (kr 0) (gD G) vwCl (gT G) (mZ G) (mW G) [.ref (gA G 20), .int v0] σ (b01 (y_Model_is σ v0), σ) := by
  refine kc_in_y (q := y_Model_is σ v0) (by decide) rfl (Nat.le_of_ble_eq_true rfl) ?_
  intro p e s m args below meth c A Q ls hx hb hml hown hts hK hP hD hA hS hZ hl hret
  have hts := fun w h => hts w (List.mem_cons_of_mem _ h)
  have hl : lv_has ls 2 [(0, .ref (gA G 20)), (1, .int v0)] := hl
  have hf : y_Model_is σ v0 = y_Model_is σ v0 := rfl
  refine lv_aload_n hx hb dX11_is_0 rfl (lv_at hl 0 rfl) ?_
  refine va_get (D := gD G) (ci := 9) hx hb hts ku_11 hown hK hP 0 rfl rfl 4 (by decide) (hts _ kw_109) (fun _ h9 => h9) rfl dX11_is_1 ?_
  refine lv_iload_n hx hb dX11_is_4 rfl (lv_at hl 1 rfl) ?_
  refine lv_ishr hx hb dX11_is_5 ?_
  refine lv_iconst (v := 1) hx hb dX11_is_6 (by decide) ?_
  refine lv_iand hx hb dX11_is_7 ?_
  refine lv_iconst (v := 1) hx hb dX11_is_8 (by decide) ?_
  refine lv_icmp_ne (tgt := 16) hx hb dX11_is_9 (by decide) (fun h_2 => ?_) (fun h_2 => ?_)
  · have hf := hf.trans (if_neg h_2)
    refine lv_iconst (v := 0) hx hb dX11_is_16 (by decide) ?_
    exact hret false _ _ _ _ hf hP hD hS dX11_is_17
  · have hf := hf.trans (if_pos h_2)
    refine lv_iconst (v := 1) hx hb dX11_is_12 (by decide) ?_
    refine lv_goto (tgt := 17) hx hb dX11_is_13 (by decide) ?_
    exact hret true _ _ _ _ hf hP hD hS dX11_is_17
theorem okM_f {w a b : Int32} (hw : okM w) (ha : lo0 a) (hb : lo0 b) : okM (((w &&& 1073741823) ||| a) ||| b) := okM_or (okM_or (okM_and hw (by decide)) ha) hb
def y_Model_setFlags_18 (σ : MS) (v0 : Int32) (k0_18 : Int32) : MS := (if v0 = 0 then t_cpsr σ ((((m_cpsr σ) &&& 1073741823) ||| k0_18) ||| 1073741824) else t_cpsr σ ((((m_cpsr σ) &&& 1073741823) ||| k0_18) ||| 0))
def y_Model_setFlags (σ : MS) (v0 : Int32) : MS := (if 0 ≤ v0 then y_Model_setFlags_18 σ v0 0 else y_Model_setFlags_18 σ v0 (-2147483648))
set_option maxRecDepth 20000 in
set_option maxHeartbeats 4000000 in
theorem cy_Model_setFlags (l : Launch) (G : KG) (σ : MS) (v0 : Int32) : KV l yX11_setFlags (Cond.code yX11_setFlags cX11_setFlags 2 none :: lw_all) (kr 0) (gD G) vwCl (gT G) (mZ G) (mW G) [.ref (gA G 20), .int v0] σ (y_Model_setFlags σ v0) := by
  refine kc_in_v (q := y_Model_setFlags σ v0) (by decide) rfl (Nat.le_of_ble_eq_true rfl) ?_
  intro p e s m args below meth c A Q ls hx hb hml hown hts hK hP hD hA hS hZ hl hret
  have hts := fun w h => hts w (List.mem_cons_of_mem _ h)
  have hl : lv_has ls 2 [(0, .ref (gA G 20)), (1, .int v0)] := hl
  have hf : y_Model_setFlags σ v0 = y_Model_setFlags σ v0 := rfl
  have J18 : ∀ (k0_18 : Int32) (hk0_18 : lo0 k0_18) (H : Heap) (locs : List Loc) (ls : Array Slot), va_P (gD G) vwCl (mW G (σ)) H → va_D A (mW G (σ)) → va_S A s.heap H locs → lv_has ls 2 [(1, .int v0)] → y_Model_setFlags σ v0 = y_Model_setFlags_18 σ v0 k0_18 → W p l e (kr 0) s m args below meth c H locs 0 0 Q (F0 m 18 ls [.int k0_18, .int ((m_cpsr σ) &&& 1073741823), .ref (gA G 20)]) := by
    intro k0_18 hk0_18 H locs ls hP hD hS hl hf
    refine lv_ior hx hb dX11_setFlags_18 ?_
    refine lv_iload_n hx hb dX11_setFlags_19 rfl (lv_at hl 0 rfl) ?_
    refine lv_if_ne (tgt := 28) hx hb dX11_setFlags_20 (by decide) (fun h_3 => ?_) (fun h_3 => ?_)
    · have hf := hf.trans (if_neg h_3)
      refine lv_iconst (v := 0) hx hb dX11_setFlags_28 (by decide) ?_
      refine lv_ior hx hb dX11_setFlags_29 ?_
      refine kc_top (fixM_ok (okM_f (m_ok _) hk0_18 (by unfold lo0; decide))) ?_
      refine va_put (D := gD G) (ci := 9) (v := .int (m_cpsr (t_cpsr σ ((((m_cpsr σ) &&& 1073741823) ||| k0_18) ||| 0)))) (ty := .int) hx hb hts ku_11 tyX11 tyX11_ok nmX11 hown hK hP hD hS 0 rfl rfl 4 (by decide) (hts _ kw_109) (fun _ h9 => h9) rfl (tyX11_ok 4 (by decide)) rfl rfl (Nat.le_of_ble_eq_true rfl) dX11_setFlags_30 (fun H locs hP hD hS => ?_)
      have hP : va_P (gD G) vwCl (mW G (t_cpsr σ ((((m_cpsr σ) &&& 1073741823) ||| k0_18) ||| 0))) H := hP
      have hD : va_D A (mW G (t_cpsr σ ((((m_cpsr σ) &&& 1073741823) ||| k0_18) ||| 0))) := hD
      exact hret (t_cpsr σ ((((m_cpsr σ) &&& 1073741823) ||| k0_18) ||| 0)) _ _ _ _ hf hP hD hS dX11_setFlags_33
    · have hf := hf.trans (if_pos h_3)
      refine lv_ldc (v := 1073741824) hx hb hown (hts _ kw_790) dX11_setFlags_23 ?_
      refine lv_goto (tgt := 29) hx hb dX11_setFlags_25 (by decide) ?_
      refine lv_ior hx hb dX11_setFlags_29 ?_
      refine kc_top (fixM_ok (okM_f (m_ok _) hk0_18 (by unfold lo0; decide))) ?_
      refine va_put (D := gD G) (ci := 9) (v := .int (m_cpsr (t_cpsr σ ((((m_cpsr σ) &&& 1073741823) ||| k0_18) ||| 1073741824)))) (ty := .int) hx hb hts ku_11 tyX11 tyX11_ok nmX11 hown hK hP hD hS 0 rfl rfl 4 (by decide) (hts _ kw_109) (fun _ h9 => h9) rfl (tyX11_ok 4 (by decide)) rfl rfl (Nat.le_of_ble_eq_true rfl) dX11_setFlags_30 (fun H locs hP hD hS => ?_)
      have hP : va_P (gD G) vwCl (mW G (t_cpsr σ ((((m_cpsr σ) &&& 1073741823) ||| k0_18) ||| 1073741824))) H := hP
      have hD : va_D A (mW G (t_cpsr σ ((((m_cpsr σ) &&& 1073741823) ||| k0_18) ||| 1073741824))) := hD
      exact hret (t_cpsr σ ((((m_cpsr σ) &&& 1073741823) ||| k0_18) ||| 1073741824)) _ _ _ _ hf hP hD hS dX11_setFlags_33
  refine lv_aload_n hx hb dX11_setFlags_0 rfl (lv_at hl 0 rfl) ?_
  refine lv_aload_n hx hb dX11_setFlags_1 rfl (lv_at hl 0 rfl) ?_
  refine va_get (D := gD G) (ci := 9) hx hb hts ku_11 hown hK hP 0 rfl rfl 4 (by decide) (hts _ kw_109) (fun _ h9 => h9) rfl dX11_setFlags_2 ?_
  refine lv_ldc (v := 1073741823) hx hb hown (hts _ kw_789) dX11_setFlags_5 ?_
  refine lv_iand hx hb dX11_setFlags_7 ?_
  refine lv_iload_n hx hb dX11_setFlags_8 rfl (lv_at hl 1 rfl) ?_
  refine lv_if_ge (tgt := 17) hx hb dX11_setFlags_9 (by decide) (fun h_4 => ?_) (fun h_4 => ?_)
  · have hf := hf.trans (if_pos h_4)
    refine lv_iconst (v := 0) hx hb dX11_setFlags_17 (by decide) ?_
    exact J18 0 (by unfold lo0; decide) _ _ _ hP hD hS (lv_sub hl [1] rfl) hf
  · have hf := hf.trans (if_neg h_4)
    refine lv_ldc (v := (-2147483648)) hx hb hown (hts _ kw_761) dX11_setFlags_12 ?_
    refine lv_goto (tgt := 18) hx hb dX11_setFlags_14 (by decide) ?_
    exact J18 (-2147483648) (by unfold lo0; decide) _ _ _ hP hD hS (lv_sub hl [1] rfl) hf
