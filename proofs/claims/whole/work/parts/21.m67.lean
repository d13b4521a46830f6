def y_Model_branch_22 (σ : MS) (v0 : Int32) (τ_22 : MS) : MS := y_Model_put τ_22 15 (((m_here τ_22) + 8) + (4 * ((v0 <<< ((8 : Int32) &&& 31)) >>> ((8 : Int32) &&& 31))))
def y_Model_branch (σ : MS) (v0 : Int32) : MS := (if ((v0 >>> ((24 : Int32) &&& 31)) &&& 1) = 1 then y_Model_branch_22 σ v0 (y_Model_put σ 14 ((m_here σ) + 4)) else y_Model_branch_22 σ v0 σ)
set_option maxRecDepth 20000 in
set_option maxHeartbeats 4000000 in
theorem cy_Model_branch (l : Launch) (G : KG) (σ : MS) (v0 : Int32) : KV l yX11_branch (Cond.code yX11_branch cX11_branch 2 none :: lw_all) (kr 3) (gD G) vwCl (gT G) (mZ G) (mW G) [.ref (gA G 20), .int v0] σ (y_Model_branch σ v0) := by
  refine kc_in_v (q := y_Model_branch σ v0) (by decide) rfl (Nat.le_of_ble_eq_true rfl) ?_
  intro p e s m args below meth c A Q ls hx hb hml hown hts hK hP hD hA hS hZ hl hret
  have hts := fun w h => hts w (List.mem_cons_of_mem _ h)
  have hl : lv_has ls 2 [(0, .ref (gA G 20)), (1, .int v0)] := hl
  have hf : y_Model_branch σ v0 = y_Model_branch σ v0 := rfl
  have J22 : ∀ (τ_22 : MS) (H : Heap) (locs : List Loc) (ls : Array Slot), va_P (gD G) vwCl (mW G (τ_22)) H → va_D A (mW G (τ_22)) → va_S A s.heap H locs → lv_has ls 2 [(0, .ref (gA G 20)), (1, .int v0)] → y_Model_branch σ v0 = y_Model_branch_22 σ v0 τ_22 → W p l e (kr 3) s m args below meth c H locs 0 0 Q (F0 m 22 ls []) := by
    intro τ_22 H locs ls hP hD hS hl hf
    refine lv_aload_n hx hb dX11_branch_22 rfl (lv_at hl 0 rfl) ?_
    refine lv_bipush (v := 15) hx hb dX11_branch_23 (by decide) ?_
    refine lv_aload_n hx hb dX11_branch_25 rfl (lv_at hl 0 rfl) ?_
    refine va_get (D := gD G) (ci := 9) hx hb hts ku_11 hown hK hP 0 rfl rfl 8 (by decide) (hts _ kw_726) (fun _ h9 => h9) rfl dX11_branch_26 ?_
    refine lv_bipush (v := 8) hx hb dX11_branch_29 (by decide) ?_
    refine lv_iadd hx hb dX11_branch_31 ?_
    refine lv_iconst (v := 4) hx hb dX11_branch_32 (by decide) ?_
    refine lv_iload_n hx hb dX11_branch_33 rfl (lv_at hl 1 rfl) ?_
    refine lv_bipush (v := 8) hx hb dX11_branch_34 (by decide) ?_
    refine lv_ishl hx hb dX11_branch_36 ?_
    refine lv_bipush (v := 8) hx hb dX11_branch_37 (by decide) ?_
    refine lv_ishr hx hb dX11_branch_39 ?_
    refine lv_imul hx hb dX11_branch_40 ?_
    refine lv_iadd hx hb dX11_branch_41 ?_
    refine kc_Vv (rest := []) (cy_Model_put l G τ_22 15 (((m_here τ_22) + 8) + (4 * ((v0 <<< ((8 : Int32) &&& 31)) >>> ((8 : Int32) &&& 31)))) (by unfold vp_in; decide)) ⟨hx, hb, hml, hown, hts⟩ (cwV 2 hts (gi_V kw_806 kw_807 kw_808 kw_5 kw_809) rfl rfl rfl ⟨rfl, mdX11_put⟩ ⟨by decide, by decide⟩) (va_recv hK hP (ci := 9) (q0 := 0) rfl rfl) mZ_ok hK hP hD hS hA hZ rfl hl.1 rfl (Nat.le_of_ble_eq_true rfl) dX11_branch_42 ⟨Nat.zero_le _, Nat.zero_le _⟩ (fun H locs hP hD hS => ?_)
    exact hret (y_Model_put τ_22 15 (((m_here τ_22) + 8) + (4 * ((v0 <<< ((8 : Int32) &&& 31)) >>> ((8 : Int32) &&& 31))))) _ _ _ _ hf hP hD hS dX11_branch_45
  refine lv_iload_n hx hb dX11_branch_0 rfl (lv_at hl 1 rfl) ?_
  refine lv_bipush (v := 24) hx hb dX11_branch_1 (by decide) ?_
  refine lv_ishr hx hb dX11_branch_3 ?_
  refine lv_iconst (v := 1) hx hb dX11_branch_4 (by decide) ?_
  refine lv_iand hx hb dX11_branch_5 ?_
  refine lv_iconst (v := 1) hx hb dX11_branch_6 (by decide) ?_
  refine lv_icmp_ne (tgt := 22) hx hb dX11_branch_7 (by decide) (fun h_2 => ?_) (fun h_2 => ?_)
  · have hf := hf.trans (if_neg h_2)
    exact J22 σ _ _ _ hP hD hS (lv_sub hl [0, 1] rfl) hf
  · have hf := hf.trans (if_pos h_2)
    refine lv_aload_n hx hb dX11_branch_10 rfl (lv_at hl 0 rfl) ?_
    refine lv_bipush (v := 14) hx hb dX11_branch_11 (by decide) ?_
    refine lv_aload_n hx hb dX11_branch_13 rfl (lv_at hl 0 rfl) ?_
    refine va_get (D := gD G) (ci := 9) hx hb hts ku_11 hown hK hP 0 rfl rfl 8 (by decide) (hts _ kw_726) (fun _ h9 => h9) rfl dX11_branch_14 ?_
    refine lv_iconst (v := 4) hx hb dX11_branch_17 (by decide) ?_
    refine lv_iadd hx hb dX11_branch_18 ?_
    refine kc_Vv (rest := []) (cy_Model_put l G σ 14 ((m_here σ) + 4) (by unfold vp_in; decide)) ⟨hx, hb, hml, hown, hts⟩ (cwV 2 hts (gi_V kw_806 kw_807 kw_808 kw_5 kw_809) rfl rfl rfl ⟨rfl, mdX11_put⟩ ⟨by decide, by decide⟩) (va_recv hK hP (ci := 9) (q0 := 0) rfl rfl) mZ_ok hK hP hD hS hA hZ rfl hl.1 rfl (Nat.le_of_ble_eq_true rfl) dX11_branch_19 ⟨Nat.zero_le _, Nat.zero_le _⟩ (fun H locs hP hD hS => ?_)
    exact J22 (y_Model_put σ 14 ((m_here σ) + 4)) _ _ _ hP hD hS (lv_sub hl [0, 1] rfl) hf
