def y_Model_hasSaved (σ : MS) : Bool := (if 5 ≤ (y_Model_bank (y_Model_mode σ)) then false else true)
set_option maxRecDepth 20000 in
set_option maxHeartbeats 4000000 in
theorem cy_Model_hasSaved (l : Launch) (G : KG) (σ : MS) : KB l yX11_hasSaved (Cond.code yX11_hasSaved cX11_hasSaved 1 (some .boolean) :: lw_all) (kr 1) (gD G) vwCl (gT G) (mZ G) (mW G) [.ref (gA G 20)] σ (b01 (y_Model_hasSaved σ), σ) := by
  refine kc_in_y (q := y_Model_hasSaved σ) (by decide) rfl (Nat.le_of_ble_eq_true rfl) ?_
  intro p e s m args below meth c A Q ls hx hb hml hown hts hK hP hD hA hS hZ hl hret
  have hts := fun w h => hts w (List.mem_cons_of_mem _ h)
  have hl : lv_has ls 1 [(0, .ref (gA G 20))] := hl
  have hf : y_Model_hasSaved σ = y_Model_hasSaved σ := rfl
  refine lv_aload_n hx hb dX11_hasSaved_0 rfl (lv_at hl 0 rfl) ?_
  refine kc_Vr (rest := []) (cy_Model_mode l G σ) ⟨hx, hb, hml, hown, hts⟩ (cwV 0 hts (gi_V kw_259 kw_260 kw_261 kw_5 kw_262) rfl rfl rfl ⟨rfl, mdX11_mode⟩ ⟨by decide, by decide⟩) (va_recv hK hP (ci := 9) (q0 := 0) rfl rfl) mZ_ok hK hP hD hS hA hZ rfl hl.1 rfl (Nat.le_of_ble_eq_true rfl) dX11_hasSaved_1 ⟨Nat.zero_le _, Nat.zero_le _⟩ (fun H locs hP hD hS => ?_)
  refine kp_Si (rest := []) (cy_Model_bank l (y_Model_mode σ)) ⟨hx, hb, hml, hown, hts⟩ (va_cwS 1 hts (gi_S kw_203 kw_204 kw_5 kw_205) rfl rfl rfl mdX11_bank ⟨by decide, by decide⟩) rfl hl.1 rfl (Nat.le_of_ble_eq_true rfl) dX11_hasSaved_4 ⟨Nat.zero_le _, Nat.zero_le _⟩ ?_
  refine lv_iconst (v := 5) hx hb dX11_hasSaved_7 (by decide) ?_
  refine lv_icmp_ge (tgt := 15) hx hb dX11_hasSaved_8 (by decide) (fun h_2 => ?_) (fun h_2 => ?_)
  · have hf := hf.trans (if_pos h_2)
    refine lv_iconst (v := 0) hx hb dX11_hasSaved_15 (by decide) ?_
    exact hret false _ _ _ _ hf hP hD hS dX11_hasSaved_16
  · have hf := hf.trans (if_neg h_2)
    refine lv_iconst (v := 1) hx hb dX11_hasSaved_11 (by decide) ?_
    refine lv_goto (tgt := 16) hx hb dX11_hasSaved_12 (by decide) ?_
    exact hret true _ _ _ _ hf hP hD hS dX11_hasSaved_16
theorem hs_in {τ : MS} (h : y_Model_hasSaved τ = true) : vp_in (y_Model_bank (y_Model_mode τ)) 5 := by
  have q := vp_in_iff.mp (okm_bank (md_ok τ))
  unfold y_Model_hasSaved at h
  by_cases h1 : 5 ≤ y_Model_bank (y_Model_mode τ)
  · rw [if_pos h1] at h; cases h
  · have a2 : ¬ (5 : Int32).toInt ≤ (y_Model_bank (y_Model_mode τ)).toInt := fun q => h1 (Int32.le_iff_toInt_le.mpr q)
    have e5 : (5 : Int32).toInt = 5 := by decide
    rw [e5] at a2
    rw [vp_in_iff]
    exact ⟨q.1, by omega⟩
