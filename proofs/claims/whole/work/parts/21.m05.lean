def y_Model_placeOf (v0 : Int32) (v1 : Int32) : Int32 := (if v1 < 8 then v1 else (if v1 = 15 then v1 else (if (y_Model_bank v0) = 5 then v1 else (if (y_Model_bank v0) = 0 then 8 + v1 else (if 13 ≤ v1 then ((21 + (2 * (y_Model_bank v0))) + v1) - 13 else v1)))))
set_option maxRecDepth 20000 in
set_option maxHeartbeats 4000000 in
theorem cy_Model_placeOf (l : Launch) (v0 : Int32) (v1 : Int32) : KPi l yX11_placeOf (Cond.code yX11_placeOf cX11_placeOf 3 (some .int) :: lw_all) (kr 1) [.int v0, .int v1] (y_Model_placeOf v0 v1) := by
  refine kp_in_i (q := y_Model_placeOf v0 v1) (by decide) rfl (Nat.le_of_ble_eq_true rfl) ?_
  intro p e s m args below meth c Q ls hx hb hml hown hts hl hret
  have hts := fun w h => hts w (List.mem_cons_of_mem _ h)
  have hl : lv_has ls 3 [(0, .int v0), (1, .int v1)] := hl
  have hf : y_Model_placeOf v0 v1 = y_Model_placeOf v0 v1 := rfl
  refine lv_iload_n hx hb dX11_placeOf_0 rfl (lv_at hl 0 rfl) ?_
  refine kp_Si (rest := []) (cy_Model_bank l v0) ⟨hx, hb, hml, hown, hts⟩ (va_cwS 1 hts (gi_S kw_203 kw_204 kw_5 kw_205) rfl rfl rfl mdX11_bank ⟨by decide, by decide⟩) rfl hl.1 rfl (Nat.le_of_ble_eq_true rfl) dX11_placeOf_1 ⟨Nat.zero_le _, Nat.zero_le _⟩ ?_
  refine lv_istore_n (lv' := [(2, .int (y_Model_bank v0)), (0, .int v0), (1, .int v1)]) hx hb dX11_placeOf_4 rfl hl (by decide) rfl (fun ls hl => ?_)
  refine lv_iload_n hx hb dX11_placeOf_5 rfl (lv_at hl 2 rfl) ?_
  refine lv_bipush (v := 8) hx hb dX11_placeOf_6 (by decide) ?_
  refine lv_icmp_lt (tgt := 22) hx hb dX11_placeOf_8 (by decide) (fun h_6 => ?_) (fun h_6 => ?_)
  · have hf := hf.trans (if_pos h_6)
    refine lv_iload_n hx hb dX11_placeOf_22 rfl (lv_at hl 2 rfl) ?_
    exact hret v1 _ _ hf dX11_placeOf_23
  · have hf := hf.trans (if_neg h_6)
    refine lv_iload_n hx hb dX11_placeOf_11 rfl (lv_at hl 2 rfl) ?_
    refine lv_bipush (v := 15) hx hb dX11_placeOf_12 (by decide) ?_
    refine lv_icmp_eq (tgt := 22) hx hb dX11_placeOf_14 (by decide) (fun h_7 => ?_) (fun h_7 => ?_)
    · have hf := hf.trans (if_pos h_7)
      refine lv_iload_n hx hb dX11_placeOf_22 rfl (lv_at hl 2 rfl) ?_
      exact hret v1 _ _ hf dX11_placeOf_23
    · have hf := hf.trans (if_neg h_7)
      refine lv_iload_n hx hb dX11_placeOf_17 rfl (lv_at hl 0 rfl) ?_
      refine lv_iconst (v := 5) hx hb dX11_placeOf_18 (by decide) ?_
      refine lv_icmp_ne (tgt := 24) hx hb dX11_placeOf_19 (by decide) (fun h_8 => ?_) (fun h_8 => ?_)
      · have hf := hf.trans (if_neg h_8)
        refine lv_iload_n hx hb dX11_placeOf_24 rfl (lv_at hl 0 rfl) ?_
        refine lv_if_ne (tgt := 33) hx hb dX11_placeOf_25 (by decide) (fun h_9 => ?_) (fun h_9 => ?_)
        · have hf := hf.trans (if_neg h_9)
          refine lv_iload_n hx hb dX11_placeOf_33 rfl (lv_at hl 2 rfl) ?_
          refine lv_bipush (v := 13) hx hb dX11_placeOf_34 (by decide) ?_
          refine lv_icmp_ge (tgt := 43) hx hb dX11_placeOf_36 (by decide) (fun h_10 => ?_) (fun h_10 => ?_)
          · have hf := hf.trans (if_pos h_10)
            refine lv_bipush (v := 21) hx hb dX11_placeOf_43 (by decide) ?_
            refine lv_iconst (v := 2) hx hb dX11_placeOf_45 (by decide) ?_
            refine lv_iload_n hx hb dX11_placeOf_46 rfl (lv_at hl 0 rfl) ?_
            refine lv_imul hx hb dX11_placeOf_47 ?_
            refine lv_iadd hx hb dX11_placeOf_48 ?_
            refine lv_iload_n hx hb dX11_placeOf_49 rfl (lv_at hl 2 rfl) ?_
            refine lv_iadd hx hb dX11_placeOf_50 ?_
            refine lv_bipush (v := 13) hx hb dX11_placeOf_51 (by decide) ?_
            refine lv_isub hx hb dX11_placeOf_53 ?_
            exact hret (((21 + (2 * (y_Model_bank v0))) + v1) - 13) _ _ hf dX11_placeOf_54
          · have hf := hf.trans (if_neg h_10)
            refine lv_iload_n hx hb dX11_placeOf_39 rfl (lv_at hl 2 rfl) ?_
            refine lv_goto (tgt := 54) hx hb dX11_placeOf_40 (by decide) ?_
            exact hret v1 _ _ hf dX11_placeOf_54
        · have hf := hf.trans (if_pos h_9)
          refine lv_bipush (v := 8) hx hb dX11_placeOf_28 (by decide) ?_
          refine lv_iload_n hx hb dX11_placeOf_30 rfl (lv_at hl 2 rfl) ?_
          refine lv_iadd hx hb dX11_placeOf_31 ?_
          exact hret (8 + v1) _ _ hf dX11_placeOf_32
      · have hf := hf.trans (if_pos h_8)
        refine lv_iload_n hx hb dX11_placeOf_22 rfl (lv_at hl 2 rfl) ?_
        exact hret v1 _ _ hf dX11_placeOf_23
theorem place_in (m : Int32) {i : Int32} (hi : vp_in i 16) : vp_in (y_Model_placeOf m i) 31 := by
  obtain ⟨k, hk, rfl⟩ := vp_in_of hi (by decide)
  unfold y_Model_placeOf vp_in
  rcases bank_cases m with h | h | h | h | h | h | h <;> (rw [h]; clear h hi; revert k; decide +kernel)
