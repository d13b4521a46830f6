def y_Model_isSum (v0 : Int32) : Bool := (if (y_Model_within v0 2 7) = true then true else (if v0 = 10 then true else (if v0 = 11 then true else false)))
set_option maxRecDepth 20000 in
set_option maxHeartbeats 4000000 in
theorem cy_Model_isSum (l : Launch) (v0 : Int32) : KPi l yX11_isSum (Cond.code yX11_isSum cX11_isSum 1 (some .boolean) :: lw_all) (kr 1) [.int v0] (b01 (y_Model_isSum v0)) := by
  refine kp_in_z (q := y_Model_isSum v0) (by decide) rfl (Nat.le_of_ble_eq_true rfl) ?_
  intro p e s m args below meth c Q ls hx hb hml hown hts hl hret
  have hts := fun w h => hts w (List.mem_cons_of_mem _ h)
  have hl : lv_has ls 1 [(0, .int v0)] := hl
  have hf : y_Model_isSum v0 = y_Model_isSum v0 := rfl
  refine lv_iload_n hx hb dX11_isSum_0 rfl (lv_at hl 0 rfl) ?_
  refine lv_iconst (v := 2) hx hb dX11_isSum_1 (by decide) ?_
  refine lv_bipush (v := 7) hx hb dX11_isSum_2 (by decide) ?_
  refine kp_Si (rest := []) (cy_Model_within l v0 2 7) ⟨hx, hb, hml, hown, hts⟩ (va_cwS 3 hts (gi_S kw_155 kw_156 kw_5 kw_157) rfl rfl rfl mdX11_within ⟨by decide, by decide⟩) rfl hl.1 rfl (Nat.le_of_ble_eq_true rfl) dX11_isSum_4 ⟨Nat.zero_le _, Nat.zero_le _⟩ ?_
  refine kz_ne (tgt := 22) hx hb dX11_isSum_7 (by decide) (fun h_4 => ?_) (fun h_4 => ?_)
  · have hf := hf.trans (if_pos h_4)
    refine lv_iconst (v := 1) hx hb dX11_isSum_22 (by decide) ?_
    refine lv_goto (tgt := 27) hx hb dX11_isSum_23 (by decide) ?_
    exact hret true _ _ hf dX11_isSum_27
  · have hf := hf.trans (if_neg h_4)
    refine lv_iload_n hx hb dX11_isSum_10 rfl (lv_at hl 0 rfl) ?_
    refine lv_bipush (v := 10) hx hb dX11_isSum_11 (by decide) ?_
    refine lv_icmp_eq (tgt := 22) hx hb dX11_isSum_13 (by decide) (fun h_5 => ?_) (fun h_5 => ?_)
    · have hf := hf.trans (if_pos h_5)
      refine lv_iconst (v := 1) hx hb dX11_isSum_22 (by decide) ?_
      refine lv_goto (tgt := 27) hx hb dX11_isSum_23 (by decide) ?_
      exact hret true _ _ hf dX11_isSum_27
    · have hf := hf.trans (if_neg h_5)
      refine lv_iload_n hx hb dX11_isSum_16 rfl (lv_at hl 0 rfl) ?_
      refine lv_bipush (v := 11) hx hb dX11_isSum_17 (by decide) ?_
      refine lv_icmp_ne (tgt := 26) hx hb dX11_isSum_19 (by decide) (fun h_6 => ?_) (fun h_6 => ?_)
      · have hf := hf.trans (if_neg h_6)
        refine lv_iconst (v := 0) hx hb dX11_isSum_26 (by decide) ?_
        exact hret false _ _ hf dX11_isSum_27
      · have hf := hf.trans (if_pos h_6)
        refine lv_iconst (v := 1) hx hb dX11_isSum_22 (by decide) ?_
        refine lv_goto (tgt := 27) hx hb dX11_isSum_23 (by decide) ?_
        exact hret true _ _ hf dX11_isSum_27
