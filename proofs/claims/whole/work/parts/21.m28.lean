def y_Model_isThere (v0 : Int32) : Bool := y_Model_within v0 0 262143
set_option maxRecDepth 20000 in
set_option maxHeartbeats 4000000 in
theorem cy_Model_isThere (l : Launch) (v0 : Int32) : KPi l yX11_isThere (Cond.code yX11_isThere cX11_isThere 1 (some .boolean) :: lw_all) (kr 1) [.int v0] (b01 (y_Model_isThere v0)) := by
  refine kp_in_z (q := y_Model_isThere v0) (by decide) rfl (Nat.le_of_ble_eq_true rfl) ?_
  intro p e s m args below meth c Q ls hx hb hml hown hts hl hret
  have hts := fun w h => hts w (List.mem_cons_of_mem _ h)
  have hl : lv_has ls 1 [(0, .int v0)] := hl
  have hf : y_Model_isThere v0 = y_Model_isThere v0 := rfl
  refine lv_iload_n hx hb dX11_isThere_0 rfl (lv_at hl 0 rfl) ?_
  refine lv_iconst (v := 0) hx hb dX11_isThere_1 (by decide) ?_
  refine lv_ldc (v := 262143) hx hb hown (hts _ kw_150) dX11_isThere_2 ?_
  refine kp_Si (rest := []) (cy_Model_within l v0 0 262143) ⟨hx, hb, hml, hown, hts⟩ (va_cwS 3 hts (gi_S kw_155 kw_156 kw_5 kw_157) rfl rfl rfl mdX11_within ⟨by decide, by decide⟩) rfl hl.1 rfl (Nat.le_of_ble_eq_true rfl) dX11_isThere_4 ⟨Nat.zero_le _, Nat.zero_le _⟩ ?_
  exact hret (y_Model_within v0 0 262143) _ _ hf dX11_isThere_7
theorem th_in {a : Int32} (h : y_Model_isThere a = true) : vp_in a 262144 := wi_in h (by decide)
