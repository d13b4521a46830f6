def y_Model_within (v0 : Int32) (v1 : Int32) (v2 : Int32) : Bool := (if v0 < v1 then false else (if v2 < v0 then false else true))
set_option maxRecDepth 20000 in
set_option maxHeartbeats 4000000 in
theorem cy_Model_within (l : Launch) (v0 : Int32) (v1 : Int32) (v2 : Int32) : KPi l yX11_within (Cond.code yX11_within cX11_within 3 (some .boolean) :: lw_all) (kr 0) [.int v0, .int v1, .int v2] (b01 (y_Model_within v0 v1 v2)) := by
  refine kp_in_z (q := y_Model_within v0 v1 v2) (by decide) rfl (Nat.le_of_ble_eq_true rfl) ?_
  intro p e s m args below meth c Q ls hx hb hml hown hts hl hret
  have hts := fun w h => hts w (List.mem_cons_of_mem _ h)
  have hl : lv_has ls 3 [(0, .int v0), (1, .int v1), (2, .int v2)] := hl
  have hf : y_Model_within v0 v1 v2 = y_Model_within v0 v1 v2 := rfl
  refine lv_iload_n hx hb dX11_within_0 rfl (lv_at hl 0 rfl) ?_
  refine lv_iload_n hx hb dX11_within_1 rfl (lv_at hl 1 rfl) ?_
  refine lv_icmp_lt (tgt := 14) hx hb dX11_within_2 (by decide) (fun h_3 => ?_) (fun h_3 => ?_)
  · have hf := hf.trans (if_pos h_3)
    refine lv_iconst (v := 0) hx hb dX11_within_14 (by decide) ?_
    exact hret false _ _ hf dX11_within_15
  · have hf := hf.trans (if_neg h_3)
    refine lv_iload_n hx hb dX11_within_5 rfl (lv_at hl 0 rfl) ?_
    refine lv_iload_n hx hb dX11_within_6 rfl (lv_at hl 2 rfl) ?_
    refine lv_icmp_gt (tgt := 14) hx hb dX11_within_7 (by decide) (fun h_4 => ?_) (fun h_4 => ?_)
    · have hf := hf.trans (if_pos h_4)
      refine lv_iconst (v := 0) hx hb dX11_within_14 (by decide) ?_
      exact hret false _ _ hf dX11_within_15
    · have hf := hf.trans (if_neg h_4)
      refine lv_iconst (v := 1) hx hb dX11_within_10 (by decide) ?_
      refine lv_goto (tgt := 15) hx hb dX11_within_11 (by decide) ?_
      exact hret true _ _ hf dX11_within_15
theorem wi_in {v hi : Int32} {N : Nat} (h : y_Model_within v 0 hi = true) (hN : hi.toInt < N) : vp_in v N := by
  unfold y_Model_within at h
  by_cases h1 : v < 0
  · rw [if_pos h1] at h; cases h
  · rw [if_neg h1] at h
    by_cases h2 : hi < v
    · rw [if_pos h2] at h; cases h
    · rw [vp_in_iff]
      have a1 : ¬ v.toInt < (0 : Int32).toInt := fun q => h1 (Int32.lt_iff_toInt_lt.mpr q)
      have a2 : ¬ hi.toInt < v.toInt := fun q => h2 (Int32.lt_iff_toInt_lt.mpr q)
      have e0 : (0 : Int32).toInt = 0 := by decide
      rw [e0] at a1
      exact ⟨by omega, by omega⟩
theorem ct_in {v : Int32} (h : y_Model_within v 0 7 = true) (h6 : ¬ 6 ≤ v) : vp_in v 6 := by
  have q := vp_in_iff.mp (wi_in (N := 8) h (by decide))
  have a2 : ¬ (6 : Int32).toInt ≤ v.toInt := fun q => h6 (Int32.le_iff_toInt_le.mpr q)
  have e6 : (6 : Int32).toInt = 6 := by decide
  rw [e6] at a2
  rw [vp_in_iff]
  exact ⟨q.1, by omega⟩
