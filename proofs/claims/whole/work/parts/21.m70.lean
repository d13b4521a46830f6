/-- a loop up to v -/
def lpV (v : Int32) (n : Nat) (i : Int32) : Prop := ∃ j N : Nat, v = nI N ∧ i = nI j ∧ j ≤ N ∧ N < j + n ∧ N < 2 ^ 30
theorem lpV_start {v : Int32} (h : vp_in v 20001) : lpV v 20001 0 := by
  obtain ⟨N, hN, rfl⟩ := vp_in_of h (by decide)
  exact ⟨0, N, rfl, rfl, Nat.zero_le _, by omega, by omega⟩
theorem lpV_0 {v i : Int32} : ¬ lpV v 0 i := fun ⟨j, N, _, _, h1, h2, _⟩ => by omega
theorem lpV_s {v i : Int32} {n : Nat} (h : lpV v (n + 1) i) (hc : ¬ v ≤ i) : lpV v n (i + 1) := by
  obtain ⟨j, N, rfl, rfl, h1, h2, h3⟩ := h
  have : j < N := Nat.not_le.mp fun q => hc (nI_le q (by omega))
  exact ⟨j + 1, N, rfl, nI_1 j, by omega, by omega, h3⟩
theorem wi_step {v : Int32} (h : y_Model_within v 1 20000 = true) : vp_in v 20001 := by
  unfold y_Model_within at h
  by_cases h1 : v < 1
  · rw [if_pos h1] at h; cases h
  · rw [if_neg h1] at h
    by_cases h2 : 20000 < v
    · rw [if_pos h2] at h; cases h
    · rw [vp_in_iff]
      have a1 : ¬ v.toInt < (1 : Int32).toInt := fun q => h1 (Int32.lt_iff_toInt_lt.mpr q)
      have a2 : ¬ (20000 : Int32).toInt < v.toInt := fun q => h2 (Int32.lt_iff_toInt_lt.mpr q)
      have e0 : (1 : Int32).toInt = 1 := by decide
      have e1 : (20000 : Int32).toInt = 20000 := by decide
      rw [e0] at a1
      rw [e1] at a2
      exact ⟨by omega, by omega⟩
def y_Model_step_26 (σ : MS) (v0 : Int32) : Nat → Int32 → Int32 → MS → Int32 × MS
  | 0, _, _, _ => (0, σ)
  | n + 1, n2_26, n3_26, τ_26 => (if v0 ≤ n3_26 then (n2_26, τ_26) else y_Model_step_26 σ v0 n (n2_26 + (b01 (decide (((y_Model_go τ_26).1) = true)))) (n3_26 + 1) ((y_Model_go τ_26).2))
def y_Model_step (σ : MS) (v0 : Int32) : Int32 × MS := (if (y_Model_within v0 1 20000) = true then y_Model_step_26 σ v0 20001 0 0 (t_thrown σ 0) else (y_Model_fail (t_thrown σ 0) 1))
set_option maxRecDepth 20000 in
set_option maxHeartbeats 4000000 in
theorem cy_Model_step (l : Launch) (G : KG) (σ : MS) (v0 : Int32) : KB l yX11_step (Cond.code yX11_step cX11_step 4 (some .int) :: lw_all) (kr 9) (gD G) vwCl (gT G) (mZ G) (mW G) [.ref (gA G 20), .int v0] σ (y_Model_step σ v0) := by
  refine kc_in_b (q := y_Model_step σ v0) (by decide) rfl (Nat.le_of_ble_eq_true rfl) ?_
  intro p e s m args below meth c A Q ls hx hb hml hown hts hK hP hD hA hS hZ hl hret
  have hts := fun w h => hts w (List.mem_cons_of_mem _ h)
  have hl : lv_has ls 4 [(0, .ref (gA G 20)), (1, .int v0)] := hl
  have hf : y_Model_step σ v0 = y_Model_step σ v0 := rfl
  have J26 : ∀ (n : Nat), ∀ (n2_26 : Int32) (n3_26 : Int32) (τ_26 : MS) (H : Heap) (locs : List Loc) (ls : Array Slot), va_P (gD G) vwCl (mW G (τ_26)) H → va_D A (mW G (τ_26)) → va_S A s.heap H locs → lv_has ls 4 [(0, .ref (gA G 20)), (1, .int v0), (2, .int n2_26), (3, .int n3_26)] → y_Model_step σ v0 = y_Model_step_26 σ v0 n n2_26 n3_26 τ_26 → lpV v0 n n3_26 → W p l e (kr 9) s m args below meth c H locs 0 0 Q (F0 m 26 ls []) := by
    intro n
    induction n with
    | zero =>
      intro n2_26 n3_26 τ_26 H locs ls hP hD hS hl hf hinv
      exact absurd hinv lpV_0
    | succ n ih =>
      intro n2_26 n3_26 τ_26 H locs ls hP hD hS hl hf hinv
      refine lv_iload_n hx hb dX11_step_26 rfl (lv_at hl 3 rfl) ?_
      refine lv_iload_n hx hb dX11_step_27 rfl (lv_at hl 1 rfl) ?_
      refine lv_icmp_ge (tgt := 52) hx hb dX11_step_28 (by decide) (fun h_4 => ?_) (fun h_4 => ?_)
      · have hf := hf.trans (if_pos h_4)
        refine lv_iload_n hx hb dX11_step_52 rfl (lv_at hl 2 rfl) ?_
        exact hret n2_26 τ_26 _ _ _ _ hf hP hD hS dX11_step_53
      · have hf := hf.trans (if_neg h_4)
        refine lv_iload_n hx hb dX11_step_31 rfl (lv_at hl 2 rfl) ?_
        refine lv_aload_n hx hb dX11_step_32 rfl (lv_at hl 0 rfl) ?_
        refine kc_Vz (rest := [.int n2_26]) (cy_Model_go l G τ_26) ⟨hx, hb, hml, hown, hts⟩ (cwV 0 hts (gi_V kw_720 kw_721 kw_722 kw_5 kw_723) rfl rfl rfl ⟨rfl, mdX11_go⟩ ⟨by decide, by decide⟩) (va_recv hK hP (ci := 9) (q0 := 0) rfl rfl) mZ_ok hK hP hD hS hA hZ rfl hl.1 rfl (Nat.le_of_ble_eq_true rfl) dX11_step_33 ⟨Nat.zero_le _, Nat.zero_le _⟩ (fun H locs hP hD hS => ?_)
        refine kz_dN0 (P := ((y_Model_go τ_26).1) = true) (tgt := 43) (M := 44) (fun a b => kz_eq (tgt := 43) hx hb dX11_step_36 (by decide) a b) hx hb dX11_step_39 dX11_step_40 (by decide) dX11_step_43 rfl ?_
        refine lv_iadd hx hb dX11_step_44 ?_
        refine lv_istore_n (lv' := [(2, .int (n2_26 + (b01 (decide (((y_Model_go τ_26).1) = true))))), (0, .ref (gA G 20)), (1, .int v0), (3, .int n3_26)]) hx hb dX11_step_45 rfl hl (by decide) rfl (fun ls hl => ?_)
        refine lv_iinc (v := n3_26 + 1) (lv' := [(3, .int (n3_26 + 1)), (2, .int (n2_26 + (b01 (decide (((y_Model_go τ_26).1) = true))))), (0, .ref (gA G 20)), (1, .int v0)]) hx hb dX11_step_46 hl (k := 3) rfl rfl (by decide) rfl (fun ls hl => ?_)
        refine lv_goto (tgt := 26) hx hb dX11_step_49 (by decide) ?_
        exact ih (n2_26 + (b01 (decide (((y_Model_go τ_26).1) = true)))) (n3_26 + 1) ((y_Model_go τ_26).2) _ _ _ hP hD hS (lv_sub hl [2, 3, 1, 0] rfl) hf (lpV_s hinv (by assumption))
  refine lv_aload_n hx hb dX11_step_0 rfl (lv_at hl 0 rfl) ?_
  refine lv_iconst (v := 0) hx hb dX11_step_1 (by decide) ?_
  refine va_put (D := gD G) (ci := 9) (v := .int 0) (ty := .int) hx hb hts ku_11 tyX11 tyX11_ok nmX11 hown hK hP hD hS 0 rfl rfl 0 (by decide) (hts _ kw_149) (fun _ h9 => h9) rfl (tyX11_ok 0 (by decide)) rfl rfl (Nat.le_of_ble_eq_true rfl) dX11_step_2 (fun H locs hP hD hS => ?_)
  have hP := kP_eq (mWs_thrown G σ 0) hP
  have hD := kD_eq (mWs_thrown G σ 0) hD
  refine lv_iload_n hx hb dX11_step_5 rfl (lv_at hl 1 rfl) ?_
  refine lv_iconst (v := 1) hx hb dX11_step_6 (by decide) ?_
  refine lv_sipush (v := 20000) hx hb dX11_step_7 (by decide) ?_
  refine kp_Si (rest := []) (cy_Model_within l v0 1 20000) ⟨hx, hb, hml, hown, hts⟩ (va_cwS 3 hts (gi_S kw_155 kw_156 kw_5 kw_157) rfl rfl rfl mdX11_within ⟨by decide, by decide⟩) rfl hl.1 rfl (Nat.le_of_ble_eq_true rfl) dX11_step_10 ⟨Nat.zero_le _, Nat.zero_le _⟩ ?_
  refine kz_ne (tgt := 22) hx hb dX11_step_13 (by decide) (fun h_6 => ?_) (fun h_6 => ?_)
  · have hf := hf.trans (if_pos h_6)
    refine lv_iconst (v := 0) hx hb dX11_step_22 (by decide) ?_
    refine lv_istore_n (lv' := [(2, .int 0), (0, .ref (gA G 20)), (1, .int v0)]) hx hb dX11_step_23 rfl hl (by decide) rfl (fun ls hl => ?_)
    refine lv_iconst (v := 0) hx hb dX11_step_24 (by decide) ?_
    refine lv_istore_n (lv' := [(3, .int 0), (2, .int 0), (0, .ref (gA G 20)), (1, .int v0)]) hx hb dX11_step_25 rfl hl (by decide) rfl (fun ls hl => ?_)
    exact J26 20001 0 0 (t_thrown σ 0) _ _ _ hP hD hS (lv_sub hl [2, 3, 1, 0] rfl) hf (lpV_start (wi_step (by assumption)))
  · have hf := hf.trans (if_neg h_6)
    refine lv_aload_n hx hb dX11_step_16 rfl (lv_at hl 0 rfl) ?_
    refine lv_iconst (v := 1) hx hb dX11_step_17 (by decide) ?_
    refine kc_Vb (rest := []) (cy_Model_fail l G (t_thrown σ 0) 1) ⟨hx, hb, hml, hown, hts⟩ (cwV 1 hts (gi_V kw_151 kw_152 kw_153 kw_5 kw_154) rfl rfl rfl ⟨rfl, mdX11_fail⟩ ⟨by decide, by decide⟩) (va_recv hK hP (ci := 9) (q0 := 0) rfl rfl) mZ_ok hK hP hD hS hA hZ rfl hl.1 rfl (Nat.le_of_ble_eq_true rfl) dX11_step_18 ⟨Nat.zero_le _, Nat.zero_le _⟩ (fun H locs hP hD hS => ?_)
    exact hret ((y_Model_fail (t_thrown σ 0) 1).1) ((y_Model_fail (t_thrown σ 0) 1).2) _ _ _ _ hf hP hD hS dX11_step_21
