def y_Model_enter_158 (σ : MS) (v0 : Int32) (v1 : Int32) (τ_79 : MS) (k0_41 : Int32) (k0_158 : Int32) : MS := t_faults (t_r (t_r (t_spsr τ_79 (upd (m_spsr τ_79) (y_Model_bank k0_41).toNatClampNeg (m_cpsr σ))) (upd (m_r (t_spsr τ_79 (upd (m_spsr τ_79) (y_Model_bank k0_41).toNatClampNeg (m_cpsr σ)))) (y_Model_placeOf k0_41 14).toNatClampNeg v1)) (upd (m_r (t_r (t_spsr τ_79 (upd (m_spsr τ_79) (y_Model_bank k0_41).toNatClampNeg (m_cpsr σ))) (upd (m_r (t_spsr τ_79 (upd (m_spsr τ_79) (y_Model_bank k0_41).toNatClampNeg (m_cpsr σ)))) (y_Model_placeOf k0_41 14).toNatClampNeg v1))) (15 : Int32).toNatClampNeg k0_158)) (upd (m_faults (t_r (t_r (t_spsr τ_79 (upd (m_spsr τ_79) (y_Model_bank k0_41).toNatClampNeg (m_cpsr σ))) (upd (m_r (t_spsr τ_79 (upd (m_spsr τ_79) (y_Model_bank k0_41).toNatClampNeg (m_cpsr σ)))) (y_Model_placeOf k0_41 14).toNatClampNeg v1)) (upd (m_r (t_r (t_spsr τ_79 (upd (m_spsr τ_79) (y_Model_bank k0_41).toNatClampNeg (m_cpsr σ))) (upd (m_r (t_spsr τ_79 (upd (m_spsr τ_79) (y_Model_bank k0_41).toNatClampNeg (m_cpsr σ)))) (y_Model_placeOf k0_41 14).toNatClampNeg v1))) (15 : Int32).toNatClampNeg k0_158))) v0.toNatClampNeg ((m_faults (t_r (t_r (t_spsr τ_79 (upd (m_spsr τ_79) (y_Model_bank k0_41).toNatClampNeg (m_cpsr σ))) (upd (m_r (t_spsr τ_79 (upd (m_spsr τ_79) (y_Model_bank k0_41).toNatClampNeg (m_cpsr σ)))) (y_Model_placeOf k0_41 14).toNatClampNeg v1)) (upd (m_r (t_r (t_spsr τ_79 (upd (m_spsr τ_79) (y_Model_bank k0_41).toNatClampNeg (m_cpsr σ))) (upd (m_r (t_spsr τ_79 (upd (m_spsr τ_79) (y_Model_bank k0_41).toNatClampNeg (m_cpsr σ)))) (y_Model_placeOf k0_41 14).toNatClampNeg v1))) (15 : Int32).toNatClampNeg k0_158)) v0.toNatClampNeg) + 1))
def y_Model_enter_79 (σ : MS) (v0 : Int32) (v1 : Int32) (k0_41 : Int32) (τ_79 : MS) : MS := (if v0 = 0 then y_Model_enter_158 σ v0 v1 τ_79 k0_41 4 else (if v0 = 1 then y_Model_enter_158 σ v0 v1 τ_79 k0_41 8 else (if v0 = 2 then y_Model_enter_158 σ v0 v1 τ_79 k0_41 12 else (if v0 = 3 then y_Model_enter_158 σ v0 v1 τ_79 k0_41 16 else (if v0 = 4 then y_Model_enter_158 σ v0 v1 τ_79 k0_41 24 else y_Model_enter_158 σ v0 v1 τ_79 k0_41 28)))))
def y_Model_enter_41 (σ : MS) (v0 : Int32) (v1 : Int32) (k0_41 : Int32) : MS := (if v0 = 5 then y_Model_enter_79 σ v0 v1 k0_41 (t_cpsr (t_cpsr σ ((((m_cpsr σ) &&& (-64)) ||| 128) ||| k0_41)) ((m_cpsr (t_cpsr σ ((((m_cpsr σ) &&& (-64)) ||| 128) ||| k0_41))) ||| 64)) else y_Model_enter_79 σ v0 v1 k0_41 (t_cpsr σ ((((m_cpsr σ) &&& (-64)) ||| 128) ||| k0_41)))
def y_Model_enter (σ : MS) (v0 : Int32) (v1 : Int32) : MS := (if v0 = 0 then y_Model_enter_41 σ v0 v1 27 else (if v0 = 1 then y_Model_enter_41 σ v0 v1 19 else (if 4 ≤ v0 then (if v0 = 4 then y_Model_enter_41 σ v0 v1 18 else y_Model_enter_41 σ v0 v1 17) else y_Model_enter_41 σ v0 v1 23)))
set_option maxRecDepth 20000 in
set_option maxHeartbeats 4000000 in
theorem cy_Model_enter (l : Launch) (G : KG) (σ : MS) (v0 : Int32) (v1 : Int32) (hv0 : vp_in v0 6) : KV l yX11_enter (Cond.code yX11_enter cX11_enter 5 none :: lw_all) (kr 2) (gD G) vwCl (gT G) (mZ G) (mW G) [.ref (gA G 20), .int v0, .int v1] σ (y_Model_enter σ v0 v1) := by
  refine kc_in_v (q := y_Model_enter σ v0 v1) (by decide) rfl (Nat.le_of_ble_eq_true rfl) ?_
  intro p e s m args below meth c A Q ls hx hb hml hown hts hK hP hD hA hS hZ hl hret
  have hts := fun w h => hts w (List.mem_cons_of_mem _ h)
  have hl : lv_has ls 5 [(0, .ref (gA G 20)), (1, .int v0), (2, .int v1)] := hl
  have hf : y_Model_enter σ v0 v1 = y_Model_enter σ v0 v1 := rfl
  have J158 : ∀ (τ_79 : MS) (k0_41 : Int32) (k0_158 : Int32) (hk0_41 : m5 k0_41) (H : Heap) (locs : List Loc) (ls : Array Slot), va_P (gD G) vwCl (mW G (t_r (t_spsr τ_79 (upd (m_spsr τ_79) (y_Model_bank k0_41).toNatClampNeg (m_cpsr σ))) (upd (m_r (t_spsr τ_79 (upd (m_spsr τ_79) (y_Model_bank k0_41).toNatClampNeg (m_cpsr σ)))) (y_Model_placeOf k0_41 14).toNatClampNeg v1))) H → va_D A (mW G (t_r (t_spsr τ_79 (upd (m_spsr τ_79) (y_Model_bank k0_41).toNatClampNeg (m_cpsr σ))) (upd (m_r (t_spsr τ_79 (upd (m_spsr τ_79) (y_Model_bank k0_41).toNatClampNeg (m_cpsr σ)))) (y_Model_placeOf k0_41 14).toNatClampNeg v1))) → va_S A s.heap H locs → lv_has ls 5 [(0, .ref (gA G 20)), (1, .int v0)] → y_Model_enter σ v0 v1 = y_Model_enter_158 σ v0 v1 τ_79 k0_41 k0_158 → W p l e (kr 2) s m args below meth c H locs 0 0 Q (F0 m 158 ls [.int k0_158, .int 15, .ref (gA G 22)]) := by
    intro τ_79 k0_41 k0_158 hk0_41 H locs ls hP hD hS hl hf
    refine va_iast hx hb hK hP hD hS 2 0 rfl rfl (by unfold vp_in; decide) dX11_enter_158 (fun H locs hP hD hS => ?_)
    have hP := kP_eq (mWs_r G (t_r (t_spsr τ_79 (upd (m_spsr τ_79) (y_Model_bank k0_41).toNatClampNeg (m_cpsr σ))) (upd (m_r (t_spsr τ_79 (upd (m_spsr τ_79) (y_Model_bank k0_41).toNatClampNeg (m_cpsr σ)))) (y_Model_placeOf k0_41 14).toNatClampNeg v1)) (upd (m_r (t_r (t_spsr τ_79 (upd (m_spsr τ_79) (y_Model_bank k0_41).toNatClampNeg (m_cpsr σ))) (upd (m_r (t_spsr τ_79 (upd (m_spsr τ_79) (y_Model_bank k0_41).toNatClampNeg (m_cpsr σ)))) (y_Model_placeOf k0_41 14).toNatClampNeg v1))) (15 : Int32).toNatClampNeg k0_158)) hP
    have hD := kD_eq (mWs_r G (t_r (t_spsr τ_79 (upd (m_spsr τ_79) (y_Model_bank k0_41).toNatClampNeg (m_cpsr σ))) (upd (m_r (t_spsr τ_79 (upd (m_spsr τ_79) (y_Model_bank k0_41).toNatClampNeg (m_cpsr σ)))) (y_Model_placeOf k0_41 14).toNatClampNeg v1)) (upd (m_r (t_r (t_spsr τ_79 (upd (m_spsr τ_79) (y_Model_bank k0_41).toNatClampNeg (m_cpsr σ))) (upd (m_r (t_spsr τ_79 (upd (m_spsr τ_79) (y_Model_bank k0_41).toNatClampNeg (m_cpsr σ)))) (y_Model_placeOf k0_41 14).toNatClampNeg v1))) (15 : Int32).toNatClampNeg k0_158)) hD
    refine lv_aload_n hx hb dX11_enter_159 rfl (lv_at hl 0 rfl) ?_
    refine va_get (D := gD G) (ci := 9) hx hb hts ku_11 hown hK hP 0 rfl rfl 7 (by decide) (hts _ kw_112) (fun _ h9 => h9) rfl dX11_enter_160 ?_
    refine lv_iload_n hx hb dX11_enter_163 rfl (lv_at hl 1 rfl) ?_
    refine lv_dup2_11 hx hb dX11_enter_164 rfl rfl ?_
    refine va_iald hx hb hK hP 5 0 rfl rfl hv0 dX11_enter_165 ?_
    refine lv_iconst (v := 1) hx hb dX11_enter_166 (by decide) ?_
    refine lv_iadd hx hb dX11_enter_167 ?_
    refine va_iast hx hb hK hP hD hS 5 0 rfl rfl hv0 dX11_enter_168 (fun H locs hP hD hS => ?_)
    have hP := kP_eq (mWs_faults G (t_r (t_r (t_spsr τ_79 (upd (m_spsr τ_79) (y_Model_bank k0_41).toNatClampNeg (m_cpsr σ))) (upd (m_r (t_spsr τ_79 (upd (m_spsr τ_79) (y_Model_bank k0_41).toNatClampNeg (m_cpsr σ)))) (y_Model_placeOf k0_41 14).toNatClampNeg v1)) (upd (m_r (t_r (t_spsr τ_79 (upd (m_spsr τ_79) (y_Model_bank k0_41).toNatClampNeg (m_cpsr σ))) (upd (m_r (t_spsr τ_79 (upd (m_spsr τ_79) (y_Model_bank k0_41).toNatClampNeg (m_cpsr σ)))) (y_Model_placeOf k0_41 14).toNatClampNeg v1))) (15 : Int32).toNatClampNeg k0_158)) (upd (m_faults (t_r (t_r (t_spsr τ_79 (upd (m_spsr τ_79) (y_Model_bank k0_41).toNatClampNeg (m_cpsr σ))) (upd (m_r (t_spsr τ_79 (upd (m_spsr τ_79) (y_Model_bank k0_41).toNatClampNeg (m_cpsr σ)))) (y_Model_placeOf k0_41 14).toNatClampNeg v1)) (upd (m_r (t_r (t_spsr τ_79 (upd (m_spsr τ_79) (y_Model_bank k0_41).toNatClampNeg (m_cpsr σ))) (upd (m_r (t_spsr τ_79 (upd (m_spsr τ_79) (y_Model_bank k0_41).toNatClampNeg (m_cpsr σ)))) (y_Model_placeOf k0_41 14).toNatClampNeg v1))) (15 : Int32).toNatClampNeg k0_158))) v0.toNatClampNeg ((m_faults (t_r (t_r (t_spsr τ_79 (upd (m_spsr τ_79) (y_Model_bank k0_41).toNatClampNeg (m_cpsr σ))) (upd (m_r (t_spsr τ_79 (upd (m_spsr τ_79) (y_Model_bank k0_41).toNatClampNeg (m_cpsr σ)))) (y_Model_placeOf k0_41 14).toNatClampNeg v1)) (upd (m_r (t_r (t_spsr τ_79 (upd (m_spsr τ_79) (y_Model_bank k0_41).toNatClampNeg (m_cpsr σ))) (upd (m_r (t_spsr τ_79 (upd (m_spsr τ_79) (y_Model_bank k0_41).toNatClampNeg (m_cpsr σ)))) (y_Model_placeOf k0_41 14).toNatClampNeg v1))) (15 : Int32).toNatClampNeg k0_158)) v0.toNatClampNeg) + 1))) hP
    have hD := kD_eq (mWs_faults G (t_r (t_r (t_spsr τ_79 (upd (m_spsr τ_79) (y_Model_bank k0_41).toNatClampNeg (m_cpsr σ))) (upd (m_r (t_spsr τ_79 (upd (m_spsr τ_79) (y_Model_bank k0_41).toNatClampNeg (m_cpsr σ)))) (y_Model_placeOf k0_41 14).toNatClampNeg v1)) (upd (m_r (t_r (t_spsr τ_79 (upd (m_spsr τ_79) (y_Model_bank k0_41).toNatClampNeg (m_cpsr σ))) (upd (m_r (t_spsr τ_79 (upd (m_spsr τ_79) (y_Model_bank k0_41).toNatClampNeg (m_cpsr σ)))) (y_Model_placeOf k0_41 14).toNatClampNeg v1))) (15 : Int32).toNatClampNeg k0_158)) (upd (m_faults (t_r (t_r (t_spsr τ_79 (upd (m_spsr τ_79) (y_Model_bank k0_41).toNatClampNeg (m_cpsr σ))) (upd (m_r (t_spsr τ_79 (upd (m_spsr τ_79) (y_Model_bank k0_41).toNatClampNeg (m_cpsr σ)))) (y_Model_placeOf k0_41 14).toNatClampNeg v1)) (upd (m_r (t_r (t_spsr τ_79 (upd (m_spsr τ_79) (y_Model_bank k0_41).toNatClampNeg (m_cpsr σ))) (upd (m_r (t_spsr τ_79 (upd (m_spsr τ_79) (y_Model_bank k0_41).toNatClampNeg (m_cpsr σ)))) (y_Model_placeOf k0_41 14).toNatClampNeg v1))) (15 : Int32).toNatClampNeg k0_158))) v0.toNatClampNeg ((m_faults (t_r (t_r (t_spsr τ_79 (upd (m_spsr τ_79) (y_Model_bank k0_41).toNatClampNeg (m_cpsr σ))) (upd (m_r (t_spsr τ_79 (upd (m_spsr τ_79) (y_Model_bank k0_41).toNatClampNeg (m_cpsr σ)))) (y_Model_placeOf k0_41 14).toNatClampNeg v1)) (upd (m_r (t_r (t_spsr τ_79 (upd (m_spsr τ_79) (y_Model_bank k0_41).toNatClampNeg (m_cpsr σ))) (upd (m_r (t_spsr τ_79 (upd (m_spsr τ_79) (y_Model_bank k0_41).toNatClampNeg (m_cpsr σ)))) (y_Model_placeOf k0_41 14).toNatClampNeg v1))) (15 : Int32).toNatClampNeg k0_158)) v0.toNatClampNeg) + 1))) hD
    exact hret (t_faults (t_r (t_r (t_spsr τ_79 (upd (m_spsr τ_79) (y_Model_bank k0_41).toNatClampNeg (m_cpsr σ))) (upd (m_r (t_spsr τ_79 (upd (m_spsr τ_79) (y_Model_bank k0_41).toNatClampNeg (m_cpsr σ)))) (y_Model_placeOf k0_41 14).toNatClampNeg v1)) (upd (m_r (t_r (t_spsr τ_79 (upd (m_spsr τ_79) (y_Model_bank k0_41).toNatClampNeg (m_cpsr σ))) (upd (m_r (t_spsr τ_79 (upd (m_spsr τ_79) (y_Model_bank k0_41).toNatClampNeg (m_cpsr σ)))) (y_Model_placeOf k0_41 14).toNatClampNeg v1))) (15 : Int32).toNatClampNeg k0_158)) (upd (m_faults (t_r (t_r (t_spsr τ_79 (upd (m_spsr τ_79) (y_Model_bank k0_41).toNatClampNeg (m_cpsr σ))) (upd (m_r (t_spsr τ_79 (upd (m_spsr τ_79) (y_Model_bank k0_41).toNatClampNeg (m_cpsr σ)))) (y_Model_placeOf k0_41 14).toNatClampNeg v1)) (upd (m_r (t_r (t_spsr τ_79 (upd (m_spsr τ_79) (y_Model_bank k0_41).toNatClampNeg (m_cpsr σ))) (upd (m_r (t_spsr τ_79 (upd (m_spsr τ_79) (y_Model_bank k0_41).toNatClampNeg (m_cpsr σ)))) (y_Model_placeOf k0_41 14).toNatClampNeg v1))) (15 : Int32).toNatClampNeg k0_158))) v0.toNatClampNeg ((m_faults (t_r (t_r (t_spsr τ_79 (upd (m_spsr τ_79) (y_Model_bank k0_41).toNatClampNeg (m_cpsr σ))) (upd (m_r (t_spsr τ_79 (upd (m_spsr τ_79) (y_Model_bank k0_41).toNatClampNeg (m_cpsr σ)))) (y_Model_placeOf k0_41 14).toNatClampNeg v1)) (upd (m_r (t_r (t_spsr τ_79 (upd (m_spsr τ_79) (y_Model_bank k0_41).toNatClampNeg (m_cpsr σ))) (upd (m_r (t_spsr τ_79 (upd (m_spsr τ_79) (y_Model_bank k0_41).toNatClampNeg (m_cpsr σ)))) (y_Model_placeOf k0_41 14).toNatClampNeg v1))) (15 : Int32).toNatClampNeg k0_158)) v0.toNatClampNeg) + 1))) _ _ _ _ hf hP hD hS dX11_enter_169
  have J79 : ∀ (k0_41 : Int32) (τ_79 : MS) (hk0_41 : m5 k0_41) (H : Heap) (locs : List Loc) (ls : Array Slot), va_P (gD G) vwCl (mW G (τ_79)) H → va_D A (mW G (τ_79)) → va_S A s.heap H locs → lv_has ls 5 [(0, .ref (gA G 20)), (1, .int v0), (2, .int v1), (3, .int k0_41), (4, .int (m_cpsr σ))] → y_Model_enter σ v0 v1 = y_Model_enter_79 σ v0 v1 k0_41 τ_79 → W p l e (kr 2) s m args below meth c H locs 0 0 Q (F0 m 79 ls []) := by
    intro k0_41 τ_79 hk0_41 H locs ls hP hD hS hl hf
    refine lv_aload_n hx hb dX11_enter_79 rfl (lv_at hl 0 rfl) ?_
    refine va_get (D := gD G) (ci := 9) hx hb hts ku_11 hown hK hP 0 rfl rfl 3 (by decide) (hts _ kw_108) (fun _ h9 => h9) rfl dX11_enter_80 ?_
    refine lv_iload_n hx hb dX11_enter_83 rfl (lv_at hl 3 rfl) ?_
    refine kp_Si (rest := [.ref (gA G 23)]) (cy_Model_bank l k0_41) ⟨hx, hb, hml, hown, hts⟩ (va_cwS 1 hts (gi_S kw_203 kw_204 kw_5 kw_205) rfl rfl rfl mdX11_bank ⟨by decide, by decide⟩) rfl hl.1 rfl (Nat.le_of_ble_eq_true rfl) dX11_enter_84 ⟨Nat.zero_le _, Nat.zero_le _⟩ ?_
    refine lv_iload hx hb dX11_enter_87 (lv_at hl 4 rfl) ?_
    refine va_iast hx hb hK hP hD hS 3 0 rfl rfl (m5_bank hk0_41) dX11_enter_89 (fun H locs hP hD hS => ?_)
    have hP := kP_eq (mWs_spsr G τ_79 (upd (m_spsr τ_79) (y_Model_bank k0_41).toNatClampNeg (m_cpsr σ))) hP
    have hD := kD_eq (mWs_spsr G τ_79 (upd (m_spsr τ_79) (y_Model_bank k0_41).toNatClampNeg (m_cpsr σ))) hD
    refine lv_aload_n hx hb dX11_enter_90 rfl (lv_at hl 0 rfl) ?_
    refine va_get (D := gD G) (ci := 9) hx hb hts ku_11 hown hK hP 0 rfl rfl 2 (by decide) (hts _ kw_107) (fun _ h9 => h9) rfl dX11_enter_91 ?_
    refine lv_iload_n hx hb dX11_enter_94 rfl (lv_at hl 3 rfl) ?_
    refine lv_bipush (v := 14) hx hb dX11_enter_95 (by decide) ?_
    refine kp_Si (rest := [.ref (gA G 22)]) (cy_Model_placeOf l k0_41 14) ⟨hx, hb, hml, hown, hts⟩ (va_cwS 2 hts (gi_S kw_206 kw_207 kw_5 kw_208) rfl rfl rfl mdX11_placeOf ⟨by decide, by decide⟩) rfl hl.1 rfl (Nat.le_of_ble_eq_true rfl) dX11_enter_97 ⟨Nat.zero_le _, Nat.zero_le _⟩ ?_
    refine lv_iload_n hx hb dX11_enter_100 rfl (lv_at hl 2 rfl) ?_
    refine va_iast hx hb hK hP hD hS 2 0 rfl rfl (place_in _ (by unfold vp_in; decide)) dX11_enter_101 (fun H locs hP hD hS => ?_)
    have hP := kP_eq (mWs_r G (t_spsr τ_79 (upd (m_spsr τ_79) (y_Model_bank k0_41).toNatClampNeg (m_cpsr σ))) (upd (m_r (t_spsr τ_79 (upd (m_spsr τ_79) (y_Model_bank k0_41).toNatClampNeg (m_cpsr σ)))) (y_Model_placeOf k0_41 14).toNatClampNeg v1)) hP
    have hD := kD_eq (mWs_r G (t_spsr τ_79 (upd (m_spsr τ_79) (y_Model_bank k0_41).toNatClampNeg (m_cpsr σ))) (upd (m_r (t_spsr τ_79 (upd (m_spsr τ_79) (y_Model_bank k0_41).toNatClampNeg (m_cpsr σ)))) (y_Model_placeOf k0_41 14).toNatClampNeg v1)) hD
    refine lv_aload_n hx hb dX11_enter_102 rfl (lv_at hl 0 rfl) ?_
    refine va_get (D := gD G) (ci := 9) hx hb hts ku_11 hown hK hP 0 rfl rfl 2 (by decide) (hts _ kw_107) (fun _ h9 => h9) rfl dX11_enter_103 ?_
    refine lv_bipush (v := 15) hx hb dX11_enter_106 (by decide) ?_
    refine lv_iload_n hx hb dX11_enter_108 rfl (lv_at hl 1 rfl) ?_
    refine lv_if_ne (tgt := 116) hx hb dX11_enter_109 (by decide) (fun h_11 => ?_) (fun h_11 => ?_)
    · have hf := hf.trans (if_neg h_11)
      refine lv_iload_n hx hb dX11_enter_116 rfl (lv_at hl 1 rfl) ?_
      refine lv_iconst (v := 1) hx hb dX11_enter_117 (by decide) ?_
      refine lv_icmp_ne (tgt := 126) hx hb dX11_enter_118 (by decide) (fun h_12 => ?_) (fun h_12 => ?_)
      · have hf := hf.trans (if_neg h_12)
        refine lv_iload_n hx hb dX11_enter_126 rfl (lv_at hl 1 rfl) ?_
        refine lv_iconst (v := 2) hx hb dX11_enter_127 (by decide) ?_
        refine lv_icmp_ne (tgt := 136) hx hb dX11_enter_128 (by decide) (fun h_13 => ?_) (fun h_13 => ?_)
        · have hf := hf.trans (if_neg h_13)
          refine lv_iload_n hx hb dX11_enter_136 rfl (lv_at hl 1 rfl) ?_
          refine lv_iconst (v := 3) hx hb dX11_enter_137 (by decide) ?_
          refine lv_icmp_ne (tgt := 146) hx hb dX11_enter_138 (by decide) (fun h_14 => ?_) (fun h_14 => ?_)
          · have hf := hf.trans (if_neg h_14)
            refine lv_iload_n hx hb dX11_enter_146 rfl (lv_at hl 1 rfl) ?_
            refine lv_iconst (v := 4) hx hb dX11_enter_147 (by decide) ?_
            refine lv_icmp_ne (tgt := 156) hx hb dX11_enter_148 (by decide) (fun h_15 => ?_) (fun h_15 => ?_)
            · have hf := hf.trans (if_neg h_15)
              refine lv_bipush (v := 28) hx hb dX11_enter_156 (by decide) ?_
              exact J158 τ_79 k0_41 28 hk0_41 _ _ _ hP hD hS (lv_sub hl [0, 1] rfl) hf
            · have hf := hf.trans (if_pos h_15)
              refine lv_bipush (v := 24) hx hb dX11_enter_151 (by decide) ?_
              refine lv_goto (tgt := 158) hx hb dX11_enter_153 (by decide) ?_
              exact J158 τ_79 k0_41 24 hk0_41 _ _ _ hP hD hS (lv_sub hl [0, 1] rfl) hf
          · have hf := hf.trans (if_pos h_14)
            refine lv_bipush (v := 16) hx hb dX11_enter_141 (by decide) ?_
            refine lv_goto (tgt := 158) hx hb dX11_enter_143 (by decide) ?_
            exact J158 τ_79 k0_41 16 hk0_41 _ _ _ hP hD hS (lv_sub hl [0, 1] rfl) hf
        · have hf := hf.trans (if_pos h_13)
          refine lv_bipush (v := 12) hx hb dX11_enter_131 (by decide) ?_
          refine lv_goto (tgt := 158) hx hb dX11_enter_133 (by decide) ?_
          exact J158 τ_79 k0_41 12 hk0_41 _ _ _ hP hD hS (lv_sub hl [0, 1] rfl) hf
      · have hf := hf.trans (if_pos h_12)
        refine lv_bipush (v := 8) hx hb dX11_enter_121 (by decide) ?_
        refine lv_goto (tgt := 158) hx hb dX11_enter_123 (by decide) ?_
        exact J158 τ_79 k0_41 8 hk0_41 _ _ _ hP hD hS (lv_sub hl [0, 1] rfl) hf
    · have hf := hf.trans (if_pos h_11)
      refine lv_iconst (v := 4) hx hb dX11_enter_112 (by decide) ?_
      refine lv_goto (tgt := 158) hx hb dX11_enter_113 (by decide) ?_
      exact J158 τ_79 k0_41 4 hk0_41 _ _ _ hP hD hS (lv_sub hl [0, 1] rfl) hf
  have J41 : ∀ (k0_41 : Int32) (hk0_41 : m5 k0_41) (H : Heap) (locs : List Loc) (ls : Array Slot), va_P (gD G) vwCl (mW G (σ)) H → va_D A (mW G (σ)) → va_S A s.heap H locs → lv_has ls 5 [(0, .ref (gA G 20)), (1, .int v0), (2, .int v1)] → y_Model_enter σ v0 v1 = y_Model_enter_41 σ v0 v1 k0_41 → W p l e (kr 2) s m args below meth c H locs 0 0 Q (F0 m 41 ls [.int k0_41]) := by
    intro k0_41 hk0_41 H locs ls hP hD hS hl hf
    refine lv_istore_n (lv' := [(3, .int k0_41), (0, .ref (gA G 20)), (1, .int v0), (2, .int v1)]) hx hb dX11_enter_41 rfl hl (by decide) rfl (fun ls hl => ?_)
    refine lv_aload_n hx hb dX11_enter_42 rfl (lv_at hl 1 rfl) ?_
    refine va_get (D := gD G) (ci := 9) hx hb hts ku_11 hown hK hP 0 rfl rfl 4 (by decide) (hts _ kw_109) (fun _ h9 => h9) rfl dX11_enter_43 ?_
    refine lv_istore (lv' := [(4, .int (m_cpsr σ)), (3, .int k0_41), (0, .ref (gA G 20)), (1, .int v0), (2, .int v1)]) hx hb dX11_enter_46 hl (by decide) rfl (fun ls hl => ?_)
    refine lv_aload_n hx hb dX11_enter_48 rfl (lv_at hl 2 rfl) ?_
    refine lv_iload hx hb dX11_enter_49 (lv_at hl 0 rfl) ?_
    refine lv_bipush (v := (-64)) hx hb dX11_enter_51 (by decide) ?_
    refine lv_iand hx hb dX11_enter_53 ?_
    refine lv_sipush (v := 128) hx hb dX11_enter_54 (by decide) ?_
    refine lv_ior hx hb dX11_enter_57 ?_
    refine lv_iload_n hx hb dX11_enter_58 rfl (lv_at hl 1 rfl) ?_
    refine lv_ior hx hb dX11_enter_59 ?_
    refine kc_top (fixM_ok (okM_e1 hk0_41)) ?_
    refine va_put (D := gD G) (ci := 9) (v := .int (fixM ((((m_cpsr σ) &&& (-64)) ||| 128) ||| k0_41))) (ty := .int) hx hb hts ku_11 tyX11 tyX11_ok nmX11 hown hK hP hD hS 0 rfl rfl 4 (by decide) (hts _ kw_109) (fun _ h9 => h9) rfl (tyX11_ok 4 (by decide)) rfl rfl (Nat.le_of_ble_eq_true rfl) dX11_enter_60 (fun H locs hP hD hS => ?_)
    have hP := kP_eq (mWs_cpsr G σ ((((m_cpsr σ) &&& (-64)) ||| 128) ||| k0_41)) hP
    have hD := kD_eq (mWs_cpsr G σ ((((m_cpsr σ) &&& (-64)) ||| 128) ||| k0_41)) hD
    refine lv_iload_n hx hb dX11_enter_63 rfl (lv_at hl 3 rfl) ?_
    refine lv_iconst (v := 5) hx hb dX11_enter_64 (by decide) ?_
    refine lv_icmp_ne (tgt := 79) hx hb dX11_enter_65 (by decide) (fun h_16 => ?_) (fun h_16 => ?_)
    · have hf := hf.trans (if_neg h_16)
      exact J79 k0_41 (t_cpsr σ ((((m_cpsr σ) &&& (-64)) ||| 128) ||| k0_41)) hk0_41 _ _ _ hP hD hS (lv_sub hl [2, 3, 4, 1, 0] rfl) hf
    · have hf := hf.trans (if_pos h_16)
      refine lv_aload_n hx hb dX11_enter_68 rfl (lv_at hl 2 rfl) ?_
      refine lv_aload_n hx hb dX11_enter_69 rfl (lv_at hl 2 rfl) ?_
      refine va_get (D := gD G) (ci := 9) hx hb hts ku_11 hown hK hP 0 rfl rfl 4 (by decide) (hts _ kw_109) (fun _ h9 => h9) rfl dX11_enter_70 ?_
      refine lv_bipush (v := 64) hx hb dX11_enter_73 (by decide) ?_
      refine lv_ior hx hb dX11_enter_75 ?_
      refine kc_top (fixM_ok (okM_64 _)) ?_
      refine va_put (D := gD G) (ci := 9) (v := .int (fixM ((m_cpsr (t_cpsr σ ((((m_cpsr σ) &&& (-64)) ||| 128) ||| k0_41))) ||| 64))) (ty := .int) hx hb hts ku_11 tyX11 tyX11_ok nmX11 hown hK hP hD hS 0 rfl rfl 4 (by decide) (hts _ kw_109) (fun _ h9 => h9) rfl (tyX11_ok 4 (by decide)) rfl rfl (Nat.le_of_ble_eq_true rfl) dX11_enter_76 (fun H locs hP hD hS => ?_)
      have hP := kP_eq (mWs_cpsr G (t_cpsr σ ((((m_cpsr σ) &&& (-64)) ||| 128) ||| k0_41)) ((m_cpsr (t_cpsr σ ((((m_cpsr σ) &&& (-64)) ||| 128) ||| k0_41))) ||| 64)) hP
      have hD := kD_eq (mWs_cpsr G (t_cpsr σ ((((m_cpsr σ) &&& (-64)) ||| 128) ||| k0_41)) ((m_cpsr (t_cpsr σ ((((m_cpsr σ) &&& (-64)) ||| 128) ||| k0_41))) ||| 64)) hD
      exact J79 k0_41 (t_cpsr (t_cpsr σ ((((m_cpsr σ) &&& (-64)) ||| 128) ||| k0_41)) ((m_cpsr (t_cpsr σ ((((m_cpsr σ) &&& (-64)) ||| 128) ||| k0_41))) ||| 64)) hk0_41 _ _ _ hP hD hS (lv_sub hl [2, 3, 4, 1, 0] rfl) hf
  refine lv_iload_n hx hb dX11_enter_0 rfl (lv_at hl 1 rfl) ?_
  refine lv_if_ne (tgt := 9) hx hb dX11_enter_1 (by decide) (fun h_17 => ?_) (fun h_17 => ?_)
  · have hf := hf.trans (if_neg h_17)
    refine lv_iload_n hx hb dX11_enter_9 rfl (lv_at hl 1 rfl) ?_
    refine lv_iconst (v := 1) hx hb dX11_enter_10 (by decide) ?_
    refine lv_icmp_ne (tgt := 19) hx hb dX11_enter_11 (by decide) (fun h_18 => ?_) (fun h_18 => ?_)
    · have hf := hf.trans (if_neg h_18)
      refine lv_iload_n hx hb dX11_enter_19 rfl (lv_at hl 1 rfl) ?_
      refine lv_iconst (v := 4) hx hb dX11_enter_20 (by decide) ?_
      refine lv_icmp_ge (tgt := 29) hx hb dX11_enter_21 (by decide) (fun h_19 => ?_) (fun h_19 => ?_)
      · have hf := hf.trans (if_pos h_19)
        refine lv_iload_n hx hb dX11_enter_29 rfl (lv_at hl 1 rfl) ?_
        refine lv_iconst (v := 4) hx hb dX11_enter_30 (by decide) ?_
        refine lv_icmp_ne (tgt := 39) hx hb dX11_enter_31 (by decide) (fun h_20 => ?_) (fun h_20 => ?_)
        · have hf := hf.trans (if_neg h_20)
          refine lv_bipush (v := 17) hx hb dX11_enter_39 (by decide) ?_
          exact J41 17 (by unfold m5; decide) _ _ _ hP hD hS (lv_sub hl [0, 1, 2] rfl) hf
        · have hf := hf.trans (if_pos h_20)
          refine lv_bipush (v := 18) hx hb dX11_enter_34 (by decide) ?_
          refine lv_goto (tgt := 41) hx hb dX11_enter_36 (by decide) ?_
          exact J41 18 (by unfold m5; decide) _ _ _ hP hD hS (lv_sub hl [0, 1, 2] rfl) hf
      · have hf := hf.trans (if_neg h_19)
        refine lv_bipush (v := 23) hx hb dX11_enter_24 (by decide) ?_
        refine lv_goto (tgt := 41) hx hb dX11_enter_26 (by decide) ?_
        exact J41 23 (by unfold m5; decide) _ _ _ hP hD hS (lv_sub hl [0, 1, 2] rfl) hf
    · have hf := hf.trans (if_pos h_18)
      refine lv_bipush (v := 19) hx hb dX11_enter_14 (by decide) ?_
      refine lv_goto (tgt := 41) hx hb dX11_enter_16 (by decide) ?_
      exact J41 19 (by unfold m5; decide) _ _ _ hP hD hS (lv_sub hl [0, 1, 2] rfl) hf
  · have hf := hf.trans (if_pos h_17)
    refine lv_bipush (v := 27) hx hb dX11_enter_4 (by decide) ?_
    refine lv_goto (tgt := 41) hx hb dX11_enter_6 (by decide) ?_
    exact J41 27 (by unfold m5; decide) _ _ _ hP hD hS (lv_sub hl [0, 1, 2] rfl) hf
