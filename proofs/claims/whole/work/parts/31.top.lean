def x_Top_status (σ : CS) (v0 : Int32) : Int32 × CS := (x_Registers_cpsr σ, x_Registers_jump (x_Registers_changeCpsr σ v0) (x_Registers_next (x_Registers_changeCpsr σ v0)))
set_option maxRecDepth 20000 in
set_option maxHeartbeats 4000000 in
theorem cx_Top_status (l : Launch) (G : KG) (σ : CS) (v0 : Int32) : KB l yX10_status (Cond.code yX10_status cX10_status 3 (some .int) :: lw_all) (kr 7) (gD G) vwCl (gT G) (cZ G) (cW G) [.ref (gA G 0), .int v0] σ (x_Top_status σ v0) := by
  refine kc_in_b (q := x_Top_status σ v0) (by decide) rfl (Nat.le_of_ble_eq_true rfl) ?_
  intro p e s m args below meth c A Q ls hx hb hml hown hts hK hP hD hA hS hZ hl hret
  have hts := fun w h => hts w (List.mem_cons_of_mem _ h)
  have hl : lv_has ls 3 [(0, .ref (gA G 0)), (1, .int v0)] := hl
  have hf : x_Top_status σ v0 = x_Top_status σ v0 := rfl
  refine lv_aload_n hx hb dX10_status_0 rfl (lv_at hl 0 rfl) ?_
  refine va_get (D := gD G) (ci := 8) hx hb hts ku_10 hown hK hP 0 rfl rfl 1 (by decide) (hts _ kw_20) (fun _ h9 => h9) rfl dX10_status_1 ?_
  refine kc_Vr (rest := []) (cx_Registers_cpsr l G σ) ⟨hx, hb, hml, hown, hts⟩ (cwV 0 hts (gi_V kw_236 kw_237 kw_238 kw_19 kw_239) rfl rfl rfl ⟨rfl, mdX6_cpsr⟩ ⟨by decide, by decide⟩) (va_recv hK hP (ci := 4) (q0 := 3) rfl rfl) cZ_ok hK hP hD hS hA hZ rfl hl.1 rfl (Nat.le_of_ble_eq_true rfl) dX10_status_4 ⟨Nat.zero_le _, Nat.zero_le _⟩ (fun H locs hP hD hS => ?_)
  refine lv_istore_n (lv' := [(2, .int (x_Registers_cpsr σ)), (0, .ref (gA G 0)), (1, .int v0)]) hx hb dX10_status_7 rfl hl (by decide) rfl (fun ls hl => ?_)
  refine lv_aload_n hx hb dX10_status_8 rfl (lv_at hl 1 rfl) ?_
  refine va_get (D := gD G) (ci := 8) hx hb hts ku_10 hown hK hP 0 rfl rfl 1 (by decide) (hts _ kw_20) (fun _ h9 => h9) rfl dX10_status_9 ?_
  refine lv_iload_n hx hb dX10_status_12 rfl (lv_at hl 2 rfl) ?_
  refine kc_Vv (rest := []) (cx_Registers_changeCpsr l G σ v0) ⟨hx, hb, hml, hown, hts⟩ (cwV 1 hts (gi_V kw_240 kw_241 kw_242 kw_19 kw_243) rfl rfl rfl ⟨rfl, mdX6_changeCpsr⟩ ⟨by decide, by decide⟩) (va_recv hK hP (ci := 4) (q0 := 3) rfl rfl) cZ_ok hK hP hD hS hA hZ rfl hl.1 rfl (Nat.le_of_ble_eq_true rfl) dX10_status_13 ⟨Nat.zero_le _, Nat.zero_le _⟩ (fun H locs hP hD hS => ?_)
  refine lv_aload_n hx hb dX10_status_16 rfl (lv_at hl 1 rfl) ?_
  refine va_get (D := gD G) (ci := 8) hx hb hts ku_10 hown hK hP 0 rfl rfl 1 (by decide) (hts _ kw_20) (fun _ h9 => h9) rfl dX10_status_17 ?_
  refine lv_aload_n hx hb dX10_status_20 rfl (lv_at hl 1 rfl) ?_
  refine va_get (D := gD G) (ci := 8) hx hb hts ku_10 hown hK hP 0 rfl rfl 1 (by decide) (hts _ kw_20) (fun _ h9 => h9) rfl dX10_status_21 ?_
  refine kc_Vr (rest := [.ref (gA G 3)]) (cx_Registers_next l G (x_Registers_changeCpsr σ v0)) ⟨hx, hb, hml, hown, hts⟩ (cwV 0 hts (gi_V kw_246 kw_247 kw_248 kw_19 kw_249) rfl rfl rfl ⟨rfl, mdX6_next⟩ ⟨by decide, by decide⟩) (va_recv hK hP (ci := 4) (q0 := 3) rfl rfl) cZ_ok hK hP hD hS hA hZ rfl hl.1 rfl (Nat.le_of_ble_eq_true rfl) dX10_status_24 ⟨Nat.zero_le _, Nat.zero_le _⟩ (fun H locs hP hD hS => ?_)
  refine kc_Vv (rest := []) (cx_Registers_jump l G (x_Registers_changeCpsr σ v0) (x_Registers_next (x_Registers_changeCpsr σ v0))) ⟨hx, hb, hml, hown, hts⟩ (cwV 1 hts (gi_V kw_186 kw_187 kw_188 kw_19 kw_189) rfl rfl rfl ⟨rfl, mdX6_jump⟩ ⟨by decide, by decide⟩) (va_recv hK hP (ci := 4) (q0 := 3) rfl rfl) cZ_ok hK hP hD hS hA hZ rfl hl.1 rfl (Nat.le_of_ble_eq_true rfl) dX10_status_27 ⟨Nat.zero_le _, Nat.zero_le _⟩ (fun H locs hP hD hS => ?_)
  refine lv_iload_n hx hb dX10_status_30 rfl (lv_at hl 0 rfl) ?_
  exact hret (x_Registers_cpsr σ) (x_Registers_jump (x_Registers_changeCpsr σ v0) (x_Registers_next (x_Registers_changeCpsr σ v0))) _ _ _ _ hf hP hD hS dX10_status_31
def x_Top_refuseAddress (σ : CS) (v0 : Int32) : Nat := (if (v0 &&& 3) = 0 then (if (x_Memory_holds σ v0) = true then 0 else 2) else 1)
set_option maxRecDepth 20000 in
set_option maxHeartbeats 4000000 in
theorem cx_Top_refuseAddress (l : Launch) (hl9 : l.stackTraces = false) (G : KG) (σ : CS) (v0 : Int32) : KXv l yX10_refuseAddress (Cond.code yX10_refuseAddress cX10_refuseAddress 2 none :: lw_all) (krx 6) (gD G) vwCl (gT G) (cZX G) (cW G) [.ref (gA G 0), .int v0] σ (x_Top_refuseAddress σ v0, σ) := by
  refine kx_in_v (q := (x_Top_refuseAddress σ v0, σ)) (by decide) rfl (Nat.le_of_ble_eq_true rfl) ?_
  intro p e s m args below meth c A ls hx hb hml hown hts hK hP hD hA hS hZ hl hr hlocks htab
  have hts := fun w h => hts w (List.mem_cons_of_mem _ h)
  have hl : lv_has ls 2 [(0, .ref (gA G 0)), (1, .int v0)] := hl
  have hf : x_Top_refuseAddress σ v0 = x_Top_refuseAddress σ v0 := rfl
  refine lv_iload_n hx hb dX10_refuseAddress_0 rfl (lv_at hl 1 rfl) ?_
  refine lv_iconst (v := 3) hx hb dX10_refuseAddress_1 (by decide) ?_
  refine lv_iand hx hb dX10_refuseAddress_2 ?_
  refine lv_if_eq (tgt := 16) hx hb dX10_refuseAddress_3 (by decide) (fun h_3 => ?_) (fun h_3 => ?_)
  · have hf := hf.trans (if_pos h_3)
    refine lv_aload_n hx hb dX10_refuseAddress_16 rfl (lv_at hl 0 rfl) ?_
    refine va_get (D := gD G) (ci := 8) hx hb hts ku_10 hown hK hP 0 rfl rfl 0 (by decide) (hts _ kw_16) (fun _ h9 => h9) rfl dX10_refuseAddress_17 ?_
    refine lv_iload_n hx hb dX10_refuseAddress_20 rfl (lv_at hl 1 rfl) ?_
    refine kc_Vr (rest := []) (cx_Memory_holds l G σ v0) ⟨hx, hb, hml, hown, hts⟩ (cwV 1 hts (gi_V kw_131 kw_132 kw_133 kw_15 kw_134) rfl rfl rfl ⟨rfl, mdX4_holds⟩ ⟨by decide, by decide⟩) (va_recv hK hP (ci := 2) (q0 := 1) rfl rfl) cZ_ok hK hP hD hS hA hZ.1 rfl hl.1 rfl (Nat.le_of_ble_eq_true rfl) dX10_refuseAddress_21 ⟨by decide, by decide⟩ (fun H locs hP hD hS => ?_)
    refine kz_ne (tgt := 37) hx hb dX10_refuseAddress_24 (by decide) (fun h_4 => ?_) (fun h_4 => ?_)
    · have hf := hf.trans (if_pos h_4)
      exact kx_ret_v hx hb hr hlocks hK (by decide) (by decide) σ (congrArg (fun z => (z, σ)) hf) hP hD hS dX10_refuseAddress_37
    · have hf := hf.trans (if_neg h_4)
      exact kx_IO hl9 hx hb hml hown hts hK hP hD hS hZ hl.1 hlocks htab hZ.1.2.2.2.2.2.2.2.1 kw_129 kw_130 dX10_refuseAddress_27 dX10_refuseAddress_30 dX10_refuseAddress_31 dX10_refuseAddress_33 dX10_refuseAddress_36 (by decide) (by decide) (by decide) (by decide) (by decide) (by decide) hf
  · have hf := hf.trans (if_neg h_3)
    exact kx_IA hl9 hx hb hml hown hts hK hP hD hS hZ hl.1 hlocks htab hZ.1.2.2.2.2.2.2.1 kw_127 kw_128 dX10_refuseAddress_6 dX10_refuseAddress_9 dX10_refuseAddress_10 dX10_refuseAddress_12 dX10_refuseAddress_15 (by decide) (by decide) (by decide) (by decide) (by decide) (by decide) hf
def x_Top_refuseRegister (σ : CS) (v0 : Int32) (v1 : Int32) : Nat := (if v0 = (-1) then 1 else (if v1 < 0 then 2 else (if v1 ≤ 15 then 0 else 2)))
set_option maxRecDepth 20000 in
set_option maxHeartbeats 4000000 in
theorem cx_Top_refuseRegister (l : Launch) (hl9 : l.stackTraces = false) (G : KG) (σ : CS) (v0 : Int32) (v1 : Int32) : KXv l yX10_refuseRegister (Cond.code yX10_refuseRegister cX10_refuseRegister 2 none :: lw_all) (krx 6) (gD G) vwCl (gT G) (cZX G) (cW G) [.int v0, .int v1] σ (x_Top_refuseRegister σ v0 v1, σ) := by
  refine kx_in_v (q := (x_Top_refuseRegister σ v0 v1, σ)) (by decide) rfl (Nat.le_of_ble_eq_true rfl) ?_
  intro p e s m args below meth c A ls hx hb hml hown hts hK hP hD hA hS hZ hl hr hlocks htab
  have hts := fun w h => hts w (List.mem_cons_of_mem _ h)
  have hl : lv_has ls 2 [(0, .int v0), (1, .int v1)] := hl
  have hf : x_Top_refuseRegister σ v0 v1 = x_Top_refuseRegister σ v0 v1 := rfl
  refine lv_iload_n hx hb dX10_refuseRegister_0 rfl (lv_at hl 0 rfl) ?_
  refine lv_iconst (v := (-1)) hx hb dX10_refuseRegister_1 (by decide) ?_
  refine lv_icmp_ne (tgt := 15) hx hb dX10_refuseRegister_2 (by decide) (fun h_4 => ?_) (fun h_4 => ?_)
  · have hf := hf.trans (if_neg h_4)
    refine lv_iload_n hx hb dX10_refuseRegister_15 rfl (lv_at hl 1 rfl) ?_
    refine lv_if_lt (tgt := 25) hx hb dX10_refuseRegister_16 (by decide) (fun h_5 => ?_) (fun h_5 => ?_)
    · have hf := hf.trans (if_pos h_5)
      exact kx_IO hl9 hx hb hml hown hts hK hP hD hS hZ hl.1 hlocks htab hZ.1.2.2.2.2.2.2.2.2.2 kw_129 kw_130 dX10_refuseRegister_25 dX10_refuseRegister_28 dX10_refuseRegister_29 dX10_refuseRegister_31 dX10_refuseRegister_34 (by decide) (by decide) (by decide) (by decide) (by decide) (by decide) hf
    · have hf := hf.trans (if_neg h_5)
      refine lv_iload_n hx hb dX10_refuseRegister_19 rfl (lv_at hl 1 rfl) ?_
      refine lv_bipush (v := 15) hx hb dX10_refuseRegister_20 (by decide) ?_
      refine lv_icmp_le (tgt := 35) hx hb dX10_refuseRegister_22 (by decide) (fun h_6 => ?_) (fun h_6 => ?_)
      · have hf := hf.trans (if_pos h_6)
        exact kx_ret_v hx hb hr hlocks hK (by decide) (by decide) σ (congrArg (fun z => (z, σ)) hf) hP hD hS dX10_refuseRegister_35
      · have hf := hf.trans (if_neg h_6)
        exact kx_IO hl9 hx hb hml hown hts hK hP hD hS hZ hl.1 hlocks htab hZ.1.2.2.2.2.2.2.2.2.2 kw_129 kw_130 dX10_refuseRegister_25 dX10_refuseRegister_28 dX10_refuseRegister_29 dX10_refuseRegister_31 dX10_refuseRegister_34 (by decide) (by decide) (by decide) (by decide) (by decide) (by decide) hf
  · have hf := hf.trans (if_pos h_4)
    exact kx_IA hl9 hx hb hml hown hts hK hP hD hS hZ hl.1 hlocks htab hZ.1.2.2.2.2.2.2.2.2.1 kw_127 kw_128 dX10_refuseRegister_5 dX10_refuseRegister_8 dX10_refuseRegister_9 dX10_refuseRegister_11 dX10_refuseRegister_14 (by decide) (by decide) (by decide) (by decide) (by decide) (by decide) hf
theorem rr_ok {σ : CS} {b i : Int32} (h : x_Top_refuseRegister σ b i = 0) : ¬ b = (-1) ∧ vp_in i 16 := by
  unfold x_Top_refuseRegister at h
  by_cases h1 : b = (-1)
  · rw [if_pos h1] at h; cases h
  · refine ⟨h1, ?_⟩
    rw [if_neg h1] at h
    by_cases h2 : i < 0
    · rw [if_pos h2] at h; cases h
    · rw [if_neg h2] at h
      by_cases h3 : i ≤ 15
      · rw [vp_in_iff]
        have a1 : ¬ i.toInt < (0 : Int32).toInt := fun q => h2 (Int32.lt_iff_toInt_lt.mpr q)
        have a2 : i.toInt ≤ (15 : Int32).toInt := Int32.le_iff_toInt_le.mp h3
        have e0 : (0 : Int32).toInt = 0 := by decide
        have e1 : (15 : Int32).toInt = 15 := by decide
        rw [e0] at a1
        rw [e1] at a2
        exact ⟨by omega, by omega⟩
      · rw [if_neg h3] at h; cases h
def x_Top_poke (σ : CS) (v0 : Int32) (v1 : Int32) : Nat × Int32 × CS := (if x_Top_refuseAddress σ v0 = 0 then (0, x_Memory_word σ v0, x_Memory_putWord σ v0 v1) else (x_Top_refuseAddress σ v0, 0, σ))
set_option maxRecDepth 20000 in
set_option maxHeartbeats 4000000 in
theorem cx_Top_poke (l : Launch) (hl9 : l.stackTraces = false) (G : KG) (σ : CS) (v0 : Int32) (v1 : Int32) : KX l yX10_poke (Cond.code yX10_poke cX10_poke 4 (some .int) :: lw_all) (krx 7) (gD G) vwCl (gT G) (cZX G) (cW G) [.ref (gA G 0), .int v0, .int v1] σ (x_Top_poke σ v0 v1) := by
  refine kx_in_b (q := x_Top_poke σ v0 v1) (by decide) rfl (Nat.le_of_ble_eq_true rfl) ?_
  intro p e s m args below meth c A ls hx hb hml hown hts hK hP hD hA hS hZ hl hr hlocks htab
  have hts := fun w h => hts w (List.mem_cons_of_mem _ h)
  have hl : lv_has ls 4 [(0, .ref (gA G 0)), (1, .int v0), (2, .int v1)] := hl
  have hf : x_Top_poke σ v0 v1 = x_Top_poke σ v0 v1 := rfl
  refine lv_aload_n hx hb dX10_poke_0 rfl (lv_at hl 0 rfl) ?_
  refine lv_iload_n hx hb dX10_poke_1 rfl (lv_at hl 1 rfl) ?_
  refine kx_Vv (rest := []) (cx_Top_refuseAddress l hl9 G σ v0) ⟨hx, hb, hml, hown, hts⟩ (cwV 1 hts (gi_V kw_123 kw_124 kw_125 kw_2 kw_126) rfl rfl rfl ⟨rfl, mdX10_refuseAddress⟩ ⟨by decide, by decide⟩) (va_recv hK hP (ci := 8) (q0 := 0) rfl rfl) cZX_ok hK hP hD hS hA hZ rfl hl.1 rfl (Nat.le_of_ble_eq_true rfl) dX10_poke_2 ⟨by decide, by decide⟩ (fun H locs h_2 hP hD hS => ?_) (fun H locs E ce q9 h_2 hE hP hD hS h1 h2 h3 => ?_)
  · have hf := hf.trans (if_pos h_2)
    refine lv_aload_n hx hb dX10_poke_5 rfl (lv_at hl 0 rfl) ?_
    refine va_get (D := gD G) (ci := 8) hx hb hts ku_10 hown hK hP 0 rfl rfl 0 (by decide) (hts _ kw_16) (fun _ h9 => h9) rfl dX10_poke_6 ?_
    refine lv_iload_n hx hb dX10_poke_9 rfl (lv_at hl 1 rfl) ?_
    refine kc_Vr (rest := []) (cx_Memory_word l G σ v0) ⟨hx, hb, hml, hown, hts⟩ (cwV 1 hts (gi_V kw_136 kw_137 kw_138 kw_15 kw_139) rfl rfl rfl ⟨rfl, mdX4_word⟩ ⟨by decide, by decide⟩) (va_recv hK hP (ci := 2) (q0 := 1) rfl rfl) cZ_ok hK hP hD hS hA hZ.1 rfl hl.1 rfl (Nat.le_of_ble_eq_true rfl) dX10_poke_10 ⟨by decide, by decide⟩ (fun H locs hP hD hS => ?_)
    refine lv_istore_n (lv' := [(3, .int (x_Memory_word σ v0)), (0, .ref (gA G 0)), (1, .int v0), (2, .int v1)]) hx hb dX10_poke_13 rfl hl (by decide) rfl (fun ls hl => ?_)
    refine lv_aload_n hx hb dX10_poke_14 rfl (lv_at hl 1 rfl) ?_
    refine va_get (D := gD G) (ci := 8) hx hb hts ku_10 hown hK hP 0 rfl rfl 0 (by decide) (hts _ kw_16) (fun _ h9 => h9) rfl dX10_poke_15 ?_
    refine lv_iload_n hx hb dX10_poke_18 rfl (lv_at hl 2 rfl) ?_
    refine lv_iload_n hx hb dX10_poke_19 rfl (lv_at hl 3 rfl) ?_
    refine kc_Vv (rest := []) (cx_Memory_putWord l G σ v0 v1) ⟨hx, hb, hml, hown, hts⟩ (cwV 2 hts (gi_V kw_141 kw_142 kw_143 kw_15 kw_144) rfl rfl rfl ⟨rfl, mdX4_putWord⟩ ⟨by decide, by decide⟩) (va_recv hK hP (ci := 2) (q0 := 1) rfl rfl) cZ_ok hK hP hD hS hA hZ.1 rfl hl.1 rfl (Nat.le_of_ble_eq_true rfl) dX10_poke_20 ⟨by decide, by decide⟩ (fun H locs hP hD hS => ?_)
    refine lv_iload_n hx hb dX10_poke_23 rfl (lv_at hl 0 rfl) ?_
    exact kx_ret_b hx hb hr hlocks hK (by decide) (by decide) (x_Memory_word σ v0) (x_Memory_putWord σ v0 v1) hf hP hD hS dX10_poke_24
  · have hf := hf.trans (if_neg h_2)
    exact kx_prop htab hlocks hK (by decide) (by decide) (by rw [hf]; exact h_2) (by rw [hf]; exact hE) hP hD hS h1 h2 h3
def x_Top_peek (σ : CS) (v0 : Int32) : Nat × Int32 × CS := (if x_Top_refuseAddress σ v0 = 0 then (0, x_Memory_word σ v0, σ) else (x_Top_refuseAddress σ v0, 0, σ))
set_option maxRecDepth 20000 in
set_option maxHeartbeats 4000000 in
theorem cx_Top_peek (l : Launch) (hl9 : l.stackTraces = false) (G : KG) (σ : CS) (v0 : Int32) : KX l yX10_peek (Cond.code yX10_peek cX10_peek 2 (some .int) :: lw_all) (krx 7) (gD G) vwCl (gT G) (cZX G) (cW G) [.ref (gA G 0), .int v0] σ (x_Top_peek σ v0) := by
  refine kx_in_b (q := x_Top_peek σ v0) (by decide) rfl (Nat.le_of_ble_eq_true rfl) ?_
  intro p e s m args below meth c A ls hx hb hml hown hts hK hP hD hA hS hZ hl hr hlocks htab
  have hts := fun w h => hts w (List.mem_cons_of_mem _ h)
  have hl : lv_has ls 2 [(0, .ref (gA G 0)), (1, .int v0)] := hl
  have hf : x_Top_peek σ v0 = x_Top_peek σ v0 := rfl
  refine lv_aload_n hx hb dX10_peek_0 rfl (lv_at hl 0 rfl) ?_
  refine lv_iload_n hx hb dX10_peek_1 rfl (lv_at hl 1 rfl) ?_
  refine kx_Vv (rest := []) (cx_Top_refuseAddress l hl9 G σ v0) ⟨hx, hb, hml, hown, hts⟩ (cwV 1 hts (gi_V kw_123 kw_124 kw_125 kw_2 kw_126) rfl rfl rfl ⟨rfl, mdX10_refuseAddress⟩ ⟨by decide, by decide⟩) (va_recv hK hP (ci := 8) (q0 := 0) rfl rfl) cZX_ok hK hP hD hS hA hZ rfl hl.1 rfl (Nat.le_of_ble_eq_true rfl) dX10_peek_2 ⟨by decide, by decide⟩ (fun H locs h_2 hP hD hS => ?_) (fun H locs E ce q9 h_2 hE hP hD hS h1 h2 h3 => ?_)
  · have hf := hf.trans (if_pos h_2)
    refine lv_aload_n hx hb dX10_peek_5 rfl (lv_at hl 0 rfl) ?_
    refine va_get (D := gD G) (ci := 8) hx hb hts ku_10 hown hK hP 0 rfl rfl 0 (by decide) (hts _ kw_16) (fun _ h9 => h9) rfl dX10_peek_6 ?_
    refine lv_iload_n hx hb dX10_peek_9 rfl (lv_at hl 1 rfl) ?_
    refine kc_Vr (rest := []) (cx_Memory_word l G σ v0) ⟨hx, hb, hml, hown, hts⟩ (cwV 1 hts (gi_V kw_136 kw_137 kw_138 kw_15 kw_139) rfl rfl rfl ⟨rfl, mdX4_word⟩ ⟨by decide, by decide⟩) (va_recv hK hP (ci := 2) (q0 := 1) rfl rfl) cZ_ok hK hP hD hS hA hZ.1 rfl hl.1 rfl (Nat.le_of_ble_eq_true rfl) dX10_peek_10 ⟨by decide, by decide⟩ (fun H locs hP hD hS => ?_)
    exact kx_ret_b hx hb hr hlocks hK (by decide) (by decide) (x_Memory_word σ v0) σ hf hP hD hS dX10_peek_13
  · have hf := hf.trans (if_neg h_2)
    exact kx_prop htab hlocks hK (by decide) (by decide) (by rw [hf]; exact h_2) (by rw [hf]; exact hE) hP hD hS h1 h2 h3
def x_Top_set (σ : CS) (v0 : Int32) (v1 : Int32) (v2 : Int32) : Nat × CS := (if x_Top_refuseRegister σ (x_Registers_bankOf v0) v1 = 0 then (if v1 = 15 then (0, x_Registers_jump σ v2) else (0, x_Registers_hold σ (x_Registers_bankOf v0) v1 v2)) else (x_Top_refuseRegister σ (x_Registers_bankOf v0) v1, σ))
set_option maxRecDepth 20000 in
set_option maxHeartbeats 4000000 in
theorem cx_Top_set (l : Launch) (hl9 : l.stackTraces = false) (G : KG) (σ : CS) (v0 : Int32) (v1 : Int32) (v2 : Int32) : KXv l yX10_set (Cond.code yX10_set cX10_set 5 none :: lw_all) (krx 7) (gD G) vwCl (gT G) (cZX G) (cW G) [.ref (gA G 0), .int v0, .int v1, .int v2] σ (x_Top_set σ v0 v1 v2) := by
  refine kx_in_v (q := x_Top_set σ v0 v1 v2) (by decide) rfl (Nat.le_of_ble_eq_true rfl) ?_
  intro p e s m args below meth c A ls hx hb hml hown hts hK hP hD hA hS hZ hl hr hlocks htab
  have hts := fun w h => hts w (List.mem_cons_of_mem _ h)
  have hl : lv_has ls 5 [(0, .ref (gA G 0)), (1, .int v0), (2, .int v1), (3, .int v2)] := hl
  have hf : x_Top_set σ v0 v1 v2 = x_Top_set σ v0 v1 v2 := rfl
  refine lv_iload_n hx hb dX10_set_0 rfl (lv_at hl 1 rfl) ?_
  refine kp_Si (rest := []) (cx_Registers_bankOf l v0) ⟨hx, hb, hml, hown, hts⟩ (va_cwS 1 hts (gi_S kw_180 kw_181 kw_19 kw_182) rfl rfl rfl mdX6_bankOf ⟨by decide, by decide⟩) rfl hl.1 rfl (Nat.le_of_ble_eq_true rfl) dX10_set_1 ⟨by decide, by decide⟩ ?_
  refine lv_istore (lv' := [(4, .int (x_Registers_bankOf v0)), (0, .ref (gA G 0)), (1, .int v0), (2, .int v1), (3, .int v2)]) hx hb dX10_set_4 hl (by decide) rfl (fun ls hl => ?_)
  refine lv_iload hx hb dX10_set_6 (lv_at hl 0 rfl) ?_
  refine lv_iload_n hx hb dX10_set_8 rfl (lv_at hl 3 rfl) ?_
  refine kx_Sv (rest := []) (cx_Top_refuseRegister l hl9 G σ (x_Registers_bankOf v0) v1) ⟨hx, hb, hml, hown, hts⟩ (va_cwS 2 hts (gi_S kw_183 kw_184 kw_2 kw_185) rfl rfl rfl mdX10_refuseRegister ⟨by decide, by decide⟩) cZX_ok hK hP hD hS hA hZ rfl hl.1 rfl (Nat.le_of_ble_eq_true rfl) dX10_set_9 ⟨by decide, by decide⟩ (fun H locs h_3 hP hD hS => ?_) (fun H locs E ce q9 h_3 hE hP hD hS h1 h2 h3 => ?_)
  · have hf := hf.trans (if_pos h_3)
    refine lv_iload_n hx hb dX10_set_12 rfl (lv_at hl 3 rfl) ?_
    refine lv_bipush (v := 15) hx hb dX10_set_13 (by decide) ?_
    refine lv_icmp_ne (tgt := 29) hx hb dX10_set_15 (by decide) (fun h_4 => ?_) (fun h_4 => ?_)
    · have hf := hf.trans (if_neg h_4)
      refine lv_aload_n hx hb dX10_set_29 rfl (lv_at hl 1 rfl) ?_
      refine va_get (D := gD G) (ci := 8) hx hb hts ku_10 hown hK hP 0 rfl rfl 1 (by decide) (hts _ kw_20) (fun _ h9 => h9) rfl dX10_set_30 ?_
      refine lv_iload hx hb dX10_set_33 (lv_at hl 0 rfl) ?_
      refine lv_iload_n hx hb dX10_set_35 rfl (lv_at hl 3 rfl) ?_
      refine lv_iload_n hx hb dX10_set_36 rfl (lv_at hl 4 rfl) ?_
      refine kc_Vv (rest := []) (cx_Registers_hold l G σ (x_Registers_bankOf v0) v1 v2 (bankOf_in (rr_ok (σ := σ) (by assumption)).1) (rr_ok (σ := σ) (by assumption)).2) ⟨hx, hb, hml, hown, hts⟩ (cwV 3 hts (gi_V kw_194 kw_195 kw_196 kw_19 kw_197) rfl rfl rfl ⟨rfl, mdX6_hold⟩ ⟨by decide, by decide⟩) (va_recv hK hP (ci := 4) (q0 := 3) rfl rfl) cZ_ok hK hP hD hS hA hZ.1 rfl hl.1 rfl (Nat.le_of_ble_eq_true rfl) dX10_set_37 ⟨by decide, by decide⟩ (fun H locs hP hD hS => ?_)
      exact kx_ret_v hx hb hr hlocks hK (by decide) (by decide) (x_Registers_hold σ (x_Registers_bankOf v0) v1 v2) hf hP hD hS dX10_set_40
    · have hf := hf.trans (if_pos h_4)
      refine lv_aload_n hx hb dX10_set_18 rfl (lv_at hl 1 rfl) ?_
      refine va_get (D := gD G) (ci := 8) hx hb hts ku_10 hown hK hP 0 rfl rfl 1 (by decide) (hts _ kw_20) (fun _ h9 => h9) rfl dX10_set_19 ?_
      refine lv_iload_n hx hb dX10_set_22 rfl (lv_at hl 4 rfl) ?_
      refine kc_Vv (rest := []) (cx_Registers_jump l G σ v2) ⟨hx, hb, hml, hown, hts⟩ (cwV 1 hts (gi_V kw_186 kw_187 kw_188 kw_19 kw_189) rfl rfl rfl ⟨rfl, mdX6_jump⟩ ⟨by decide, by decide⟩) (va_recv hK hP (ci := 4) (q0 := 3) rfl rfl) cZ_ok hK hP hD hS hA hZ.1 rfl hl.1 rfl (Nat.le_of_ble_eq_true rfl) dX10_set_23 ⟨by decide, by decide⟩ (fun H locs hP hD hS => ?_)
      refine lv_goto (tgt := 40) hx hb dX10_set_26 (by decide) ?_
      exact kx_ret_v hx hb hr hlocks hK (by decide) (by decide) (x_Registers_jump σ v2) hf hP hD hS dX10_set_40
  · have hf := hf.trans (if_neg h_3)
    exact kx_prop htab hlocks hK (by decide) (by decide) (by rw [hf]; exact h_3) (by rw [hf]; exact hE) hP hD hS h1 h2 h3
def x_Top_get (σ : CS) (v0 : Int32) (v1 : Int32) : Nat × Int32 × CS := (if x_Top_refuseRegister σ (x_Registers_bankOf v0) v1 = 0 then (0, x_Registers_heldIn σ (x_Registers_bankOf v0) v1, σ) else (x_Top_refuseRegister σ (x_Registers_bankOf v0) v1, 0, σ))
set_option maxRecDepth 20000 in
set_option maxHeartbeats 4000000 in
theorem cx_Top_get (l : Launch) (hl9 : l.stackTraces = false) (G : KG) (σ : CS) (v0 : Int32) (v1 : Int32) : KX l yX10_get (Cond.code yX10_get cX10_get 4 (some .int) :: lw_all) (krx 7) (gD G) vwCl (gT G) (cZX G) (cW G) [.ref (gA G 0), .int v0, .int v1] σ (x_Top_get σ v0 v1) := by
  refine kx_in_b (q := x_Top_get σ v0 v1) (by decide) rfl (Nat.le_of_ble_eq_true rfl) ?_
  intro p e s m args below meth c A ls hx hb hml hown hts hK hP hD hA hS hZ hl hr hlocks htab
  have hts := fun w h => hts w (List.mem_cons_of_mem _ h)
  have hl : lv_has ls 4 [(0, .ref (gA G 0)), (1, .int v0), (2, .int v1)] := hl
  have hf : x_Top_get σ v0 v1 = x_Top_get σ v0 v1 := rfl
  refine lv_iload_n hx hb dX10_get_0 rfl (lv_at hl 1 rfl) ?_
  refine kp_Si (rest := []) (cx_Registers_bankOf l v0) ⟨hx, hb, hml, hown, hts⟩ (va_cwS 1 hts (gi_S kw_180 kw_181 kw_19 kw_182) rfl rfl rfl mdX6_bankOf ⟨by decide, by decide⟩) rfl hl.1 rfl (Nat.le_of_ble_eq_true rfl) dX10_get_1 ⟨by decide, by decide⟩ ?_
  refine lv_istore_n (lv' := [(3, .int (x_Registers_bankOf v0)), (0, .ref (gA G 0)), (1, .int v0), (2, .int v1)]) hx hb dX10_get_4 rfl hl (by decide) rfl (fun ls hl => ?_)
  refine lv_iload_n hx hb dX10_get_5 rfl (lv_at hl 0 rfl) ?_
  refine lv_iload_n hx hb dX10_get_6 rfl (lv_at hl 3 rfl) ?_
  refine kx_Sv (rest := []) (cx_Top_refuseRegister l hl9 G σ (x_Registers_bankOf v0) v1) ⟨hx, hb, hml, hown, hts⟩ (va_cwS 2 hts (gi_S kw_183 kw_184 kw_2 kw_185) rfl rfl rfl mdX10_refuseRegister ⟨by decide, by decide⟩) cZX_ok hK hP hD hS hA hZ rfl hl.1 rfl (Nat.le_of_ble_eq_true rfl) dX10_get_7 ⟨by decide, by decide⟩ (fun H locs h_2 hP hD hS => ?_) (fun H locs E ce q9 h_2 hE hP hD hS h1 h2 h3 => ?_)
  · have hf := hf.trans (if_pos h_2)
    refine lv_aload_n hx hb dX10_get_10 rfl (lv_at hl 1 rfl) ?_
    refine va_get (D := gD G) (ci := 8) hx hb hts ku_10 hown hK hP 0 rfl rfl 1 (by decide) (hts _ kw_20) (fun _ h9 => h9) rfl dX10_get_11 ?_
    refine lv_iload_n hx hb dX10_get_14 rfl (lv_at hl 0 rfl) ?_
    refine lv_iload_n hx hb dX10_get_15 rfl (lv_at hl 3 rfl) ?_
    refine kc_Vr (rest := []) (cx_Registers_heldIn l G σ (x_Registers_bankOf v0) v1 (bankOf_in (rr_ok (σ := σ) (by assumption)).1) (rr_ok (σ := σ) (by assumption)).2) ⟨hx, hb, hml, hown, hts⟩ (cwV 2 hts (gi_V kw_224 kw_225 kw_226 kw_19 kw_227) rfl rfl rfl ⟨rfl, mdX6_heldIn⟩ ⟨by decide, by decide⟩) (va_recv hK hP (ci := 4) (q0 := 3) rfl rfl) cZ_ok hK hP hD hS hA hZ.1 rfl hl.1 rfl (Nat.le_of_ble_eq_true rfl) dX10_get_16 ⟨by decide, by decide⟩ (fun H locs hP hD hS => ?_)
    exact kx_ret_b hx hb hr hlocks hK (by decide) (by decide) (x_Registers_heldIn σ (x_Registers_bankOf v0) v1) σ hf hP hD hS dX10_get_19
  · have hf := hf.trans (if_neg h_2)
    exact kx_prop htab hlocks hK (by decide) (by decide) (by rw [hf]; exact h_2) (by rw [hf]; exact hE) hP hD hS h1 h2 h3
def x_Top_saved (σ : CS) (v0 : Int32) (v1 : Int32) : Nat × Int32 × CS := (if (x_Registers_bankOf v0) = (-1) then (1, 0, σ) else (if (x_Registers_bankOf v0) = 0 then (1, 0, σ) else (0, x_Registers_spsr σ (x_Registers_bankOf v0), x_Registers_changeSpsr σ (x_Registers_bankOf v0) v1)))
set_option maxRecDepth 20000 in
set_option maxHeartbeats 4000000 in
theorem cx_Top_saved (l : Launch) (hl9 : l.stackTraces = false) (G : KG) (σ : CS) (v0 : Int32) (v1 : Int32) : KX l yX10_saved (Cond.code yX10_saved cX10_saved 5 (some .int) :: lw_all) (krx 7) (gD G) vwCl (gT G) (cZX G) (cW G) [.ref (gA G 0), .int v0, .int v1] σ (x_Top_saved σ v0 v1) := by
  refine kx_in_b (q := x_Top_saved σ v0 v1) (by decide) rfl (Nat.le_of_ble_eq_true rfl) ?_
  intro p e s m args below meth c A ls hx hb hml hown hts hK hP hD hA hS hZ hl hr hlocks htab
  have hts := fun w h => hts w (List.mem_cons_of_mem _ h)
  have hl : lv_has ls 5 [(0, .ref (gA G 0)), (1, .int v0), (2, .int v1)] := hl
  have hf : x_Top_saved σ v0 v1 = x_Top_saved σ v0 v1 := rfl
  refine lv_iload_n hx hb dX10_saved_0 rfl (lv_at hl 1 rfl) ?_
  refine kp_Si (rest := []) (cx_Registers_bankOf l v0) ⟨hx, hb, hml, hown, hts⟩ (va_cwS 1 hts (gi_S kw_180 kw_181 kw_19 kw_182) rfl rfl rfl mdX6_bankOf ⟨by decide, by decide⟩) rfl hl.1 rfl (Nat.le_of_ble_eq_true rfl) dX10_saved_1 ⟨by decide, by decide⟩ ?_
  refine lv_istore_n (lv' := [(3, .int (x_Registers_bankOf v0)), (0, .ref (gA G 0)), (1, .int v0), (2, .int v1)]) hx hb dX10_saved_4 rfl hl (by decide) rfl (fun ls hl => ?_)
  refine lv_iload_n hx hb dX10_saved_5 rfl (lv_at hl 0 rfl) ?_
  refine lv_iconst (v := (-1)) hx hb dX10_saved_6 (by decide) ?_
  refine lv_icmp_eq (tgt := 14) hx hb dX10_saved_7 (by decide) (fun h_3 => ?_) (fun h_3 => ?_)
  · have hf := hf.trans (if_pos h_3)
    exact kx_IA hl9 hx hb hml hown hts hK hP hD hS hZ hl.1 hlocks htab hZ.1.2.2.1 kw_127 kw_128 dX10_saved_14 dX10_saved_17 dX10_saved_18 dX10_saved_20 dX10_saved_23 (by decide) (by decide) (by decide) (by decide) (by decide) (by decide) (congrArg (fun z => z.1) hf)
  · have hf := hf.trans (if_neg h_3)
    refine lv_iload_n hx hb dX10_saved_10 rfl (lv_at hl 0 rfl) ?_
    refine lv_if_ne (tgt := 24) hx hb dX10_saved_11 (by decide) (fun h_4 => ?_) (fun h_4 => ?_)
    · have hf := hf.trans (if_neg h_4)
      refine lv_aload_n hx hb dX10_saved_24 rfl (lv_at hl 1 rfl) ?_
      refine va_get (D := gD G) (ci := 8) hx hb hts ku_10 hown hK hP 0 rfl rfl 1 (by decide) (hts _ kw_20) (fun _ h9 => h9) rfl dX10_saved_25 ?_
      refine lv_iload_n hx hb dX10_saved_28 rfl (lv_at hl 0 rfl) ?_
      refine kc_Vr (rest := []) (cx_Registers_spsr l G σ (x_Registers_bankOf v0) (bankOf_in (by assumption))) ⟨hx, hb, hml, hown, hts⟩ (cwV 1 hts (gi_V kw_270 kw_271 kw_272 kw_19 kw_273) rfl rfl rfl ⟨rfl, mdX6_spsr⟩ ⟨by decide, by decide⟩) (va_recv hK hP (ci := 4) (q0 := 3) rfl rfl) cZ_ok hK hP hD hS hA hZ.1 rfl hl.1 rfl (Nat.le_of_ble_eq_true rfl) dX10_saved_29 ⟨by decide, by decide⟩ (fun H locs hP hD hS => ?_)
      refine lv_istore (lv' := [(4, .int (x_Registers_spsr σ (x_Registers_bankOf v0))), (3, .int (x_Registers_bankOf v0)), (0, .ref (gA G 0)), (1, .int v0), (2, .int v1)]) hx hb dX10_saved_32 hl (by decide) rfl (fun ls hl => ?_)
      refine lv_aload_n hx hb dX10_saved_34 rfl (lv_at hl 2 rfl) ?_
      refine va_get (D := gD G) (ci := 8) hx hb hts ku_10 hown hK hP 0 rfl rfl 1 (by decide) (hts _ kw_20) (fun _ h9 => h9) rfl dX10_saved_35 ?_
      refine lv_iload_n hx hb dX10_saved_38 rfl (lv_at hl 1 rfl) ?_
      refine lv_iload_n hx hb dX10_saved_39 rfl (lv_at hl 4 rfl) ?_
      refine kc_Vv (rest := []) (cx_Registers_changeSpsr l G σ (x_Registers_bankOf v0) v1 (bankOf_in (by assumption))) ⟨hx, hb, hml, hown, hts⟩ (cwV 2 hts (gi_V kw_274 kw_275 kw_276 kw_19 kw_277) rfl rfl rfl ⟨rfl, mdX6_changeSpsr⟩ ⟨by decide, by decide⟩) (va_recv hK hP (ci := 4) (q0 := 3) rfl rfl) cZ_ok hK hP hD hS hA hZ.1 rfl hl.1 rfl (Nat.le_of_ble_eq_true rfl) dX10_saved_40 ⟨by decide, by decide⟩ (fun H locs hP hD hS => ?_)
      refine lv_iload hx hb dX10_saved_43 (lv_at hl 0 rfl) ?_
      exact kx_ret_b hx hb hr hlocks hK (by decide) (by decide) (x_Registers_spsr σ (x_Registers_bankOf v0)) (x_Registers_changeSpsr σ (x_Registers_bankOf v0) v1) hf hP hD hS dX10_saved_45
    · have hf := hf.trans (if_pos h_4)
      exact kx_IA hl9 hx hb hml hown hts hK hP hD hS hZ hl.1 hlocks htab hZ.1.2.2.1 kw_127 kw_128 dX10_saved_14 dX10_saved_17 dX10_saved_18 dX10_saved_20 dX10_saved_23 (by decide) (by decide) (by decide) (by decide) (by decide) (by decide) (congrArg (fun z => z.1) hf)
def x_Top_line_19 (σ : CS) (v0 : Int32) (v1 : Bool) : Nat × Bool × CS := (if v0 = 1 then (0, (x_Processor_switchFiq σ v1).1, (x_Processor_switchFiq σ v1).2) else (0, (x_Processor_switchIrq σ v1).1, (x_Processor_switchIrq σ v1).2))
def x_Top_line (σ : CS) (v0 : Int32) (v1 : Bool) : Nat × Bool × CS := (if v0 = 0 then x_Top_line_19 σ v0 v1 else (if v0 = 1 then x_Top_line_19 σ v0 v1 else (2, false, σ)))
set_option maxRecDepth 20000 in
set_option maxHeartbeats 4000000 in
theorem cx_Top_line (l : Launch) (hl9 : l.stackTraces = false) (G : KG) (σ : CS) (v0 : Int32) (v1 : Bool) : KX l yX10_line (Cond.code yX10_line cX10_line 3 (some .boolean) :: lw_all) (krx 7) (gD G) vwCl (gT G) (cZX G) (cW G) [.ref (gA G 0), .int v0, .int (b01 v1)] σ ((x_Top_line σ v0 v1).1, b01 (x_Top_line σ v0 v1).2.1, (x_Top_line σ v0 v1).2.2) := by
  refine kx_in_b (q := ((x_Top_line σ v0 v1).1, b01 (x_Top_line σ v0 v1).2.1, (x_Top_line σ v0 v1).2.2)) (by decide) rfl (Nat.le_of_ble_eq_true rfl) ?_
  intro p e s m args below meth c A ls hx hb hml hown hts hK hP hD hA hS hZ hl hr hlocks htab
  have hts := fun w h => hts w (List.mem_cons_of_mem _ h)
  have hl : lv_has ls 3 [(0, .ref (gA G 0)), (1, .int v0), (2, .int (b01 v1))] := hl
  have hf : x_Top_line σ v0 v1 = x_Top_line σ v0 v1 := rfl
  have J19 : ∀ (H : Heap) (locs : List Loc) (ls : Array Slot), va_P (gD G) vwCl (cW G (σ)) H → va_D A (cW G (σ)) → va_S A s.heap H locs → lv_has ls 3 [(0, .ref (gA G 0)), (1, .int v0), (2, .int (b01 v1))] → x_Top_line σ v0 v1 = x_Top_line_19 σ v0 v1 → W p l e (krx 7) s m args below meth c H locs 0 0 (vx_MQ below (kx_Pi (gD G) vwCl (gT G) (cW G) ((x_Top_line σ v0 v1).1, b01 (x_Top_line σ v0 v1).2.1, (x_Top_line σ v0 v1).2.2) A) (kx_X (gD G) vwCl (gT G) (cW G) σ (((x_Top_line σ v0 v1).1, b01 (x_Top_line σ v0 v1).2.1, (x_Top_line σ v0 v1).2.2)).1 A) args s 1 6 A) (F0 m 19 ls []) := by
    intro H locs ls hP hD hS hl hf
    refine lv_iload_n hx hb dX10_line_19 rfl (lv_at hl 1 rfl) ?_
    refine lv_iconst (v := 1) hx hb dX10_line_20 (by decide) ?_
    refine lv_icmp_ne (tgt := 35) hx hb dX10_line_21 (by decide) (fun h_4 => ?_) (fun h_4 => ?_)
    · have hf := hf.trans (if_neg h_4)
      refine lv_aload_n hx hb dX10_line_35 rfl (lv_at hl 0 rfl) ?_
      refine va_get (D := gD G) (ci := 8) hx hb hts ku_10 hown hK hP 0 rfl rfl 2 (by decide) (hts _ kw_24) (fun _ h9 => h9) rfl dX10_line_36 ?_
      refine lv_iload_n hx hb dX10_line_39 rfl (lv_at hl 2 rfl) ?_
      refine kc_Vz (rest := []) (cx_Processor_switchIrq l G σ v1) ⟨hx, hb, hml, hown, hts⟩ (cwV 1 hts (gi_V kw_293 kw_294 kw_295 kw_23 kw_296) rfl rfl rfl ⟨rfl, mdX5_switchIrq⟩ ⟨by decide, by decide⟩) (va_recv hK hP (ci := 3) (q0 := 6) rfl rfl) cZ_ok hK hP hD hS hA hZ.1 rfl hl.1 rfl (Nat.le_of_ble_eq_true rfl) dX10_line_40 ⟨by decide, by decide⟩ (fun H locs hP hD hS => ?_)
      exact kx_ret_z hx hb hr hlocks hK (by decide) (by decide) ((x_Processor_switchIrq σ v1).1) ((x_Processor_switchIrq σ v1).2) hf hP hD hS dX10_line_43
    · have hf := hf.trans (if_pos h_4)
      refine lv_aload_n hx hb dX10_line_24 rfl (lv_at hl 0 rfl) ?_
      refine va_get (D := gD G) (ci := 8) hx hb hts ku_10 hown hK hP 0 rfl rfl 2 (by decide) (hts _ kw_24) (fun _ h9 => h9) rfl dX10_line_25 ?_
      refine lv_iload_n hx hb dX10_line_28 rfl (lv_at hl 2 rfl) ?_
      refine kc_Vz (rest := []) (cx_Processor_switchFiq l G σ v1) ⟨hx, hb, hml, hown, hts⟩ (cwV 1 hts (gi_V kw_289 kw_290 kw_291 kw_23 kw_292) rfl rfl rfl ⟨rfl, mdX5_switchFiq⟩ ⟨by decide, by decide⟩) (va_recv hK hP (ci := 3) (q0 := 6) rfl rfl) cZ_ok hK hP hD hS hA hZ.1 rfl hl.1 rfl (Nat.le_of_ble_eq_true rfl) dX10_line_29 ⟨by decide, by decide⟩ (fun H locs hP hD hS => ?_)
      refine lv_goto (tgt := 43) hx hb dX10_line_32 (by decide) ?_
      exact kx_ret_z hx hb hr hlocks hK (by decide) (by decide) ((x_Processor_switchFiq σ v1).1) ((x_Processor_switchFiq σ v1).2) hf hP hD hS dX10_line_43
  refine lv_iload_n hx hb dX10_line_0 rfl (lv_at hl 1 rfl) ?_
  refine lv_if_eq (tgt := 19) hx hb dX10_line_1 (by decide) (fun h_5 => ?_) (fun h_5 => ?_)
  · have hf := hf.trans (if_pos h_5)
    exact J19 _ _ _ hP hD hS (lv_sub hl [0, 1, 2] rfl) hf
  · have hf := hf.trans (if_neg h_5)
    refine lv_iload_n hx hb dX10_line_4 rfl (lv_at hl 1 rfl) ?_
    refine lv_iconst (v := 1) hx hb dX10_line_5 (by decide) ?_
    refine lv_icmp_eq (tgt := 19) hx hb dX10_line_6 (by decide) (fun h_6 => ?_) (fun h_6 => ?_)
    · have hf := hf.trans (if_pos h_6)
      exact J19 _ _ _ hP hD hS (lv_sub hl [0, 1, 2] rfl) hf
    · have hf := hf.trans (if_neg h_6)
      exact kx_IO hl9 hx hb hml hown hts hK hP hD hS hZ hl.1 hlocks htab hZ.1.2.2.2.1 kw_129 kw_130 dX10_line_9 dX10_line_12 dX10_line_13 dX10_line_15 dX10_line_18 (by decide) (by decide) (by decide) (by decide) (by decide) (by decide) (congrArg (fun z => z.1) hf)
theorem st_in {v : Int32} (h1 : ¬ v < 1) (h2 : v ≤ 20000) : vp_in v 20001 := by
  rw [vp_in_iff]
  have a1 : ¬ v.toInt < (1 : Int32).toInt := fun q => h1 (Int32.lt_iff_toInt_lt.mpr q)
  have a2 : v.toInt ≤ (20000 : Int32).toInt := Int32.le_iff_toInt_le.mp h2
  have e0 : (1 : Int32).toInt = 1 := by decide
  have e1 : (20000 : Int32).toInt = 20000 := by decide
  rw [e0] at a1
  rw [e1] at a2
  exact ⟨by omega, by omega⟩
def x_Top_step_26 (σ : CS) (v0 : Int32) : Nat → Int32 → Int32 → CS → Nat × Int32 × CS
  | 0, _, _, _ => (0, 0, σ)
  | n + 1, n2_26, n3_26, τ_26 => (if v0 ≤ n3_26 then (0, n2_26, τ_26) else (if ((x_Processor_advance τ_26).1) = (-1) then x_Top_step_26 σ v0 n n2_26 (n3_26 + 1) ((x_Processor_advance τ_26).2) else x_Top_step_26 σ v0 n (n2_26 + 1) (n3_26 + 1) (x_Processor_take ((x_Processor_advance τ_26).2) ((x_Processor_advance τ_26).1))))
def x_Top_step (σ : CS) (v0 : Int32) : Nat × Int32 × CS := (if v0 < 1 then (1, 0, σ) else (if v0 ≤ 20000 then x_Top_step_26 σ v0 20001 0 0 σ else (1, 0, σ)))
set_option maxRecDepth 20000 in
set_option maxHeartbeats 4000000 in
theorem cx_Top_step (l : Launch) (hl9 : l.stackTraces = false) (G : KG) (σ : CS) (v0 : Int32) : KX l yX10_step (Cond.code yX10_step cX10_step 5 (some .int) :: lw_all) (krx 8) (gD G) vwCl (gT G) (cZX G) (cW G) [.ref (gA G 0), .int v0] σ (x_Top_step σ v0) := by
  refine kx_in_b (q := x_Top_step σ v0) (by decide) rfl (Nat.le_of_ble_eq_true rfl) ?_
  intro p e s m args below meth c A ls hx hb hml hown hts hK hP hD hA hS hZ hl hr hlocks htab
  have hts := fun w h => hts w (List.mem_cons_of_mem _ h)
  have hl : lv_has ls 5 [(0, .ref (gA G 0)), (1, .int v0)] := hl
  have hf : x_Top_step σ v0 = x_Top_step σ v0 := rfl
  have J26 : ∀ (n : Nat), ∀ (n2_26 : Int32) (n3_26 : Int32) (τ_26 : CS) (H : Heap) (locs : List Loc) (ls : Array Slot), va_P (gD G) vwCl (cW G (τ_26)) H → va_D A (cW G (τ_26)) → va_S A s.heap H locs → lv_has ls 5 [(0, .ref (gA G 0)), (1, .int v0), (2, .int n2_26), (3, .int n3_26)] → x_Top_step σ v0 = x_Top_step_26 σ v0 n n2_26 n3_26 τ_26 → lpV v0 n n3_26 → W p l e (krx 8) s m args below meth c H locs 0 0 (vx_MQ below (kx_Pi (gD G) vwCl (gT G) (cW G) (x_Top_step σ v0) A) (kx_X (gD G) vwCl (gT G) (cW G) σ (x_Top_step σ v0).1 A) args s 1 6 A) (F0 m 26 ls []) := by
    intro n
    induction n with
    | zero =>
      intro n2_26 n3_26 τ_26 H locs ls hP hD hS hl hf hinv
      exact absurd hinv lpV_0
    | succ n ih =>
      intro n2_26 n3_26 τ_26 H locs ls hP hD hS hl hf hinv
      refine lv_iload_n hx hb dX10_step_26 rfl (lv_at hl 3 rfl) ?_
      refine lv_iload_n hx hb dX10_step_27 rfl (lv_at hl 1 rfl) ?_
      refine lv_icmp_ge (tgt := 64) hx hb dX10_step_28 (by decide) (fun h_5 => ?_) (fun h_5 => ?_)
      · have hf := hf.trans (if_pos h_5)
        refine lv_iload_n hx hb dX10_step_64 rfl (lv_at hl 2 rfl) ?_
        exact kx_ret_b hx hb hr hlocks hK (by decide) (by decide) n2_26 τ_26 hf hP hD hS dX10_step_65
      · have hf := hf.trans (if_neg h_5)
        refine lv_aload_n hx hb dX10_step_31 rfl (lv_at hl 0 rfl) ?_
        refine va_get (D := gD G) (ci := 8) hx hb hts ku_10 hown hK hP 0 rfl rfl 2 (by decide) (hts _ kw_24) (fun _ h9 => h9) rfl dX10_step_32 ?_
        refine kc_Vb (rest := []) (cx_Processor_advance l G τ_26) ⟨hx, hb, hml, hown, hts⟩ (cwV 0 hts (gi_V kw_308 kw_309 kw_310 kw_23 kw_311) rfl rfl rfl ⟨rfl, mdX5_advance⟩ ⟨by decide, by decide⟩) (va_recv hK hP (ci := 3) (q0 := 6) rfl rfl) cZ_ok hK hP hD hS hA hZ.1 rfl hl.1 rfl (Nat.le_of_ble_eq_true rfl) dX10_step_35 ⟨by decide, by decide⟩ (fun H locs hP hD hS => ?_)
        refine lv_istore (lv' := [(4, .int ((x_Processor_advance τ_26).1)), (0, .ref (gA G 0)), (1, .int v0), (2, .int n2_26), (3, .int n3_26)]) hx hb dX10_step_38 hl (by decide) rfl (fun ls hl => ?_)
        refine lv_iload hx hb dX10_step_40 (lv_at hl 0 rfl) ?_
        refine lv_iconst (v := (-1)) hx hb dX10_step_42 (by decide) ?_
        refine lv_icmp_eq (tgt := 58) hx hb dX10_step_43 (by decide) (fun h_6 => ?_) (fun h_6 => ?_)
        · have hf := hf.trans (if_pos h_6)
          refine lv_iinc (v := n3_26 + 1) (lv' := [(3, .int (n3_26 + 1)), (4, .int ((x_Processor_advance τ_26).1)), (0, .ref (gA G 0)), (1, .int v0), (2, .int n2_26)]) hx hb dX10_step_58 hl (k := 4) rfl rfl (by decide) rfl (fun ls hl => ?_)
          refine lv_goto (tgt := 26) hx hb dX10_step_61 (by decide) ?_
          exact ih n2_26 (n3_26 + 1) ((x_Processor_advance τ_26).2) _ _ _ hP hD hS (lv_sub hl [2, 3, 4, 0] rfl) hf (lpV_s hinv (by assumption))
        · have hf := hf.trans (if_neg h_6)
          refine lv_aload_n hx hb dX10_step_46 rfl (lv_at hl 1 rfl) ?_
          refine va_get (D := gD G) (ci := 8) hx hb hts ku_10 hown hK hP 0 rfl rfl 2 (by decide) (hts _ kw_24) (fun _ h9 => h9) rfl dX10_step_47 ?_
          refine lv_iload hx hb dX10_step_50 (lv_at hl 0 rfl) ?_
          refine kc_Vv (rest := []) (cx_Processor_take l G ((x_Processor_advance τ_26).2) ((x_Processor_advance τ_26).1)) ⟨hx, hb, hml, hown, hts⟩ (cwV 1 hts (gi_V kw_690 kw_691 kw_692 kw_23 kw_693) rfl rfl rfl ⟨rfl, mdX5_take⟩ ⟨by decide, by decide⟩) (va_recv hK hP (ci := 3) (q0 := 6) rfl rfl) cZ_ok hK hP hD hS hA hZ.1 rfl hl.1 rfl (Nat.le_of_ble_eq_true rfl) dX10_step_52 ⟨by decide, by decide⟩ (fun H locs hP hD hS => ?_)
          refine lv_iinc (v := n2_26 + 1) (lv' := [(2, .int (n2_26 + 1)), (4, .int ((x_Processor_advance τ_26).1)), (0, .ref (gA G 0)), (1, .int v0), (3, .int n3_26)]) hx hb dX10_step_55 hl (k := 3) rfl rfl (by decide) rfl (fun ls hl => ?_)
          refine lv_iinc (v := n3_26 + 1) (lv' := [(3, .int (n3_26 + 1)), (2, .int (n2_26 + 1)), (4, .int ((x_Processor_advance τ_26).1)), (0, .ref (gA G 0)), (1, .int v0)]) hx hb dX10_step_58 hl (k := 4) rfl rfl (by decide) rfl (fun ls hl => ?_)
          refine lv_goto (tgt := 26) hx hb dX10_step_61 (by decide) ?_
          exact ih (n2_26 + 1) (n3_26 + 1) (x_Processor_take ((x_Processor_advance τ_26).2) ((x_Processor_advance τ_26).1)) _ _ _ hP hD hS (lv_sub hl [3, 4, 1, 0] rfl) hf (lpV_s hinv (by assumption))
  refine lv_iload_n hx hb dX10_step_0 rfl (lv_at hl 1 rfl) ?_
  refine lv_iconst (v := 1) hx hb dX10_step_1 (by decide) ?_
  refine lv_icmp_lt (tgt := 12) hx hb dX10_step_2 (by decide) (fun h_7 => ?_) (fun h_7 => ?_)
  · have hf := hf.trans (if_pos h_7)
    exact kx_IA hl9 hx hb hml hown hts hK hP hD hS hZ hl.1 hlocks htab hZ.1.2.2.2.2.1 kw_127 kw_128 dX10_step_12 dX10_step_15 dX10_step_16 dX10_step_18 dX10_step_21 (by decide) (by decide) (by decide) (by decide) (by decide) (by decide) (congrArg (fun z => z.1) hf)
  · have hf := hf.trans (if_neg h_7)
    refine lv_iload_n hx hb dX10_step_5 rfl (lv_at hl 1 rfl) ?_
    refine lv_sipush (v := 20000) hx hb dX10_step_6 (by decide) ?_
    refine lv_icmp_le (tgt := 22) hx hb dX10_step_9 (by decide) (fun h_8 => ?_) (fun h_8 => ?_)
    · have hf := hf.trans (if_pos h_8)
      refine lv_iconst (v := 0) hx hb dX10_step_22 (by decide) ?_
      refine lv_istore_n (lv' := [(2, .int 0), (0, .ref (gA G 0)), (1, .int v0)]) hx hb dX10_step_23 rfl hl (by decide) rfl (fun ls hl => ?_)
      refine lv_iconst (v := 0) hx hb dX10_step_24 (by decide) ?_
      refine lv_istore_n (lv' := [(3, .int 0), (2, .int 0), (0, .ref (gA G 0)), (1, .int v0)]) hx hb dX10_step_25 rfl hl (by decide) rfl (fun ls hl => ?_)
      exact J26 20001 0 0 σ _ _ _ hP hD hS (lv_sub hl [2, 3, 1, 0] rfl) hf (lpV_start (st_in (by assumption) (by assumption)))
    · have hf := hf.trans (if_neg h_8)
      exact kx_IA hl9 hx hb hml hown hts hK hP hD hS hZ hl.1 hlocks htab hZ.1.2.2.2.2.1 kw_127 kw_128 dX10_step_12 dX10_step_15 dX10_step_16 dX10_step_18 dX10_step_21 (by decide) (by decide) (by decide) (by decide) (by decide) (by decide) (congrArg (fun z => z.1) hf)
def x_Top_count (σ : CS) (v0 : Int32) : Nat × Int32 × CS := (if v0 < 0 then (2, 0, σ) else (if v0 ≤ 7 then (if v0 = 7 then (0, x_Registers_cpsr σ, σ) else (if v0 = 6 then (0, x_Processor_steps σ, σ) else (0, x_Processor_faultsOf σ v0, σ))) else (2, 0, σ)))
set_option maxRecDepth 20000 in
set_option maxHeartbeats 4000000 in
theorem cx_Top_count (l : Launch) (hl9 : l.stackTraces = false) (G : KG) (σ : CS) (v0 : Int32) : KX l yX10_count (Cond.code yX10_count cX10_count 2 (some .int) :: lw_all) (krx 7) (gD G) vwCl (gT G) (cZX G) (cW G) [.ref (gA G 0), .int v0] σ (x_Top_count σ v0) := by
  refine kx_in_b (q := x_Top_count σ v0) (by decide) rfl (Nat.le_of_ble_eq_true rfl) ?_
  intro p e s m args below meth c A ls hx hb hml hown hts hK hP hD hA hS hZ hl hr hlocks htab
  have hts := fun w h => hts w (List.mem_cons_of_mem _ h)
  have hl : lv_has ls 2 [(0, .ref (gA G 0)), (1, .int v0)] := hl
  have hf : x_Top_count σ v0 = x_Top_count σ v0 := rfl
  refine lv_iload_n hx hb dX10_count_0 rfl (lv_at hl 1 rfl) ?_
  refine lv_if_lt (tgt := 10) hx hb dX10_count_1 (by decide) (fun h_5 => ?_) (fun h_5 => ?_)
  · have hf := hf.trans (if_pos h_5)
    exact kx_IO hl9 hx hb hml hown hts hK hP hD hS hZ hl.1 hlocks htab hZ.1.2.2.2.2.2.1 kw_129 kw_130 dX10_count_10 dX10_count_13 dX10_count_14 dX10_count_16 dX10_count_19 (by decide) (by decide) (by decide) (by decide) (by decide) (by decide) (congrArg (fun z => z.1) hf)
  · have hf := hf.trans (if_neg h_5)
    refine lv_iload_n hx hb dX10_count_4 rfl (lv_at hl 1 rfl) ?_
    refine lv_bipush (v := 7) hx hb dX10_count_5 (by decide) ?_
    refine lv_icmp_le (tgt := 20) hx hb dX10_count_7 (by decide) (fun h_6 => ?_) (fun h_6 => ?_)
    · have hf := hf.trans (if_pos h_6)
      refine lv_iload_n hx hb dX10_count_20 rfl (lv_at hl 1 rfl) ?_
      refine lv_bipush (v := 7) hx hb dX10_count_21 (by decide) ?_
      refine lv_icmp_ne (tgt := 34) hx hb dX10_count_23 (by decide) (fun h_7 => ?_) (fun h_7 => ?_)
      · have hf := hf.trans (if_neg h_7)
        refine lv_iload_n hx hb dX10_count_34 rfl (lv_at hl 1 rfl) ?_
        refine lv_bipush (v := 6) hx hb dX10_count_35 (by decide) ?_
        refine lv_icmp_ne (tgt := 50) hx hb dX10_count_37 (by decide) (fun h_8 => ?_) (fun h_8 => ?_)
        · have hf := hf.trans (if_neg h_8)
          refine lv_aload_n hx hb dX10_count_50 rfl (lv_at hl 0 rfl) ?_
          refine va_get (D := gD G) (ci := 8) hx hb hts ku_10 hown hK hP 0 rfl rfl 2 (by decide) (hts _ kw_24) (fun _ h9 => h9) rfl dX10_count_51 ?_
          refine lv_iload_n hx hb dX10_count_54 rfl (lv_at hl 1 rfl) ?_
          refine kc_Vr (rest := []) (cx_Processor_faultsOf l G σ v0) ⟨hx, hb, hml, hown, hts⟩ (cwV 1 hts (gi_V kw_959 kw_960 kw_961 kw_23 kw_962) rfl rfl rfl ⟨rfl, mdX5_faultsOf⟩ ⟨by decide, by decide⟩) (va_recv hK hP (ci := 3) (q0 := 6) rfl rfl) cZ_ok hK hP hD hS hA hZ.1 rfl hl.1 rfl (Nat.le_of_ble_eq_true rfl) dX10_count_55 ⟨by decide, by decide⟩ (fun H locs hP hD hS => ?_)
          exact kx_ret_b hx hb hr hlocks hK (by decide) (by decide) (x_Processor_faultsOf σ v0) σ hf hP hD hS dX10_count_58
        · have hf := hf.trans (if_pos h_8)
          refine lv_aload_n hx hb dX10_count_40 rfl (lv_at hl 0 rfl) ?_
          refine va_get (D := gD G) (ci := 8) hx hb hts ku_10 hown hK hP 0 rfl rfl 2 (by decide) (hts _ kw_24) (fun _ h9 => h9) rfl dX10_count_41 ?_
          refine kc_Vr (rest := []) (cx_Processor_steps l G σ) ⟨hx, hb, hml, hown, hts⟩ (cwV 0 hts (gi_V kw_955 kw_956 kw_957 kw_23 kw_958) rfl rfl rfl ⟨rfl, mdX5_steps⟩ ⟨by decide, by decide⟩) (va_recv hK hP (ci := 3) (q0 := 6) rfl rfl) cZ_ok hK hP hD hS hA hZ.1 rfl hl.1 rfl (Nat.le_of_ble_eq_true rfl) dX10_count_44 ⟨by decide, by decide⟩ (fun H locs hP hD hS => ?_)
          refine lv_goto (tgt := 58) hx hb dX10_count_47 (by decide) ?_
          exact kx_ret_b hx hb hr hlocks hK (by decide) (by decide) (x_Processor_steps σ) σ hf hP hD hS dX10_count_58
      · have hf := hf.trans (if_pos h_7)
        refine lv_aload_n hx hb dX10_count_26 rfl (lv_at hl 0 rfl) ?_
        refine va_get (D := gD G) (ci := 8) hx hb hts ku_10 hown hK hP 0 rfl rfl 1 (by decide) (hts _ kw_20) (fun _ h9 => h9) rfl dX10_count_27 ?_
        refine kc_Vr (rest := []) (cx_Registers_cpsr l G σ) ⟨hx, hb, hml, hown, hts⟩ (cwV 0 hts (gi_V kw_236 kw_237 kw_238 kw_19 kw_239) rfl rfl rfl ⟨rfl, mdX6_cpsr⟩ ⟨by decide, by decide⟩) (va_recv hK hP (ci := 4) (q0 := 3) rfl rfl) cZ_ok hK hP hD hS hA hZ.1 rfl hl.1 rfl (Nat.le_of_ble_eq_true rfl) dX10_count_30 ⟨by decide, by decide⟩ (fun H locs hP hD hS => ?_)
        exact kx_ret_b hx hb hr hlocks hK (by decide) (by decide) (x_Registers_cpsr σ) σ hf hP hD hS dX10_count_33
    · have hf := hf.trans (if_neg h_6)
      exact kx_IO hl9 hx hb hml hown hts hK hP hD hS hZ hl.1 hlocks htab hZ.1.2.2.2.2.2.1 kw_129 kw_130 dX10_count_10 dX10_count_13 dX10_count_14 dX10_count_16 dX10_count_19 (by decide) (by decide) (by decide) (by decide) (by decide) (by decide) (congrArg (fun z => z.1) hf)
