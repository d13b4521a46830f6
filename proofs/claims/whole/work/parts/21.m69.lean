theorem m_fault_in2 {τ : MS} (h : 0 ≤ m_fault τ) : vp_in (m_fault τ) 6 := m_fault_in (Int32.not_lt.mpr h)
def y_Model_go_182 (σ : MS) (τ_182 : MS) : Bool × MS := (if 0 ≤ (m_fault τ_182) then (if 2 ≤ (m_fault τ_182) then (if (m_fault τ_182) = 2 then (true, y_Model_enter τ_182 (m_fault τ_182) ((m_here τ_182) + 4)) else (true, y_Model_enter τ_182 (m_fault τ_182) ((m_here τ_182) + 8))) else (true, y_Model_enter τ_182 (m_fault τ_182) ((m_here τ_182) + (m_length τ_182)))) else (if (m_jumps τ_182) = true then (false, τ_182) else (false, t_r τ_182 (upd (m_r τ_182) (15 : Int32).toNatClampNeg ((m_here τ_182) + (m_length τ_182))))))
def y_Model_go_97 (σ : MS) (k0_97 : Int32) : Bool × MS := (if (y_Model_isThere (m_here (t_jumps (t_fault (t_here (t_length (t_steps σ ((m_steps σ) + 1)) k0_97) ((m_r (t_length (t_steps σ ((m_steps σ) + 1)) k0_97) (15 : Int32).toNatClampNeg) &&& (-(m_length (t_length (t_steps σ ((m_steps σ) + 1)) k0_97))))) (-1)) false))) = true then (if (y_Model_isThumb (t_jumps (t_fault (t_here (t_length (t_steps σ ((m_steps σ) + 1)) k0_97) ((m_r (t_length (t_steps σ ((m_steps σ) + 1)) k0_97) (15 : Int32).toNatClampNeg) &&& (-(m_length (t_length (t_steps σ ((m_steps σ) + 1)) k0_97))))) (-1)) false)) = true then y_Model_go_182 σ (y_Model_thumb (t_jumps (t_fault (t_here (t_length (t_steps σ ((m_steps σ) + 1)) k0_97) ((m_r (t_length (t_steps σ ((m_steps σ) + 1)) k0_97) (15 : Int32).toNatClampNeg) &&& (-(m_length (t_length (t_steps σ ((m_steps σ) + 1)) k0_97))))) (-1)) false) (y_Model_halfAt (t_jumps (t_fault (t_here (t_length (t_steps σ ((m_steps σ) + 1)) k0_97) ((m_r (t_length (t_steps σ ((m_steps σ) + 1)) k0_97) (15 : Int32).toNatClampNeg) &&& (-(m_length (t_length (t_steps σ ((m_steps σ) + 1)) k0_97))))) (-1)) false) (m_here (t_jumps (t_fault (t_here (t_length (t_steps σ ((m_steps σ) + 1)) k0_97) ((m_r (t_length (t_steps σ ((m_steps σ) + 1)) k0_97) (15 : Int32).toNatClampNeg) &&& (-(m_length (t_length (t_steps σ ((m_steps σ) + 1)) k0_97))))) (-1)) false)))) else y_Model_go_182 σ (y_Model_arm (t_jumps (t_fault (t_here (t_length (t_steps σ ((m_steps σ) + 1)) k0_97) ((m_r (t_length (t_steps σ ((m_steps σ) + 1)) k0_97) (15 : Int32).toNatClampNeg) &&& (-(m_length (t_length (t_steps σ ((m_steps σ) + 1)) k0_97))))) (-1)) false) (m_memory (t_jumps (t_fault (t_here (t_length (t_steps σ ((m_steps σ) + 1)) k0_97) ((m_r (t_length (t_steps σ ((m_steps σ) + 1)) k0_97) (15 : Int32).toNatClampNeg) &&& (-(m_length (t_length (t_steps σ ((m_steps σ) + 1)) k0_97))))) (-1)) false) ((m_here (t_jumps (t_fault (t_here (t_length (t_steps σ ((m_steps σ) + 1)) k0_97) ((m_r (t_length (t_steps σ ((m_steps σ) + 1)) k0_97) (15 : Int32).toNatClampNeg) &&& (-(m_length (t_length (t_steps σ ((m_steps σ) + 1)) k0_97))))) (-1)) false)) / 4).toNatClampNeg))) else y_Model_go_182 σ (t_fault (t_jumps (t_fault (t_here (t_length (t_steps σ ((m_steps σ) + 1)) k0_97) ((m_r (t_length (t_steps σ ((m_steps σ) + 1)) k0_97) (15 : Int32).toNatClampNeg) &&& (-(m_length (t_length (t_steps σ ((m_steps σ) + 1)) k0_97))))) (-1)) false) 2))
def y_Model_go_84 (σ : MS) : Bool × MS := (if (y_Model_isThumb (t_steps σ ((m_steps σ) + 1))) = true then y_Model_go_97 σ 2 else y_Model_go_97 σ 4)
def y_Model_go_70 (σ : MS) (k0_70 : Int32) : Bool × MS := (true, y_Model_enter (t_steps σ ((m_steps σ) + 1)) k0_70 ((m_r (t_steps σ ((m_steps σ) + 1)) (15 : Int32).toNatClampNeg) + 4))
def y_Model_go_69 (σ : MS) : Bool × MS := y_Model_go_70 σ 4
def y_Model_go_46 (σ : MS) : Bool × MS := (if (m_lines (t_steps σ ((m_steps σ) + 1)) (1 : Int32).toNatClampNeg) = true then (if (y_Model_is (t_steps σ ((m_steps σ) + 1)) 6) = true then y_Model_go_69 σ else y_Model_go_70 σ 5) else y_Model_go_69 σ)
def y_Model_go_28 (σ : MS) : Bool × MS := (if (m_lines (t_steps σ ((m_steps σ) + 1)) (0 : Int32).toNatClampNeg) = true then (if (y_Model_is (t_steps σ ((m_steps σ) + 1)) 7) = true then y_Model_go_84 σ else y_Model_go_46 σ) else y_Model_go_84 σ)
def y_Model_go (σ : MS) : Bool × MS := (if (m_lines (t_steps σ ((m_steps σ) + 1)) (1 : Int32).toNatClampNeg) = true then (if (y_Model_is (t_steps σ ((m_steps σ) + 1)) 6) = true then y_Model_go_28 σ else y_Model_go_46 σ) else y_Model_go_28 σ)
set_option maxRecDepth 20000 in
set_option maxHeartbeats 4000000 in
theorem cy_Model_go (l : Launch) (G : KG) (σ : MS) : KB l yX11_go (Cond.code yX11_go cX11_go 1 (some .boolean) :: lw_all) (kr 8) (gD G) vwCl (gT G) (mZ G) (mW G) [.ref (gA G 20)] σ (b01 (y_Model_go σ).1, (y_Model_go σ).2) := by
  refine kc_in_z (q := y_Model_go σ) (by decide) rfl (Nat.le_of_ble_eq_true rfl) ?_
  intro p e s m args below meth c A Q ls hx hb hml hown hts hK hP hD hA hS hZ hl hret
  have hts := fun w h => hts w (List.mem_cons_of_mem _ h)
  have hl : lv_has ls 1 [(0, .ref (gA G 20))] := hl
  have hf : y_Model_go σ = y_Model_go σ := rfl
  have J182 : ∀ (τ_182 : MS) (H : Heap) (locs : List Loc) (ls : Array Slot), va_P (gD G) vwCl (mW G (τ_182)) H → va_D A (mW G (τ_182)) → va_S A s.heap H locs → lv_has ls 1 [(0, .ref (gA G 20))] → y_Model_go σ = y_Model_go_182 σ τ_182 → W p l e (kr 8) s m args below meth c H locs 0 0 Q (F0 m 182 ls []) := by
    intro τ_182 H locs ls hP hD hS hl hf
    refine lv_aload_n hx hb dX11_go_182 rfl (lv_at hl 0 rfl) ?_
    refine va_get (D := gD G) (ci := 9) hx hb hts ku_11 hown hK hP 0 rfl rfl 10 (by decide) (hts _ kw_727) (fun _ h9 => h9) rfl dX11_go_183 ?_
    refine lv_if_ge (tgt := 214) hx hb dX11_go_186 (by decide) (fun h_14 => ?_) (fun h_14 => ?_)
    · have hf := hf.trans (if_pos h_14)
      refine lv_aload_n hx hb dX11_go_214 rfl (lv_at hl 0 rfl) ?_
      refine lv_aload_n hx hb dX11_go_215 rfl (lv_at hl 0 rfl) ?_
      refine va_get (D := gD G) (ci := 9) hx hb hts ku_11 hown hK hP 0 rfl rfl 10 (by decide) (hts _ kw_727) (fun _ h9 => h9) rfl dX11_go_216 ?_
      refine lv_aload_n hx hb dX11_go_219 rfl (lv_at hl 0 rfl) ?_
      refine va_get (D := gD G) (ci := 9) hx hb hts ku_11 hown hK hP 0 rfl rfl 10 (by decide) (hts _ kw_727) (fun _ h9 => h9) rfl dX11_go_220 ?_
      refine lv_iconst (v := 2) hx hb dX11_go_223 (by decide) ?_
      refine lv_icmp_ge (tgt := 239) hx hb dX11_go_224 (by decide) (fun h_15 => ?_) (fun h_15 => ?_)
      · have hf := hf.trans (if_pos h_15)
        refine lv_aload_n hx hb dX11_go_239 rfl (lv_at hl 0 rfl) ?_
        refine va_get (D := gD G) (ci := 9) hx hb hts ku_11 hown hK hP 0 rfl rfl 10 (by decide) (hts _ kw_727) (fun _ h9 => h9) rfl dX11_go_240 ?_
        refine lv_iconst (v := 2) hx hb dX11_go_243 (by decide) ?_
        refine lv_icmp_ne (tgt := 256) hx hb dX11_go_244 (by decide) (fun h_16 => ?_) (fun h_16 => ?_)
        · have hf := hf.trans (if_neg h_16)
          refine lv_aload_n hx hb dX11_go_256 rfl (lv_at hl 0 rfl) ?_
          refine va_get (D := gD G) (ci := 9) hx hb hts ku_11 hown hK hP 0 rfl rfl 8 (by decide) (hts _ kw_726) (fun _ h9 => h9) rfl dX11_go_257 ?_
          refine lv_bipush (v := 8) hx hb dX11_go_260 (by decide) ?_
          refine lv_iadd hx hb dX11_go_262 ?_
          refine kc_Vv (rest := []) (cy_Model_enter l G τ_182 (m_fault τ_182) ((m_here τ_182) + 8) (m_fault_in2 (by assumption))) ⟨hx, hb, hml, hown, hts⟩ (cwV 2 hts (gi_V kw_733 kw_734 kw_735 kw_5 kw_736) rfl rfl rfl ⟨rfl, mdX11_enter⟩ ⟨by decide, by decide⟩) (va_recv hK hP (ci := 9) (q0 := 0) rfl rfl) mZ_ok hK hP hD hS hA hZ rfl hl.1 rfl (Nat.le_of_ble_eq_true rfl) dX11_go_263 ⟨Nat.zero_le _, Nat.zero_le _⟩ (fun H locs hP hD hS => ?_)
          refine lv_iconst (v := 1) hx hb dX11_go_266 (by decide) ?_
          exact hret true (y_Model_enter τ_182 (m_fault τ_182) ((m_here τ_182) + 8)) _ _ _ _ hf hP hD hS dX11_go_267
        · have hf := hf.trans (if_pos h_16)
          refine lv_aload_n hx hb dX11_go_247 rfl (lv_at hl 0 rfl) ?_
          refine va_get (D := gD G) (ci := 9) hx hb hts ku_11 hown hK hP 0 rfl rfl 8 (by decide) (hts _ kw_726) (fun _ h9 => h9) rfl dX11_go_248 ?_
          refine lv_iconst (v := 4) hx hb dX11_go_251 (by decide) ?_
          refine lv_iadd hx hb dX11_go_252 ?_
          refine lv_goto (tgt := 263) hx hb dX11_go_253 (by decide) ?_
          refine kc_Vv (rest := []) (cy_Model_enter l G τ_182 (m_fault τ_182) ((m_here τ_182) + 4) (m_fault_in2 (by assumption))) ⟨hx, hb, hml, hown, hts⟩ (cwV 2 hts (gi_V kw_733 kw_734 kw_735 kw_5 kw_736) rfl rfl rfl ⟨rfl, mdX11_enter⟩ ⟨by decide, by decide⟩) (va_recv hK hP (ci := 9) (q0 := 0) rfl rfl) mZ_ok hK hP hD hS hA hZ rfl hl.1 rfl (Nat.le_of_ble_eq_true rfl) dX11_go_263 ⟨Nat.zero_le _, Nat.zero_le _⟩ (fun H locs hP hD hS => ?_)
          refine lv_iconst (v := 1) hx hb dX11_go_266 (by decide) ?_
          exact hret true (y_Model_enter τ_182 (m_fault τ_182) ((m_here τ_182) + 4)) _ _ _ _ hf hP hD hS dX11_go_267
      · have hf := hf.trans (if_neg h_15)
        refine lv_aload_n hx hb dX11_go_227 rfl (lv_at hl 0 rfl) ?_
        refine va_get (D := gD G) (ci := 9) hx hb hts ku_11 hown hK hP 0 rfl rfl 8 (by decide) (hts _ kw_726) (fun _ h9 => h9) rfl dX11_go_228 ?_
        refine lv_aload_n hx hb dX11_go_231 rfl (lv_at hl 0 rfl) ?_
        refine va_get (D := gD G) (ci := 9) hx hb hts ku_11 hown hK hP 0 rfl rfl 9 (by decide) (hts _ kw_725) (fun _ h9 => h9) rfl dX11_go_232 ?_
        refine lv_iadd hx hb dX11_go_235 ?_
        refine lv_goto (tgt := 263) hx hb dX11_go_236 (by decide) ?_
        refine kc_Vv (rest := []) (cy_Model_enter l G τ_182 (m_fault τ_182) ((m_here τ_182) + (m_length τ_182)) (m_fault_in2 (by assumption))) ⟨hx, hb, hml, hown, hts⟩ (cwV 2 hts (gi_V kw_733 kw_734 kw_735 kw_5 kw_736) rfl rfl rfl ⟨rfl, mdX11_enter⟩ ⟨by decide, by decide⟩) (va_recv hK hP (ci := 9) (q0 := 0) rfl rfl) mZ_ok hK hP hD hS hA hZ rfl hl.1 rfl (Nat.le_of_ble_eq_true rfl) dX11_go_263 ⟨Nat.zero_le _, Nat.zero_le _⟩ (fun H locs hP hD hS => ?_)
        refine lv_iconst (v := 1) hx hb dX11_go_266 (by decide) ?_
        exact hret true (y_Model_enter τ_182 (m_fault τ_182) ((m_here τ_182) + (m_length τ_182))) _ _ _ _ hf hP hD hS dX11_go_267
    · have hf := hf.trans (if_neg h_14)
      refine lv_aload_n hx hb dX11_go_189 rfl (lv_at hl 0 rfl) ?_
      refine va_get (D := gD G) (ci := 9) hx hb hts ku_11 hown hK hP 0 rfl rfl 11 (by decide) (hts _ kw_728) (fun _ h9 => h9) rfl dX11_go_190 ?_
      refine kz_ne (tgt := 212) hx hb dX11_go_193 (by decide) (fun h_17 => ?_) (fun h_17 => ?_)
      · have hf := hf.trans (if_pos h_17)
        refine lv_iconst (v := 0) hx hb dX11_go_212 (by decide) ?_
        exact hret false τ_182 _ _ _ _ hf hP hD hS dX11_go_213
      · have hf := hf.trans (if_neg h_17)
        refine lv_aload_n hx hb dX11_go_196 rfl (lv_at hl 0 rfl) ?_
        refine va_get (D := gD G) (ci := 9) hx hb hts ku_11 hown hK hP 0 rfl rfl 2 (by decide) (hts _ kw_107) (fun _ h9 => h9) rfl dX11_go_197 ?_
        refine lv_bipush (v := 15) hx hb dX11_go_200 (by decide) ?_
        refine lv_aload_n hx hb dX11_go_202 rfl (lv_at hl 0 rfl) ?_
        refine va_get (D := gD G) (ci := 9) hx hb hts ku_11 hown hK hP 0 rfl rfl 8 (by decide) (hts _ kw_726) (fun _ h9 => h9) rfl dX11_go_203 ?_
        refine lv_aload_n hx hb dX11_go_206 rfl (lv_at hl 0 rfl) ?_
        refine va_get (D := gD G) (ci := 9) hx hb hts ku_11 hown hK hP 0 rfl rfl 9 (by decide) (hts _ kw_725) (fun _ h9 => h9) rfl dX11_go_207 ?_
        refine lv_iadd hx hb dX11_go_210 ?_
        refine va_iast hx hb hK hP hD hS 2 0 rfl rfl (by unfold vp_in; decide) dX11_go_211 (fun H locs hP hD hS => ?_)
        have hP := kP_eq (mWs_r G τ_182 (upd (m_r τ_182) (15 : Int32).toNatClampNeg ((m_here τ_182) + (m_length τ_182)))) hP
        have hD := kD_eq (mWs_r G τ_182 (upd (m_r τ_182) (15 : Int32).toNatClampNeg ((m_here τ_182) + (m_length τ_182)))) hD
        refine lv_iconst (v := 0) hx hb dX11_go_212 (by decide) ?_
        exact hret false (t_r τ_182 (upd (m_r τ_182) (15 : Int32).toNatClampNeg ((m_here τ_182) + (m_length τ_182)))) _ _ _ _ hf hP hD hS dX11_go_213
  have J97 : ∀ (k0_97 : Int32) (H : Heap) (locs : List Loc) (ls : Array Slot), va_P (gD G) vwCl (mW G (t_steps σ ((m_steps σ) + 1))) H → va_D A (mW G (t_steps σ ((m_steps σ) + 1))) → va_S A s.heap H locs → lv_has ls 1 [(0, .ref (gA G 20))] → y_Model_go σ = y_Model_go_97 σ k0_97 → W p l e (kr 8) s m args below meth c H locs 0 0 Q (F0 m 97 ls [.int k0_97, .ref (gA G 20)]) := by
    intro k0_97 H locs ls hP hD hS hl hf
    refine va_put (D := gD G) (ci := 9) (v := .int k0_97) (ty := .int) hx hb hts ku_11 tyX11 tyX11_ok nmX11 hown hK hP hD hS 0 rfl rfl 9 (by decide) (hts _ kw_725) (fun _ h9 => h9) rfl (tyX11_ok 9 (by decide)) rfl rfl (Nat.le_of_ble_eq_true rfl) dX11_go_97 (fun H locs hP hD hS => ?_)
    have hP := kP_eq (mWs_length G (t_steps σ ((m_steps σ) + 1)) k0_97) hP
    have hD := kD_eq (mWs_length G (t_steps σ ((m_steps σ) + 1)) k0_97) hD
    refine lv_aload_n hx hb dX11_go_100 rfl (lv_at hl 0 rfl) ?_
    refine lv_aload_n hx hb dX11_go_101 rfl (lv_at hl 0 rfl) ?_
    refine va_get (D := gD G) (ci := 9) hx hb hts ku_11 hown hK hP 0 rfl rfl 2 (by decide) (hts _ kw_107) (fun _ h9 => h9) rfl dX11_go_102 ?_
    refine lv_bipush (v := 15) hx hb dX11_go_105 (by decide) ?_
    refine va_iald hx hb hK hP 2 0 rfl rfl (by unfold vp_in; decide) dX11_go_107 ?_
    refine lv_aload_n hx hb dX11_go_108 rfl (lv_at hl 0 rfl) ?_
    refine va_get (D := gD G) (ci := 9) hx hb hts ku_11 hown hK hP 0 rfl rfl 9 (by decide) (hts _ kw_725) (fun _ h9 => h9) rfl dX11_go_109 ?_
    refine lv_ineg hx hb dX11_go_112 ?_
    refine lv_iand hx hb dX11_go_113 ?_
    refine va_put (D := gD G) (ci := 9) (v := .int ((m_r (t_length (t_steps σ ((m_steps σ) + 1)) k0_97) (15 : Int32).toNatClampNeg) &&& (-(m_length (t_length (t_steps σ ((m_steps σ) + 1)) k0_97))))) (ty := .int) hx hb hts ku_11 tyX11 tyX11_ok nmX11 hown hK hP hD hS 0 rfl rfl 8 (by decide) (hts _ kw_726) (fun _ h9 => h9) rfl (tyX11_ok 8 (by decide)) rfl rfl (Nat.le_of_ble_eq_true rfl) dX11_go_114 (fun H locs hP hD hS => ?_)
    have hP := kP_eq (mWs_here G (t_length (t_steps σ ((m_steps σ) + 1)) k0_97) ((m_r (t_length (t_steps σ ((m_steps σ) + 1)) k0_97) (15 : Int32).toNatClampNeg) &&& (-(m_length (t_length (t_steps σ ((m_steps σ) + 1)) k0_97))))) hP
    have hD := kD_eq (mWs_here G (t_length (t_steps σ ((m_steps σ) + 1)) k0_97) ((m_r (t_length (t_steps σ ((m_steps σ) + 1)) k0_97) (15 : Int32).toNatClampNeg) &&& (-(m_length (t_length (t_steps σ ((m_steps σ) + 1)) k0_97))))) hD
    refine lv_aload_n hx hb dX11_go_117 rfl (lv_at hl 0 rfl) ?_
    refine lv_iconst (v := (-1)) hx hb dX11_go_118 (by decide) ?_
    refine kc_top (fixF_c (by decide)) ?_
    refine va_put (D := gD G) (ci := 9) (v := .int (fixF (-1))) (ty := .int) hx hb hts ku_11 tyX11 tyX11_ok nmX11 hown hK hP hD hS 0 rfl rfl 10 (by decide) (hts _ kw_727) (fun _ h9 => h9) rfl (tyX11_ok 10 (by decide)) rfl rfl (Nat.le_of_ble_eq_true rfl) dX11_go_119 (fun H locs hP hD hS => ?_)
    have hP := kP_eq (mWs_fault G (t_here (t_length (t_steps σ ((m_steps σ) + 1)) k0_97) ((m_r (t_length (t_steps σ ((m_steps σ) + 1)) k0_97) (15 : Int32).toNatClampNeg) &&& (-(m_length (t_length (t_steps σ ((m_steps σ) + 1)) k0_97))))) (-1)) hP
    have hD := kD_eq (mWs_fault G (t_here (t_length (t_steps σ ((m_steps σ) + 1)) k0_97) ((m_r (t_length (t_steps σ ((m_steps σ) + 1)) k0_97) (15 : Int32).toNatClampNeg) &&& (-(m_length (t_length (t_steps σ ((m_steps σ) + 1)) k0_97))))) (-1)) hD
    refine lv_aload_n hx hb dX11_go_122 rfl (lv_at hl 0 rfl) ?_
    refine lv_iconst (v := 0) hx hb dX11_go_123 (by decide) ?_
    refine va_put (D := gD G) (ci := 9) (v := .int (b01 false)) (ty := .boolean) hx hb hts ku_11 tyX11 tyX11_ok nmX11 hown hK hP hD hS 0 rfl rfl 11 (by decide) (hts _ kw_728) (fun _ h9 => h9) rfl (tyX11_ok 11 (by decide)) (b01_nar _) (b01_fit _) (Nat.le_of_ble_eq_true rfl) dX11_go_124 (fun H locs hP hD hS => ?_)
    have hP := kP_eq (mWs_jumps G (t_fault (t_here (t_length (t_steps σ ((m_steps σ) + 1)) k0_97) ((m_r (t_length (t_steps σ ((m_steps σ) + 1)) k0_97) (15 : Int32).toNatClampNeg) &&& (-(m_length (t_length (t_steps σ ((m_steps σ) + 1)) k0_97))))) (-1)) false) hP
    have hD := kD_eq (mWs_jumps G (t_fault (t_here (t_length (t_steps σ ((m_steps σ) + 1)) k0_97) ((m_r (t_length (t_steps σ ((m_steps σ) + 1)) k0_97) (15 : Int32).toNatClampNeg) &&& (-(m_length (t_length (t_steps σ ((m_steps σ) + 1)) k0_97))))) (-1)) false) hD
    refine lv_aload_n hx hb dX11_go_127 rfl (lv_at hl 0 rfl) ?_
    refine va_get (D := gD G) (ci := 9) hx hb hts ku_11 hown hK hP 0 rfl rfl 8 (by decide) (hts _ kw_726) (fun _ h9 => h9) rfl dX11_go_128 ?_
    refine kp_Si (rest := []) (cy_Model_isThere l (m_here (t_jumps (t_fault (t_here (t_length (t_steps σ ((m_steps σ) + 1)) k0_97) ((m_r (t_length (t_steps σ ((m_steps σ) + 1)) k0_97) (15 : Int32).toNatClampNeg) &&& (-(m_length (t_length (t_steps σ ((m_steps σ) + 1)) k0_97))))) (-1)) false))) ⟨hx, hb, hml, hown, hts⟩ (va_cwS 1 hts (gi_S kw_737 kw_738 kw_5 kw_739) rfl rfl rfl mdX11_isThere ⟨by decide, by decide⟩) rfl hl.1 rfl (Nat.le_of_ble_eq_true rfl) dX11_go_131 ⟨Nat.zero_le _, Nat.zero_le _⟩ ?_
    refine kz_ne (tgt := 145) hx hb dX11_go_134 (by decide) (fun h_18 => ?_) (fun h_18 => ?_)
    · have hf := hf.trans (if_pos h_18)
      refine lv_aload_n hx hb dX11_go_145 rfl (lv_at hl 0 rfl) ?_
      refine kc_Vr (rest := []) (cy_Model_isThumb l G (t_jumps (t_fault (t_here (t_length (t_steps σ ((m_steps σ) + 1)) k0_97) ((m_r (t_length (t_steps σ ((m_steps σ) + 1)) k0_97) (15 : Int32).toNatClampNeg) &&& (-(m_length (t_length (t_steps σ ((m_steps σ) + 1)) k0_97))))) (-1)) false)) ⟨hx, hb, hml, hown, hts⟩ (cwV 0 hts (gi_V kw_213 kw_214 kw_215 kw_5 kw_216) rfl rfl rfl ⟨rfl, mdX11_isThumb⟩ ⟨by decide, by decide⟩) (va_recv hK hP (ci := 9) (q0 := 0) rfl rfl) mZ_ok hK hP hD hS hA hZ rfl hl.1 rfl (Nat.le_of_ble_eq_true rfl) dX11_go_146 ⟨Nat.zero_le _, Nat.zero_le _⟩ (fun H locs hP hD hS => ?_)
      refine kz_eq (tgt := 167) hx hb dX11_go_149 (by decide) (fun h_19 => ?_) (fun h_19 => ?_)
      · have hf := hf.trans (if_neg h_19)
        refine lv_aload_n hx hb dX11_go_167 rfl (lv_at hl 0 rfl) ?_
        refine lv_aload_n hx hb dX11_go_168 rfl (lv_at hl 0 rfl) ?_
        refine va_get (D := gD G) (ci := 9) hx hb hts ku_11 hown hK hP 0 rfl rfl 1 (by decide) (hts _ kw_106) (fun _ h9 => h9) rfl dX11_go_169 ?_
        refine lv_aload_n hx hb dX11_go_172 rfl (lv_at hl 0 rfl) ?_
        refine va_get (D := gD G) (ci := 9) hx hb hts ku_11 hown hK hP 0 rfl rfl 8 (by decide) (hts _ kw_726) (fun _ h9 => h9) rfl dX11_go_173 ?_
        refine lv_iconst (v := 4) hx hb dX11_go_176 (by decide) ?_
        refine lv_idiv hx hb dX11_go_177 (by decide) ?_
        refine va_iald hx hb hK hP 1 0 rfl rfl (dv_in (th_in (by assumption))) dX11_go_178 ?_
        refine kc_Vv (rest := []) (cy_Model_arm l G (t_jumps (t_fault (t_here (t_length (t_steps σ ((m_steps σ) + 1)) k0_97) ((m_r (t_length (t_steps σ ((m_steps σ) + 1)) k0_97) (15 : Int32).toNatClampNeg) &&& (-(m_length (t_length (t_steps σ ((m_steps σ) + 1)) k0_97))))) (-1)) false) (m_memory (t_jumps (t_fault (t_here (t_length (t_steps σ ((m_steps σ) + 1)) k0_97) ((m_r (t_length (t_steps σ ((m_steps σ) + 1)) k0_97) (15 : Int32).toNatClampNeg) &&& (-(m_length (t_length (t_steps σ ((m_steps σ) + 1)) k0_97))))) (-1)) false) ((m_here (t_jumps (t_fault (t_here (t_length (t_steps σ ((m_steps σ) + 1)) k0_97) ((m_r (t_length (t_steps σ ((m_steps σ) + 1)) k0_97) (15 : Int32).toNatClampNeg) &&& (-(m_length (t_length (t_steps σ ((m_steps σ) + 1)) k0_97))))) (-1)) false)) / 4).toNatClampNeg)) ⟨hx, hb, hml, hown, hts⟩ (cwV 1 hts (gi_V kw_902 kw_903 kw_904 kw_5 kw_905) rfl rfl rfl ⟨rfl, mdX11_arm⟩ ⟨by decide, by decide⟩) (va_recv hK hP (ci := 9) (q0 := 0) rfl rfl) mZ_ok hK hP hD hS hA hZ rfl hl.1 rfl (Nat.le_of_ble_eq_true rfl) dX11_go_179 ⟨Nat.zero_le _, Nat.zero_le _⟩ (fun H locs hP hD hS => ?_)
        exact J182 (y_Model_arm (t_jumps (t_fault (t_here (t_length (t_steps σ ((m_steps σ) + 1)) k0_97) ((m_r (t_length (t_steps σ ((m_steps σ) + 1)) k0_97) (15 : Int32).toNatClampNeg) &&& (-(m_length (t_length (t_steps σ ((m_steps σ) + 1)) k0_97))))) (-1)) false) (m_memory (t_jumps (t_fault (t_here (t_length (t_steps σ ((m_steps σ) + 1)) k0_97) ((m_r (t_length (t_steps σ ((m_steps σ) + 1)) k0_97) (15 : Int32).toNatClampNeg) &&& (-(m_length (t_length (t_steps σ ((m_steps σ) + 1)) k0_97))))) (-1)) false) ((m_here (t_jumps (t_fault (t_here (t_length (t_steps σ ((m_steps σ) + 1)) k0_97) ((m_r (t_length (t_steps σ ((m_steps σ) + 1)) k0_97) (15 : Int32).toNatClampNeg) &&& (-(m_length (t_length (t_steps σ ((m_steps σ) + 1)) k0_97))))) (-1)) false)) / 4).toNatClampNeg)) _ _ _ hP hD hS (lv_sub hl [0] rfl) hf
      · have hf := hf.trans (if_pos h_19)
        refine lv_aload_n hx hb dX11_go_152 rfl (lv_at hl 0 rfl) ?_
        refine lv_aload_n hx hb dX11_go_153 rfl (lv_at hl 0 rfl) ?_
        refine lv_aload_n hx hb dX11_go_154 rfl (lv_at hl 0 rfl) ?_
        refine va_get (D := gD G) (ci := 9) hx hb hts ku_11 hown hK hP 0 rfl rfl 8 (by decide) (hts _ kw_726) (fun _ h9 => h9) rfl dX11_go_155 ?_
        refine kc_Vr (rest := [.ref (gA G 20)]) (cy_Model_halfAt l G (t_jumps (t_fault (t_here (t_length (t_steps σ ((m_steps σ) + 1)) k0_97) ((m_r (t_length (t_steps σ ((m_steps σ) + 1)) k0_97) (15 : Int32).toNatClampNeg) &&& (-(m_length (t_length (t_steps σ ((m_steps σ) + 1)) k0_97))))) (-1)) false) (m_here (t_jumps (t_fault (t_here (t_length (t_steps σ ((m_steps σ) + 1)) k0_97) ((m_r (t_length (t_steps σ ((m_steps σ) + 1)) k0_97) (15 : Int32).toNatClampNeg) &&& (-(m_length (t_length (t_steps σ ((m_steps σ) + 1)) k0_97))))) (-1)) false)) (th_in (by assumption))) ⟨hx, hb, hml, hown, hts⟩ (cwV 1 hts (gi_V kw_740 kw_741 kw_742 kw_5 kw_743) rfl rfl rfl ⟨rfl, mdX11_halfAt⟩ ⟨by decide, by decide⟩) (va_recv hK hP (ci := 9) (q0 := 0) rfl rfl) mZ_ok hK hP hD hS hA hZ rfl hl.1 rfl (Nat.le_of_ble_eq_true rfl) dX11_go_158 ⟨Nat.zero_le _, Nat.zero_le _⟩ (fun H locs hP hD hS => ?_)
        refine kc_Vv (rest := []) (cy_Model_thumb l G (t_jumps (t_fault (t_here (t_length (t_steps σ ((m_steps σ) + 1)) k0_97) ((m_r (t_length (t_steps σ ((m_steps σ) + 1)) k0_97) (15 : Int32).toNatClampNeg) &&& (-(m_length (t_length (t_steps σ ((m_steps σ) + 1)) k0_97))))) (-1)) false) (y_Model_halfAt (t_jumps (t_fault (t_here (t_length (t_steps σ ((m_steps σ) + 1)) k0_97) ((m_r (t_length (t_steps σ ((m_steps σ) + 1)) k0_97) (15 : Int32).toNatClampNeg) &&& (-(m_length (t_length (t_steps σ ((m_steps σ) + 1)) k0_97))))) (-1)) false) (m_here (t_jumps (t_fault (t_here (t_length (t_steps σ ((m_steps σ) + 1)) k0_97) ((m_r (t_length (t_steps σ ((m_steps σ) + 1)) k0_97) (15 : Int32).toNatClampNeg) &&& (-(m_length (t_length (t_steps σ ((m_steps σ) + 1)) k0_97))))) (-1)) false)))) ⟨hx, hb, hml, hown, hts⟩ (cwV 1 hts (gi_V kw_745 kw_746 kw_747 kw_5 kw_748) rfl rfl rfl ⟨rfl, mdX11_thumb⟩ ⟨by decide, by decide⟩) (va_recv hK hP (ci := 9) (q0 := 0) rfl rfl) mZ_ok hK hP hD hS hA hZ rfl hl.1 rfl (Nat.le_of_ble_eq_true rfl) dX11_go_161 ⟨Nat.zero_le _, Nat.zero_le _⟩ (fun H locs hP hD hS => ?_)
        refine lv_goto (tgt := 182) hx hb dX11_go_164 (by decide) ?_
        exact J182 (y_Model_thumb (t_jumps (t_fault (t_here (t_length (t_steps σ ((m_steps σ) + 1)) k0_97) ((m_r (t_length (t_steps σ ((m_steps σ) + 1)) k0_97) (15 : Int32).toNatClampNeg) &&& (-(m_length (t_length (t_steps σ ((m_steps σ) + 1)) k0_97))))) (-1)) false) (y_Model_halfAt (t_jumps (t_fault (t_here (t_length (t_steps σ ((m_steps σ) + 1)) k0_97) ((m_r (t_length (t_steps σ ((m_steps σ) + 1)) k0_97) (15 : Int32).toNatClampNeg) &&& (-(m_length (t_length (t_steps σ ((m_steps σ) + 1)) k0_97))))) (-1)) false) (m_here (t_jumps (t_fault (t_here (t_length (t_steps σ ((m_steps σ) + 1)) k0_97) ((m_r (t_length (t_steps σ ((m_steps σ) + 1)) k0_97) (15 : Int32).toNatClampNeg) &&& (-(m_length (t_length (t_steps σ ((m_steps σ) + 1)) k0_97))))) (-1)) false)))) _ _ _ hP hD hS (lv_sub hl [0] rfl) hf
    · have hf := hf.trans (if_neg h_18)
      refine lv_aload_n hx hb dX11_go_137 rfl (lv_at hl 0 rfl) ?_
      refine lv_iconst (v := 2) hx hb dX11_go_138 (by decide) ?_
      refine kc_top (fixF_c (by decide)) ?_
      refine va_put (D := gD G) (ci := 9) (v := .int (fixF 2)) (ty := .int) hx hb hts ku_11 tyX11 tyX11_ok nmX11 hown hK hP hD hS 0 rfl rfl 10 (by decide) (hts _ kw_727) (fun _ h9 => h9) rfl (tyX11_ok 10 (by decide)) rfl rfl (Nat.le_of_ble_eq_true rfl) dX11_go_139 (fun H locs hP hD hS => ?_)
      have hP := kP_eq (mWs_fault G (t_jumps (t_fault (t_here (t_length (t_steps σ ((m_steps σ) + 1)) k0_97) ((m_r (t_length (t_steps σ ((m_steps σ) + 1)) k0_97) (15 : Int32).toNatClampNeg) &&& (-(m_length (t_length (t_steps σ ((m_steps σ) + 1)) k0_97))))) (-1)) false) 2) hP
      have hD := kD_eq (mWs_fault G (t_jumps (t_fault (t_here (t_length (t_steps σ ((m_steps σ) + 1)) k0_97) ((m_r (t_length (t_steps σ ((m_steps σ) + 1)) k0_97) (15 : Int32).toNatClampNeg) &&& (-(m_length (t_length (t_steps σ ((m_steps σ) + 1)) k0_97))))) (-1)) false) 2) hD
      refine lv_goto (tgt := 182) hx hb dX11_go_142 (by decide) ?_
      exact J182 (t_fault (t_jumps (t_fault (t_here (t_length (t_steps σ ((m_steps σ) + 1)) k0_97) ((m_r (t_length (t_steps σ ((m_steps σ) + 1)) k0_97) (15 : Int32).toNatClampNeg) &&& (-(m_length (t_length (t_steps σ ((m_steps σ) + 1)) k0_97))))) (-1)) false) 2) _ _ _ hP hD hS (lv_sub hl [0] rfl) hf
  have J84 : ∀ (H : Heap) (locs : List Loc) (ls : Array Slot), va_P (gD G) vwCl (mW G (t_steps σ ((m_steps σ) + 1))) H → va_D A (mW G (t_steps σ ((m_steps σ) + 1))) → va_S A s.heap H locs → lv_has ls 1 [(0, .ref (gA G 20))] → y_Model_go σ = y_Model_go_84 σ → W p l e (kr 8) s m args below meth c H locs 0 0 Q (F0 m 84 ls []) := by
    intro H locs ls hP hD hS hl hf
    refine lv_aload_n hx hb dX11_go_84 rfl (lv_at hl 0 rfl) ?_
    refine lv_aload_n hx hb dX11_go_85 rfl (lv_at hl 0 rfl) ?_
    refine kc_Vr (rest := [.ref (gA G 20)]) (cy_Model_isThumb l G (t_steps σ ((m_steps σ) + 1))) ⟨hx, hb, hml, hown, hts⟩ (cwV 0 hts (gi_V kw_213 kw_214 kw_215 kw_5 kw_216) rfl rfl rfl ⟨rfl, mdX11_isThumb⟩ ⟨by decide, by decide⟩) (va_recv hK hP (ci := 9) (q0 := 0) rfl rfl) mZ_ok hK hP hD hS hA hZ rfl hl.1 rfl (Nat.le_of_ble_eq_true rfl) dX11_go_86 ⟨Nat.zero_le _, Nat.zero_le _⟩ (fun H locs hP hD hS => ?_)
    refine kz_eq (tgt := 96) hx hb dX11_go_89 (by decide) (fun h_20 => ?_) (fun h_20 => ?_)
    · have hf := hf.trans (if_neg h_20)
      refine lv_iconst (v := 4) hx hb dX11_go_96 (by decide) ?_
      exact J97 4 _ _ _ hP hD hS (lv_sub hl [0] rfl) hf
    · have hf := hf.trans (if_pos h_20)
      refine lv_iconst (v := 2) hx hb dX11_go_92 (by decide) ?_
      refine lv_goto (tgt := 97) hx hb dX11_go_93 (by decide) ?_
      exact J97 2 _ _ _ hP hD hS (lv_sub hl [0] rfl) hf
  have J70 : ∀ (k0_70 : Int32) (hk0_70 : vp_in k0_70 6) (H : Heap) (locs : List Loc) (ls : Array Slot), va_P (gD G) vwCl (mW G (t_steps σ ((m_steps σ) + 1))) H → va_D A (mW G (t_steps σ ((m_steps σ) + 1))) → va_S A s.heap H locs → lv_has ls 1 [(0, .ref (gA G 20))] → y_Model_go σ = y_Model_go_70 σ k0_70 → W p l e (kr 8) s m args below meth c H locs 0 0 Q (F0 m 70 ls [.int k0_70, .ref (gA G 20)]) := by
    intro k0_70 hk0_70 H locs ls hP hD hS hl hf
    refine lv_aload_n hx hb dX11_go_70 rfl (lv_at hl 0 rfl) ?_
    refine va_get (D := gD G) (ci := 9) hx hb hts ku_11 hown hK hP 0 rfl rfl 2 (by decide) (hts _ kw_107) (fun _ h9 => h9) rfl dX11_go_71 ?_
    refine lv_bipush (v := 15) hx hb dX11_go_74 (by decide) ?_
    refine va_iald hx hb hK hP 2 0 rfl rfl (by unfold vp_in; decide) dX11_go_76 ?_
    refine lv_iconst (v := 4) hx hb dX11_go_77 (by decide) ?_
    refine lv_iadd hx hb dX11_go_78 ?_
    refine kc_Vv (rest := []) (cy_Model_enter l G (t_steps σ ((m_steps σ) + 1)) k0_70 ((m_r (t_steps σ ((m_steps σ) + 1)) (15 : Int32).toNatClampNeg) + 4) hk0_70) ⟨hx, hb, hml, hown, hts⟩ (cwV 2 hts (gi_V kw_733 kw_734 kw_735 kw_5 kw_736) rfl rfl rfl ⟨rfl, mdX11_enter⟩ ⟨by decide, by decide⟩) (va_recv hK hP (ci := 9) (q0 := 0) rfl rfl) mZ_ok hK hP hD hS hA hZ rfl hl.1 rfl (Nat.le_of_ble_eq_true rfl) dX11_go_79 ⟨Nat.zero_le _, Nat.zero_le _⟩ (fun H locs hP hD hS => ?_)
    refine lv_iconst (v := 1) hx hb dX11_go_82 (by decide) ?_
    exact hret true (y_Model_enter (t_steps σ ((m_steps σ) + 1)) k0_70 ((m_r (t_steps σ ((m_steps σ) + 1)) (15 : Int32).toNatClampNeg) + 4)) _ _ _ _ hf hP hD hS dX11_go_83
  have J69 : ∀ (H : Heap) (locs : List Loc) (ls : Array Slot), va_P (gD G) vwCl (mW G (t_steps σ ((m_steps σ) + 1))) H → va_D A (mW G (t_steps σ ((m_steps σ) + 1))) → va_S A s.heap H locs → lv_has ls 1 [(0, .ref (gA G 20))] → y_Model_go σ = y_Model_go_69 σ → W p l e (kr 8) s m args below meth c H locs 0 0 Q (F0 m 69 ls [.ref (gA G 20)]) := by
    intro H locs ls hP hD hS hl hf
    refine lv_iconst (v := 4) hx hb dX11_go_69 (by decide) ?_
    exact J70 4 (by unfold vp_in; decide) _ _ _ hP hD hS (lv_sub hl [0] rfl) hf
  have J46 : ∀ (H : Heap) (locs : List Loc) (ls : Array Slot), va_P (gD G) vwCl (mW G (t_steps σ ((m_steps σ) + 1))) H → va_D A (mW G (t_steps σ ((m_steps σ) + 1))) → va_S A s.heap H locs → lv_has ls 1 [(0, .ref (gA G 20))] → y_Model_go σ = y_Model_go_46 σ → W p l e (kr 8) s m args below meth c H locs 0 0 Q (F0 m 46 ls []) := by
    intro H locs ls hP hD hS hl hf
    refine lv_aload_n hx hb dX11_go_46 rfl (lv_at hl 0 rfl) ?_
    refine lv_aload_n hx hb dX11_go_47 rfl (lv_at hl 0 rfl) ?_
    refine va_get (D := gD G) (ci := 9) hx hb hts ku_11 hown hK hP 0 rfl rfl 5 (by decide) (hts _ kw_111) (fun _ h9 => h9) rfl dX11_go_48 ?_
    refine lv_iconst (v := 1) hx hb dX11_go_51 (by decide) ?_
    refine kc_zald hx hb hK hP 4 1 rfl rfl (by unfold vp_in; decide) dX11_go_52 ?_
    refine kz_eq (tgt := 69) hx hb dX11_go_53 (by decide) (fun h_21 => ?_) (fun h_21 => ?_)
    · have hf := hf.trans (if_neg h_21)
      exact J69 _ _ _ hP hD hS (lv_sub hl [0] rfl) hf
    · have hf := hf.trans (if_pos h_21)
      refine lv_aload_n hx hb dX11_go_56 rfl (lv_at hl 0 rfl) ?_
      refine lv_bipush (v := 6) hx hb dX11_go_57 (by decide) ?_
      refine kc_Vr (rest := [.ref (gA G 20)]) (cy_Model_is l G (t_steps σ ((m_steps σ) + 1)) 6) ⟨hx, hb, hml, hown, hts⟩ (cwV 1 hts (gi_V kw_729 kw_730 kw_731 kw_5 kw_732) rfl rfl rfl ⟨rfl, mdX11_is⟩ ⟨by decide, by decide⟩) (va_recv hK hP (ci := 9) (q0 := 0) rfl rfl) mZ_ok hK hP hD hS hA hZ rfl hl.1 rfl (Nat.le_of_ble_eq_true rfl) dX11_go_59 ⟨Nat.zero_le _, Nat.zero_le _⟩ (fun H locs hP hD hS => ?_)
      refine kz_ne (tgt := 69) hx hb dX11_go_62 (by decide) (fun h_22 => ?_) (fun h_22 => ?_)
      · have hf := hf.trans (if_pos h_22)
        exact J69 _ _ _ hP hD hS (lv_sub hl [0] rfl) hf
      · have hf := hf.trans (if_neg h_22)
        refine lv_iconst (v := 5) hx hb dX11_go_65 (by decide) ?_
        refine lv_goto (tgt := 70) hx hb dX11_go_66 (by decide) ?_
        exact J70 5 (by unfold vp_in; decide) _ _ _ hP hD hS (lv_sub hl [0] rfl) hf
  have J28 : ∀ (H : Heap) (locs : List Loc) (ls : Array Slot), va_P (gD G) vwCl (mW G (t_steps σ ((m_steps σ) + 1))) H → va_D A (mW G (t_steps σ ((m_steps σ) + 1))) → va_S A s.heap H locs → lv_has ls 1 [(0, .ref (gA G 20))] → y_Model_go σ = y_Model_go_28 σ → W p l e (kr 8) s m args below meth c H locs 0 0 Q (F0 m 28 ls []) := by
    intro H locs ls hP hD hS hl hf
    refine lv_aload_n hx hb dX11_go_28 rfl (lv_at hl 0 rfl) ?_
    refine va_get (D := gD G) (ci := 9) hx hb hts ku_11 hown hK hP 0 rfl rfl 5 (by decide) (hts _ kw_111) (fun _ h9 => h9) rfl dX11_go_29 ?_
    refine lv_iconst (v := 0) hx hb dX11_go_32 (by decide) ?_
    refine kc_zald hx hb hK hP 4 1 rfl rfl (by unfold vp_in; decide) dX11_go_33 ?_
    refine kz_eq (tgt := 84) hx hb dX11_go_34 (by decide) (fun h_23 => ?_) (fun h_23 => ?_)
    · have hf := hf.trans (if_neg h_23)
      exact J84 _ _ _ hP hD hS (lv_sub hl [0] rfl) hf
    · have hf := hf.trans (if_pos h_23)
      refine lv_aload_n hx hb dX11_go_37 rfl (lv_at hl 0 rfl) ?_
      refine lv_bipush (v := 7) hx hb dX11_go_38 (by decide) ?_
      refine kc_Vr (rest := []) (cy_Model_is l G (t_steps σ ((m_steps σ) + 1)) 7) ⟨hx, hb, hml, hown, hts⟩ (cwV 1 hts (gi_V kw_729 kw_730 kw_731 kw_5 kw_732) rfl rfl rfl ⟨rfl, mdX11_is⟩ ⟨by decide, by decide⟩) (va_recv hK hP (ci := 9) (q0 := 0) rfl rfl) mZ_ok hK hP hD hS hA hZ rfl hl.1 rfl (Nat.le_of_ble_eq_true rfl) dX11_go_40 ⟨Nat.zero_le _, Nat.zero_le _⟩ (fun H locs hP hD hS => ?_)
      refine kz_ne (tgt := 84) hx hb dX11_go_43 (by decide) (fun h_24 => ?_) (fun h_24 => ?_)
      · have hf := hf.trans (if_pos h_24)
        exact J84 _ _ _ hP hD hS (lv_sub hl [0] rfl) hf
      · have hf := hf.trans (if_neg h_24)
        exact J46 _ _ _ hP hD hS (lv_sub hl [0] rfl) hf
  refine lv_aload_n hx hb dX11_go_0 rfl (lv_at hl 0 rfl) ?_
  refine lv_dup hx hb dX11_go_1 rfl ?_
  refine va_get (D := gD G) (ci := 9) hx hb hts ku_11 hown hK hP 0 rfl rfl 6 (by decide) (hts _ kw_724) (fun _ h9 => h9) rfl dX11_go_2 ?_
  refine lv_iconst (v := 1) hx hb dX11_go_5 (by decide) ?_
  refine lv_iadd hx hb dX11_go_6 ?_
  refine va_put (D := gD G) (ci := 9) (v := .int ((m_steps σ) + 1)) (ty := .int) hx hb hts ku_11 tyX11 tyX11_ok nmX11 hown hK hP hD hS 0 rfl rfl 6 (by decide) (hts _ kw_724) (fun _ h9 => h9) rfl (tyX11_ok 6 (by decide)) rfl rfl (Nat.le_of_ble_eq_true rfl) dX11_go_7 (fun H locs hP hD hS => ?_)
  have hP := kP_eq (mWs_steps G σ ((m_steps σ) + 1)) hP
  have hD := kD_eq (mWs_steps G σ ((m_steps σ) + 1)) hD
  refine lv_aload_n hx hb dX11_go_10 rfl (lv_at hl 0 rfl) ?_
  refine va_get (D := gD G) (ci := 9) hx hb hts ku_11 hown hK hP 0 rfl rfl 5 (by decide) (hts _ kw_111) (fun _ h9 => h9) rfl dX11_go_11 ?_
  refine lv_iconst (v := 1) hx hb dX11_go_14 (by decide) ?_
  refine kc_zald hx hb hK hP 4 1 rfl rfl (by unfold vp_in; decide) dX11_go_15 ?_
  refine kz_eq (tgt := 28) hx hb dX11_go_16 (by decide) (fun h_25 => ?_) (fun h_25 => ?_)
  · have hf := hf.trans (if_neg h_25)
    exact J28 _ _ _ hP hD hS (lv_sub hl [0] rfl) hf
  · have hf := hf.trans (if_pos h_25)
    refine lv_aload_n hx hb dX11_go_19 rfl (lv_at hl 0 rfl) ?_
    refine lv_bipush (v := 6) hx hb dX11_go_20 (by decide) ?_
    refine kc_Vr (rest := []) (cy_Model_is l G (t_steps σ ((m_steps σ) + 1)) 6) ⟨hx, hb, hml, hown, hts⟩ (cwV 1 hts (gi_V kw_729 kw_730 kw_731 kw_5 kw_732) rfl rfl rfl ⟨rfl, mdX11_is⟩ ⟨by decide, by decide⟩) (va_recv hK hP (ci := 9) (q0 := 0) rfl rfl) mZ_ok hK hP hD hS hA hZ rfl hl.1 rfl (Nat.le_of_ble_eq_true rfl) dX11_go_22 ⟨Nat.zero_le _, Nat.zero_le _⟩ (fun H locs hP hD hS => ?_)
    refine kz_eq (tgt := 46) hx hb dX11_go_25 (by decide) (fun h_26 => ?_) (fun h_26 => ?_)
    · have hf := hf.trans (if_neg h_26)
      exact J46 _ _ _ hP hD hS (lv_sub hl [0] rfl) hf
    · have hf := hf.trans (if_pos h_26)
      exact J28 _ _ _ hP hD hS (lv_sub hl [0] rfl) hf
