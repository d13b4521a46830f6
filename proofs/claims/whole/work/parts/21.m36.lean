def y_Model_finish_44 (σ : MS) (v0 : Int32) (v1 : Int32) (v2 : Int32) (v3 : Int32) (v4 : Bool) (τ_44 : MS) : MS := (if v0 < 8 then y_Model_put τ_44 v1 ((y_Model_operate σ v0 v2 v3).1) else (if v0 ≤ 11 then τ_44 else y_Model_put τ_44 v1 ((y_Model_operate σ v0 v2 v3).1)))
def y_Model_finish (σ : MS) (v0 : Int32) (v1 : Int32) (v2 : Int32) (v3 : Int32) (v4 : Bool) : MS := (if v4 = true then (if (y_Model_isSum v0) = true then y_Model_finish_44 σ v0 v1 v2 v3 v4 (y_Model_setOver (y_Model_setCarry (y_Model_setFlags ((y_Model_operate σ v0 v2 v3).2) ((y_Model_operate σ v0 v2 v3).1)) (m_carry (y_Model_setFlags ((y_Model_operate σ v0 v2 v3).2) ((y_Model_operate σ v0 v2 v3).1)))) (m_over (y_Model_setCarry (y_Model_setFlags ((y_Model_operate σ v0 v2 v3).2) ((y_Model_operate σ v0 v2 v3).1)) (m_carry (y_Model_setFlags ((y_Model_operate σ v0 v2 v3).2) ((y_Model_operate σ v0 v2 v3).1)))))) else y_Model_finish_44 σ v0 v1 v2 v3 v4 (y_Model_setCarry (y_Model_setFlags ((y_Model_operate σ v0 v2 v3).2) ((y_Model_operate σ v0 v2 v3).1)) (m_carry (y_Model_setFlags ((y_Model_operate σ v0 v2 v3).2) ((y_Model_operate σ v0 v2 v3).1))))) else y_Model_finish_44 σ v0 v1 v2 v3 v4 ((y_Model_operate σ v0 v2 v3).2))
set_option maxRecDepth 20000 in
set_option maxHeartbeats 4000000 in
theorem cy_Model_finish (l : Launch) (G : KG) (σ : MS) (v0 : Int32) (v1 : Int32) (v2 : Int32) (v3 : Int32) (v4 : Bool) (hv1 : vp_in v1 16) : KV l yX11_finish (Cond.code yX11_finish cX11_finish 7 none :: lw_all) (kr 3) (gD G) vwCl (gT G) (mZ G) (mW G) [.ref (gA G 20), .int v0, .int v1, .int v2, .int v3, .int (b01 v4)] σ (y_Model_finish σ v0 v1 v2 v3 v4) := by
  refine kc_in_v (q := y_Model_finish σ v0 v1 v2 v3 v4) (by decide) rfl (Nat.le_of_ble_eq_true rfl) ?_
  intro p e s m args below meth c A Q ls hx hb hml hown hts hK hP hD hA hS hZ hl hret
  have hts := fun w h => hts w (List.mem_cons_of_mem _ h)
  have hl : lv_has ls 7 [(0, .ref (gA G 20)), (1, .int v0), (2, .int v1), (3, .int v2), (4, .int v3), (5, .int (b01 v4))] := hl
  have hf : y_Model_finish σ v0 v1 v2 v3 v4 = y_Model_finish σ v0 v1 v2 v3 v4 := rfl
  have J44 : ∀ (τ_44 : MS) (H : Heap) (locs : List Loc) (ls : Array Slot), va_P (gD G) vwCl (mW G (τ_44)) H → va_D A (mW G (τ_44)) → va_S A s.heap H locs → lv_has ls 7 [(0, .ref (gA G 20)), (1, .int v0), (2, .int v1), (6, .int ((y_Model_operate σ v0 v2 v3).1))] → y_Model_finish σ v0 v1 v2 v3 v4 = y_Model_finish_44 σ v0 v1 v2 v3 v4 τ_44 → W p l e (kr 3) s m args below meth c H locs 0 0 Q (F0 m 44 ls []) := by
    intro τ_44 H locs ls hP hD hS hl hf
    refine lv_iload_n hx hb dX11_finish_44 rfl (lv_at hl 1 rfl) ?_
    refine lv_bipush (v := 8) hx hb dX11_finish_45 (by decide) ?_
    refine lv_icmp_lt (tgt := 56) hx hb dX11_finish_47 (by decide) (fun h_5 => ?_) (fun h_5 => ?_)
    · have hf := hf.trans (if_pos h_5)
      refine lv_aload_n hx hb dX11_finish_56 rfl (lv_at hl 0 rfl) ?_
      refine lv_iload_n hx hb dX11_finish_57 rfl (lv_at hl 2 rfl) ?_
      refine lv_iload hx hb dX11_finish_58 (lv_at hl 3 rfl) ?_
      refine kc_Vv (rest := []) (cy_Model_put l G τ_44 v1 ((y_Model_operate σ v0 v2 v3).1) hv1) ⟨hx, hb, hml, hown, hts⟩ (cwV 2 hts (gi_V kw_806 kw_807 kw_808 kw_5 kw_809) rfl rfl rfl ⟨rfl, mdX11_put⟩ ⟨by decide, by decide⟩) (va_recv hK hP (ci := 9) (q0 := 0) rfl rfl) mZ_ok hK hP hD hS hA hZ rfl hl.1 rfl (Nat.le_of_ble_eq_true rfl) dX11_finish_60 ⟨Nat.zero_le _, Nat.zero_le _⟩ (fun H locs hP hD hS => ?_)
      exact hret (y_Model_put τ_44 v1 ((y_Model_operate σ v0 v2 v3).1)) _ _ _ _ hf hP hD hS dX11_finish_63
    · have hf := hf.trans (if_neg h_5)
      refine lv_iload_n hx hb dX11_finish_50 rfl (lv_at hl 1 rfl) ?_
      refine lv_bipush (v := 11) hx hb dX11_finish_51 (by decide) ?_
      refine lv_icmp_le (tgt := 63) hx hb dX11_finish_53 (by decide) (fun h_6 => ?_) (fun h_6 => ?_)
      · have hf := hf.trans (if_pos h_6)
        exact hret τ_44 _ _ _ _ hf hP hD hS dX11_finish_63
      · have hf := hf.trans (if_neg h_6)
        refine lv_aload_n hx hb dX11_finish_56 rfl (lv_at hl 0 rfl) ?_
        refine lv_iload_n hx hb dX11_finish_57 rfl (lv_at hl 2 rfl) ?_
        refine lv_iload hx hb dX11_finish_58 (lv_at hl 3 rfl) ?_
        refine kc_Vv (rest := []) (cy_Model_put l G τ_44 v1 ((y_Model_operate σ v0 v2 v3).1) hv1) ⟨hx, hb, hml, hown, hts⟩ (cwV 2 hts (gi_V kw_806 kw_807 kw_808 kw_5 kw_809) rfl rfl rfl ⟨rfl, mdX11_put⟩ ⟨by decide, by decide⟩) (va_recv hK hP (ci := 9) (q0 := 0) rfl rfl) mZ_ok hK hP hD hS hA hZ rfl hl.1 rfl (Nat.le_of_ble_eq_true rfl) dX11_finish_60 ⟨Nat.zero_le _, Nat.zero_le _⟩ (fun H locs hP hD hS => ?_)
        exact hret (y_Model_put τ_44 v1 ((y_Model_operate σ v0 v2 v3).1)) _ _ _ _ hf hP hD hS dX11_finish_63
  refine lv_aload_n hx hb dX11_finish_0 rfl (lv_at hl 0 rfl) ?_
  refine lv_iload_n hx hb dX11_finish_1 rfl (lv_at hl 1 rfl) ?_
  refine lv_iload_n hx hb dX11_finish_2 rfl (lv_at hl 3 rfl) ?_
  refine lv_iload hx hb dX11_finish_3 (lv_at hl 4 rfl) ?_
  refine kc_Vb (rest := []) (cy_Model_operate l G σ v0 v2 v3) ⟨hx, hb, hml, hown, hts⟩ (cwV 3 hts (gi_V kw_772 kw_773 kw_774 kw_5 kw_775) rfl rfl rfl ⟨rfl, mdX11_operate⟩ ⟨by decide, by decide⟩) (va_recv hK hP (ci := 9) (q0 := 0) rfl rfl) mZ_ok hK hP hD hS hA hZ rfl hl.1 rfl (Nat.le_of_ble_eq_true rfl) dX11_finish_5 ⟨Nat.zero_le _, Nat.zero_le _⟩ (fun H locs hP hD hS => ?_)
  refine lv_istore (lv' := [(6, .int ((y_Model_operate σ v0 v2 v3).1)), (0, .ref (gA G 20)), (1, .int v0), (2, .int v1), (3, .int v2), (4, .int v3), (5, .int (b01 v4))]) hx hb dX11_finish_8 hl (by decide) rfl (fun ls hl => ?_)
  refine lv_iload hx hb dX11_finish_10 (lv_at hl 6 rfl) ?_
  refine kz_eq (tgt := 44) hx hb dX11_finish_12 (by decide) (fun h_7 => ?_) (fun h_7 => ?_)
  · have hf := hf.trans (if_neg h_7)
    exact J44 ((y_Model_operate σ v0 v2 v3).2) _ _ _ hP hD hS (lv_sub hl [1, 2, 3, 0] rfl) hf
  · have hf := hf.trans (if_pos h_7)
    refine lv_aload_n hx hb dX11_finish_15 rfl (lv_at hl 1 rfl) ?_
    refine lv_iload hx hb dX11_finish_16 (lv_at hl 0 rfl) ?_
    refine kc_Vv (rest := []) (cy_Model_setFlags l G ((y_Model_operate σ v0 v2 v3).2) ((y_Model_operate σ v0 v2 v3).1)) ⟨hx, hb, hml, hown, hts⟩ (cwV 1 hts (gi_V kw_785 kw_786 kw_787 kw_5 kw_788) rfl rfl rfl ⟨rfl, mdX11_setFlags⟩ ⟨by decide, by decide⟩) (va_recv hK hP (ci := 9) (q0 := 0) rfl rfl) mZ_ok hK hP hD hS hA hZ rfl hl.1 rfl (Nat.le_of_ble_eq_true rfl) dX11_finish_18 ⟨Nat.zero_le _, Nat.zero_le _⟩ (fun H locs hP hD hS => ?_)
    refine lv_aload_n hx hb dX11_finish_21 rfl (lv_at hl 1 rfl) ?_
    refine lv_aload_n hx hb dX11_finish_22 rfl (lv_at hl 1 rfl) ?_
    refine va_get (D := gD G) (ci := 9) hx hb hts ku_11 hown hK hP 0 rfl rfl 12 (by decide) (hts _ kw_762) (fun _ h9 => h9) rfl dX11_finish_23 ?_
    refine kc_Vv (rest := []) (cy_Model_setCarry l G (y_Model_setFlags ((y_Model_operate σ v0 v2 v3).2) ((y_Model_operate σ v0 v2 v3).1)) (m_carry (y_Model_setFlags ((y_Model_operate σ v0 v2 v3).2) ((y_Model_operate σ v0 v2 v3).1)))) ⟨hx, hb, hml, hown, hts⟩ (cwV 1 hts (gi_V kw_791 kw_792 kw_793 kw_5 kw_794) rfl rfl rfl ⟨rfl, mdX11_setCarry⟩ ⟨by decide, by decide⟩) (va_recv hK hP (ci := 9) (q0 := 0) rfl rfl) mZ_ok hK hP hD hS hA hZ rfl hl.1 rfl (Nat.le_of_ble_eq_true rfl) dX11_finish_26 ⟨Nat.zero_le _, Nat.zero_le _⟩ (fun H locs hP hD hS => ?_)
    refine lv_iload_n hx hb dX11_finish_29 rfl (lv_at hl 2 rfl) ?_
    refine kp_Si (rest := []) (cy_Model_isSum l v0) ⟨hx, hb, hml, hown, hts⟩ (va_cwS 1 hts (gi_S kw_797 kw_798 kw_5 kw_799) rfl rfl rfl mdX11_isSum ⟨by decide, by decide⟩) rfl hl.1 rfl (Nat.le_of_ble_eq_true rfl) dX11_finish_30 ⟨Nat.zero_le _, Nat.zero_le _⟩ ?_
    refine kz_eq (tgt := 44) hx hb dX11_finish_33 (by decide) (fun h_8 => ?_) (fun h_8 => ?_)
    · have hf := hf.trans (if_neg h_8)
      exact J44 (y_Model_setCarry (y_Model_setFlags ((y_Model_operate σ v0 v2 v3).2) ((y_Model_operate σ v0 v2 v3).1)) (m_carry (y_Model_setFlags ((y_Model_operate σ v0 v2 v3).2) ((y_Model_operate σ v0 v2 v3).1)))) _ _ _ hP hD hS (lv_sub hl [1, 2, 3, 0] rfl) hf
    · have hf := hf.trans (if_pos h_8)
      refine lv_aload_n hx hb dX11_finish_36 rfl (lv_at hl 1 rfl) ?_
      refine lv_aload_n hx hb dX11_finish_37 rfl (lv_at hl 1 rfl) ?_
      refine va_get (D := gD G) (ci := 9) hx hb hts ku_11 hown hK hP 0 rfl rfl 13 (by decide) (hts _ kw_771) (fun _ h9 => h9) rfl dX11_finish_38 ?_
      refine kc_Vv (rest := []) (cy_Model_setOver l G (y_Model_setCarry (y_Model_setFlags ((y_Model_operate σ v0 v2 v3).2) ((y_Model_operate σ v0 v2 v3).1)) (m_carry (y_Model_setFlags ((y_Model_operate σ v0 v2 v3).2) ((y_Model_operate σ v0 v2 v3).1)))) (m_over (y_Model_setCarry (y_Model_setFlags ((y_Model_operate σ v0 v2 v3).2) ((y_Model_operate σ v0 v2 v3).1)) (m_carry (y_Model_setFlags ((y_Model_operate σ v0 v2 v3).2) ((y_Model_operate σ v0 v2 v3).1)))))) ⟨hx, hb, hml, hown, hts⟩ (cwV 1 hts (gi_V kw_800 kw_801 kw_802 kw_5 kw_803) rfl rfl rfl ⟨rfl, mdX11_setOver⟩ ⟨by decide, by decide⟩) (va_recv hK hP (ci := 9) (q0 := 0) rfl rfl) mZ_ok hK hP hD hS hA hZ rfl hl.1 rfl (Nat.le_of_ble_eq_true rfl) dX11_finish_41 ⟨Nat.zero_le _, Nat.zero_le _⟩ (fun H locs hP hD hS => ?_)
      exact J44 (y_Model_setOver (y_Model_setCarry (y_Model_setFlags ((y_Model_operate σ v0 v2 v3).2) ((y_Model_operate σ v0 v2 v3).1)) (m_carry (y_Model_setFlags ((y_Model_operate σ v0 v2 v3).2) ((y_Model_operate σ v0 v2 v3).1)))) (m_over (y_Model_setCarry (y_Model_setFlags ((y_Model_operate σ v0 v2 v3).2) ((y_Model_operate σ v0 v2 v3).1)) (m_carry (y_Model_setFlags ((y_Model_operate σ v0 v2 v3).2) ((y_Model_operate σ v0 v2 v3).1)))))) _ _ _ hP hD hS (lv_sub hl [1, 2, 3, 0] rfl) hf
