def y_Model_data_279 (σ : MS) (v0 : Int32) (k0_203 : Int32) (τ_203 : MS) (k0_109 : Int32) : MS := y_Model_finish τ_203 ((v0 >>> ((21 : Int32) &&& 31)) &&& 15) ((v0 >>> ((12 : Int32) &&& 31)) &&& 15) (y_Model_operand τ_203 ((v0 >>> ((16 : Int32) &&& 31)) &&& 15) k0_109) k0_203 (decide (((v0 >>> ((20 : Int32) &&& 31)) &&& 1) = 1))
def y_Model_data_203 (σ : MS) (v0 : Int32) (k0_109 : Int32) (k0_203 : Int32) (τ_203 : MS) : MS := (if (decide (((v0 >>> ((20 : Int32) &&& 31)) &&& 1) = 1)) = true then (if ((v0 >>> ((12 : Int32) &&& 31)) &&& 15) = 15 then (if (y_Model_within ((v0 >>> ((21 : Int32) &&& 31)) &&& 15) 8 11) = true then y_Model_data_279 σ v0 k0_203 τ_203 k0_109 else (if (y_Model_hasSaved ((y_Model_operate τ_203 ((v0 >>> ((21 : Int32) &&& 31)) &&& 15) (y_Model_operand τ_203 ((v0 >>> ((16 : Int32) &&& 31)) &&& 15) k0_109) k0_203).2)) = true then y_Model_put (y_Model_putStatus ((y_Model_operate τ_203 ((v0 >>> ((21 : Int32) &&& 31)) &&& 15) (y_Model_operand τ_203 ((v0 >>> ((16 : Int32) &&& 31)) &&& 15) k0_109) k0_203).2) (y_Model_kept ((y_Model_operate τ_203 ((v0 >>> ((21 : Int32) &&& 31)) &&& 15) (y_Model_operand τ_203 ((v0 >>> ((16 : Int32) &&& 31)) &&& 15) k0_109) k0_203).2))) 15 ((y_Model_operate τ_203 ((v0 >>> ((21 : Int32) &&& 31)) &&& 15) (y_Model_operand τ_203 ((v0 >>> ((16 : Int32) &&& 31)) &&& 15) k0_109) k0_203).1) else y_Model_put ((y_Model_operate τ_203 ((v0 >>> ((21 : Int32) &&& 31)) &&& 15) (y_Model_operand τ_203 ((v0 >>> ((16 : Int32) &&& 31)) &&& 15) k0_109) k0_203).2) 15 ((y_Model_operate τ_203 ((v0 >>> ((21 : Int32) &&& 31)) &&& 15) (y_Model_operand τ_203 ((v0 >>> ((16 : Int32) &&& 31)) &&& 15) k0_109) k0_203).1))) else y_Model_data_279 σ v0 k0_203 τ_203 k0_109) else y_Model_data_279 σ v0 k0_203 τ_203 k0_109)
def y_Model_data_109 (σ : MS) (v0 : Int32) (k0_60 : Bool) (k0_109 : Int32) : MS := (if (decide (((v0 >>> ((25 : Int32) &&& 31)) &&& 1) = 1)) = true then y_Model_data_203 σ v0 k0_109 ((y_Model_turnedNumber σ v0).1) ((y_Model_turnedNumber σ v0).2) else (if k0_60 = true then y_Model_data_203 σ v0 k0_109 ((y_Model_shift σ ((v0 >>> ((5 : Int32) &&& 31)) &&& 3) (y_Model_operand σ (v0 &&& 15) k0_109) ((y_Model_operand σ ((v0 >>> ((8 : Int32) &&& 31)) &&& 15) k0_109) &&& 255)).1) ((y_Model_shift σ ((v0 >>> ((5 : Int32) &&& 31)) &&& 3) (y_Model_operand σ (v0 &&& 15) k0_109) ((y_Model_operand σ ((v0 >>> ((8 : Int32) &&& 31)) &&& 15) k0_109) &&& 255)).2) else y_Model_data_203 σ v0 k0_109 ((y_Model_shiftBy σ ((v0 >>> ((5 : Int32) &&& 31)) &&& 3) (y_Model_operand σ (v0 &&& 15) k0_109) ((v0 >>> ((7 : Int32) &&& 31)) &&& 31)).1) ((y_Model_shiftBy σ ((v0 >>> ((5 : Int32) &&& 31)) &&& 3) (y_Model_operand σ (v0 &&& 15) k0_109) ((v0 >>> ((7 : Int32) &&& 31)) &&& 31)).2)))
def y_Model_data_97 (σ : MS) (v0 : Int32) (k0_60 : Bool) : MS := (if k0_60 = true then y_Model_data_109 σ v0 k0_60 12 else y_Model_data_109 σ v0 k0_60 8)
def y_Model_data_77 (σ : MS) (v0 : Int32) (k0_60 : Bool) : MS := (if k0_60 = true then (if ((v0 >>> ((7 : Int32) &&& 31)) &&& 1) = 1 then y_Model_undefined σ else y_Model_data_97 σ v0 k0_60) else y_Model_data_97 σ v0 k0_60)
def y_Model_data_60 (σ : MS) (v0 : Int32) (k0_60 : Bool) : MS := (if (y_Model_within ((v0 >>> ((21 : Int32) &&& 31)) &&& 15) 8 11) = true then (if (decide (((v0 >>> ((20 : Int32) &&& 31)) &&& 1) = 1)) = true then y_Model_data_77 σ v0 k0_60 else y_Model_undefined σ) else y_Model_data_77 σ v0 k0_60)
def y_Model_data_59 (σ : MS) (v0 : Int32) : MS := y_Model_data_60 σ v0 false
def y_Model_data (σ : MS) (v0 : Int32) : MS := (if (decide (((v0 >>> ((25 : Int32) &&& 31)) &&& 1) = 1)) = true then y_Model_data_59 σ v0 else (if ((v0 >>> ((4 : Int32) &&& 31)) &&& 1) = 1 then y_Model_data_60 σ v0 true else y_Model_data_59 σ v0))
set_option maxRecDepth 20000 in
set_option maxHeartbeats 4000000 in
theorem cy_Model_data (l : Launch) (G : KG) (σ : MS) (v0 : Int32) : KV l yX11_data (Cond.code yX11_data cX11_data 11 none :: lw_all) (kr 4) (gD G) vwCl (gT G) (mZ G) (mW G) [.ref (gA G 20), .int v0] σ (y_Model_data σ v0) := by
  refine kc_in_v (q := y_Model_data σ v0) (by decide) rfl (Nat.le_of_ble_eq_true rfl) ?_
  intro p e s m args below meth c A Q ls hx hb hml hown hts hK hP hD hA hS hZ hl hret
  have hts := fun w h => hts w (List.mem_cons_of_mem _ h)
  have hl : lv_has ls 11 [(0, .ref (gA G 20)), (1, .int v0)] := hl
  have hf : y_Model_data σ v0 = y_Model_data σ v0 := rfl
  have J279 : ∀ (k0_203 : Int32) (τ_203 : MS) (k0_109 : Int32) (H : Heap) (locs : List Loc) (ls : Array Slot), va_P (gD G) vwCl (mW G (τ_203)) H → va_D A (mW G (τ_203)) → va_S A s.heap H locs → lv_has ls 11 [(0, .ref (gA G 20)), (2, .int ((v0 >>> ((21 : Int32) &&& 31)) &&& 15)), (3, .int (b01 (decide (((v0 >>> ((20 : Int32) &&& 31)) &&& 1) = 1)))), (7, .int ((v0 >>> ((12 : Int32) &&& 31)) &&& 15)), (8, .int k0_203), (9, .int (y_Model_operand τ_203 ((v0 >>> ((16 : Int32) &&& 31)) &&& 15) k0_109))] → y_Model_data σ v0 = y_Model_data_279 σ v0 k0_203 τ_203 k0_109 → W p l e (kr 4) s m args below meth c H locs 0 0 Q (F0 m 279 ls []) := by
    intro k0_203 τ_203 k0_109 H locs ls hP hD hS hl hf
    refine lv_aload_n hx hb dX11_data_279 rfl (lv_at hl 0 rfl) ?_
    refine lv_iload_n hx hb dX11_data_280 rfl (lv_at hl 1 rfl) ?_
    refine lv_iload hx hb dX11_data_281 (lv_at hl 3 rfl) ?_
    refine lv_iload hx hb dX11_data_283 (lv_at hl 5 rfl) ?_
    refine lv_iload hx hb dX11_data_285 (lv_at hl 4 rfl) ?_
    refine lv_iload_n hx hb dX11_data_287 rfl (lv_at hl 2 rfl) ?_
    refine kc_Vv (rest := []) (cy_Model_finish l G τ_203 ((v0 >>> ((21 : Int32) &&& 31)) &&& 15) ((v0 >>> ((12 : Int32) &&& 31)) &&& 15) (y_Model_operand τ_203 ((v0 >>> ((16 : Int32) &&& 31)) &&& 15) k0_109) k0_203 (decide (((v0 >>> ((20 : Int32) &&& 31)) &&& 1) = 1)) (pk_andIn _ 4 (by decide) (by decide))) ⟨hx, hb, hml, hown, hts⟩ (cwV 5 hts (gi_V kw_767 kw_768 kw_769 kw_5 kw_770) rfl rfl rfl ⟨rfl, mdX11_finish⟩ ⟨by decide, by decide⟩) (va_recv hK hP (ci := 9) (q0 := 0) rfl rfl) mZ_ok hK hP hD hS hA hZ rfl hl.1 rfl (Nat.le_of_ble_eq_true rfl) dX11_data_288 ⟨Nat.zero_le _, Nat.zero_le _⟩ (fun H locs hP hD hS => ?_)
    exact hret (y_Model_finish τ_203 ((v0 >>> ((21 : Int32) &&& 31)) &&& 15) ((v0 >>> ((12 : Int32) &&& 31)) &&& 15) (y_Model_operand τ_203 ((v0 >>> ((16 : Int32) &&& 31)) &&& 15) k0_109) k0_203 (decide (((v0 >>> ((20 : Int32) &&& 31)) &&& 1) = 1))) _ _ _ _ hf hP hD hS dX11_data_291
  have J203 : ∀ (k0_109 : Int32) (k0_203 : Int32) (τ_203 : MS) (H : Heap) (locs : List Loc) (ls : Array Slot), va_P (gD G) vwCl (mW G (τ_203)) H → va_D A (mW G (τ_203)) → va_S A s.heap H locs → lv_has ls 11 [(0, .ref (gA G 20)), (1, .int v0), (2, .int ((v0 >>> ((21 : Int32) &&& 31)) &&& 15)), (3, .int (b01 (decide (((v0 >>> ((20 : Int32) &&& 31)) &&& 1) = 1)))), (6, .int k0_109), (7, .int ((v0 >>> ((12 : Int32) &&& 31)) &&& 15))] → y_Model_data σ v0 = y_Model_data_203 σ v0 k0_109 k0_203 τ_203 → W p l e (kr 4) s m args below meth c H locs 0 0 Q (F0 m 203 ls [.int k0_203]) := by
    intro k0_109 k0_203 τ_203 H locs ls hP hD hS hl hf
    refine lv_istore (lv' := [(8, .int k0_203), (0, .ref (gA G 20)), (1, .int v0), (2, .int ((v0 >>> ((21 : Int32) &&& 31)) &&& 15)), (3, .int (b01 (decide (((v0 >>> ((20 : Int32) &&& 31)) &&& 1) = 1)))), (6, .int k0_109), (7, .int ((v0 >>> ((12 : Int32) &&& 31)) &&& 15))]) hx hb dX11_data_203 hl (by decide) rfl (fun ls hl => ?_)
    refine lv_aload_n hx hb dX11_data_205 rfl (lv_at hl 1 rfl) ?_
    refine lv_iload_n hx hb dX11_data_206 rfl (lv_at hl 2 rfl) ?_
    refine lv_bipush (v := 16) hx hb dX11_data_207 (by decide) ?_
    refine lv_ishr hx hb dX11_data_209 ?_
    refine lv_bipush (v := 15) hx hb dX11_data_210 (by decide) ?_
    refine lv_iand hx hb dX11_data_212 ?_
    refine lv_iload hx hb dX11_data_213 (lv_at hl 5 rfl) ?_
    refine kc_Vr (rest := []) (cy_Model_operand l G τ_203 ((v0 >>> ((16 : Int32) &&& 31)) &&& 15) k0_109 (pk_andIn _ 4 (by decide) (by decide))) ⟨hx, hb, hml, hown, hts⟩ (cwV 2 hts (gi_V kw_830 kw_831 kw_832 kw_5 kw_833) rfl rfl rfl ⟨rfl, mdX11_operand⟩ ⟨by decide, by decide⟩) (va_recv hK hP (ci := 9) (q0 := 0) rfl rfl) mZ_ok hK hP hD hS hA hZ rfl hl.1 rfl (Nat.le_of_ble_eq_true rfl) dX11_data_215 ⟨Nat.zero_le _, Nat.zero_le _⟩ (fun H locs hP hD hS => ?_)
    refine lv_istore (lv' := [(9, .int (y_Model_operand τ_203 ((v0 >>> ((16 : Int32) &&& 31)) &&& 15) k0_109)), (8, .int k0_203), (0, .ref (gA G 20)), (1, .int v0), (2, .int ((v0 >>> ((21 : Int32) &&& 31)) &&& 15)), (3, .int (b01 (decide (((v0 >>> ((20 : Int32) &&& 31)) &&& 1) = 1)))), (6, .int k0_109), (7, .int ((v0 >>> ((12 : Int32) &&& 31)) &&& 15))]) hx hb dX11_data_218 hl (by decide) rfl (fun ls hl => ?_)
    refine lv_iload_n hx hb dX11_data_220 rfl (lv_at hl 5 rfl) ?_
    refine kz_eq (tgt := 279) hx hb dX11_data_221 (by decide) (fun h_16 => ?_) (fun h_16 => ?_)
    · have hf := hf.trans (if_neg h_16)
      exact J279 k0_203 τ_203 k0_109 _ _ _ hP hD hS (lv_sub hl [2, 4, 5, 7, 1, 0] rfl) hf
    · have hf := hf.trans (if_pos h_16)
      refine lv_iload hx hb dX11_data_224 (lv_at hl 7 rfl) ?_
      refine lv_bipush (v := 15) hx hb dX11_data_226 (by decide) ?_
      refine lv_icmp_ne (tgt := 279) hx hb dX11_data_228 (by decide) (fun h_17 => ?_) (fun h_17 => ?_)
      · have hf := hf.trans (if_neg h_17)
        exact J279 k0_203 τ_203 k0_109 _ _ _ hP hD hS (lv_sub hl [2, 4, 5, 7, 1, 0] rfl) hf
      · have hf := hf.trans (if_pos h_17)
        refine lv_iload_n hx hb dX11_data_231 rfl (lv_at hl 4 rfl) ?_
        refine lv_bipush (v := 8) hx hb dX11_data_232 (by decide) ?_
        refine lv_bipush (v := 11) hx hb dX11_data_234 (by decide) ?_
        refine kp_Si (rest := []) (cy_Model_within l ((v0 >>> ((21 : Int32) &&& 31)) &&& 15) 8 11) ⟨hx, hb, hml, hown, hts⟩ (va_cwS 3 hts (gi_S kw_155 kw_156 kw_5 kw_157) rfl rfl rfl mdX11_within ⟨by decide, by decide⟩) rfl hl.1 rfl (Nat.le_of_ble_eq_true rfl) dX11_data_236 ⟨Nat.zero_le _, Nat.zero_le _⟩ ?_
        refine kz_ne (tgt := 279) hx hb dX11_data_239 (by decide) (fun h_18 => ?_) (fun h_18 => ?_)
        · have hf := hf.trans (if_pos h_18)
          exact J279 k0_203 τ_203 k0_109 _ _ _ hP hD hS (lv_sub hl [2, 4, 5, 7, 1, 0] rfl) hf
        · have hf := hf.trans (if_neg h_18)
          refine lv_aload_n hx hb dX11_data_242 rfl (lv_at hl 2 rfl) ?_
          refine lv_iload_n hx hb dX11_data_243 rfl (lv_at hl 4 rfl) ?_
          refine lv_iload hx hb dX11_data_244 (lv_at hl 0 rfl) ?_
          refine lv_iload hx hb dX11_data_246 (lv_at hl 1 rfl) ?_
          refine kc_Vb (rest := []) (cy_Model_operate l G τ_203 ((v0 >>> ((21 : Int32) &&& 31)) &&& 15) (y_Model_operand τ_203 ((v0 >>> ((16 : Int32) &&& 31)) &&& 15) k0_109) k0_203) ⟨hx, hb, hml, hown, hts⟩ (cwV 3 hts (gi_V kw_772 kw_773 kw_774 kw_5 kw_775) rfl rfl rfl ⟨rfl, mdX11_operate⟩ ⟨by decide, by decide⟩) (va_recv hK hP (ci := 9) (q0 := 0) rfl rfl) mZ_ok hK hP hD hS hA hZ rfl hl.1 rfl (Nat.le_of_ble_eq_true rfl) dX11_data_248 ⟨Nat.zero_le _, Nat.zero_le _⟩ (fun H locs hP hD hS => ?_)
          refine lv_istore (lv' := [(10, .int ((y_Model_operate τ_203 ((v0 >>> ((21 : Int32) &&& 31)) &&& 15) (y_Model_operand τ_203 ((v0 >>> ((16 : Int32) &&& 31)) &&& 15) k0_109) k0_203).1)), (9, .int (y_Model_operand τ_203 ((v0 >>> ((16 : Int32) &&& 31)) &&& 15) k0_109)), (8, .int k0_203), (0, .ref (gA G 20)), (1, .int v0), (2, .int ((v0 >>> ((21 : Int32) &&& 31)) &&& 15)), (3, .int (b01 (decide (((v0 >>> ((20 : Int32) &&& 31)) &&& 1) = 1)))), (6, .int k0_109), (7, .int ((v0 >>> ((12 : Int32) &&& 31)) &&& 15))]) hx hb dX11_data_251 hl (by decide) rfl (fun ls hl => ?_)
          refine lv_aload_n hx hb dX11_data_253 rfl (lv_at hl 3 rfl) ?_
          refine kc_Vr (rest := []) (cy_Model_hasSaved l G ((y_Model_operate τ_203 ((v0 >>> ((21 : Int32) &&& 31)) &&& 15) (y_Model_operand τ_203 ((v0 >>> ((16 : Int32) &&& 31)) &&& 15) k0_109) k0_203).2)) ⟨hx, hb, hml, hown, hts⟩ (cwV 0 hts (gi_V kw_882 kw_883 kw_884 kw_5 kw_885) rfl rfl rfl ⟨rfl, mdX11_hasSaved⟩ ⟨by decide, by decide⟩) (va_recv hK hP (ci := 9) (q0 := 0) rfl rfl) mZ_ok hK hP hD hS hA hZ rfl hl.1 rfl (Nat.le_of_ble_eq_true rfl) dX11_data_254 ⟨Nat.zero_le _, Nat.zero_le _⟩ (fun H locs hP hD hS => ?_)
          refine kz_eq (tgt := 268) hx hb dX11_data_257 (by decide) (fun h_19 => ?_) (fun h_19 => ?_)
          · have hf := hf.trans (if_neg h_19)
            refine lv_aload_n hx hb dX11_data_268 rfl (lv_at hl 3 rfl) ?_
            refine lv_bipush (v := 15) hx hb dX11_data_269 (by decide) ?_
            refine lv_iload hx hb dX11_data_271 (lv_at hl 0 rfl) ?_
            refine kc_Vv (rest := []) (cy_Model_put l G ((y_Model_operate τ_203 ((v0 >>> ((21 : Int32) &&& 31)) &&& 15) (y_Model_operand τ_203 ((v0 >>> ((16 : Int32) &&& 31)) &&& 15) k0_109) k0_203).2) 15 ((y_Model_operate τ_203 ((v0 >>> ((21 : Int32) &&& 31)) &&& 15) (y_Model_operand τ_203 ((v0 >>> ((16 : Int32) &&& 31)) &&& 15) k0_109) k0_203).1) (by unfold vp_in; decide)) ⟨hx, hb, hml, hown, hts⟩ (cwV 2 hts (gi_V kw_806 kw_807 kw_808 kw_5 kw_809) rfl rfl rfl ⟨rfl, mdX11_put⟩ ⟨by decide, by decide⟩) (va_recv hK hP (ci := 9) (q0 := 0) rfl rfl) mZ_ok hK hP hD hS hA hZ rfl hl.1 rfl (Nat.le_of_ble_eq_true rfl) dX11_data_273 ⟨Nat.zero_le _, Nat.zero_le _⟩ (fun H locs hP hD hS => ?_)
            refine lv_goto (tgt := 291) hx hb dX11_data_276 (by decide) ?_
            exact hret (y_Model_put ((y_Model_operate τ_203 ((v0 >>> ((21 : Int32) &&& 31)) &&& 15) (y_Model_operand τ_203 ((v0 >>> ((16 : Int32) &&& 31)) &&& 15) k0_109) k0_203).2) 15 ((y_Model_operate τ_203 ((v0 >>> ((21 : Int32) &&& 31)) &&& 15) (y_Model_operand τ_203 ((v0 >>> ((16 : Int32) &&& 31)) &&& 15) k0_109) k0_203).1)) _ _ _ _ hf hP hD hS dX11_data_291
          · have hf := hf.trans (if_pos h_19)
            refine lv_aload_n hx hb dX11_data_260 rfl (lv_at hl 3 rfl) ?_
            refine lv_aload_n hx hb dX11_data_261 rfl (lv_at hl 3 rfl) ?_
            refine kc_Vr (rest := [.ref (gA G 20)]) (cy_Model_kept l G ((y_Model_operate τ_203 ((v0 >>> ((21 : Int32) &&& 31)) &&& 15) (y_Model_operand τ_203 ((v0 >>> ((16 : Int32) &&& 31)) &&& 15) k0_109) k0_203).2)) ⟨hx, hb, hml, hown, hts⟩ (cwV 0 hts (gi_V kw_886 kw_887 kw_888 kw_5 kw_889) rfl rfl rfl ⟨rfl, mdX11_kept⟩ ⟨by decide, by decide⟩) (va_recv hK hP (ci := 9) (q0 := 0) rfl rfl) mZ_ok hK hP hD hS hA hZ rfl hl.1 rfl (Nat.le_of_ble_eq_true rfl) dX11_data_262 ⟨Nat.zero_le _, Nat.zero_le _⟩ (fun H locs hP hD hS => ?_)
            refine kc_Vv (rest := []) (cy_Model_putStatus l G ((y_Model_operate τ_203 ((v0 >>> ((21 : Int32) &&& 31)) &&& 15) (y_Model_operand τ_203 ((v0 >>> ((16 : Int32) &&& 31)) &&& 15) k0_109) k0_203).2) (y_Model_kept ((y_Model_operate τ_203 ((v0 >>> ((21 : Int32) &&& 31)) &&& 15) (y_Model_operand τ_203 ((v0 >>> ((16 : Int32) &&& 31)) &&& 15) k0_109) k0_203).2))) ⟨hx, hb, hml, hown, hts⟩ (cwV 1 hts (gi_V kw_254 kw_255 kw_256 kw_5 kw_257) rfl rfl rfl ⟨rfl, mdX11_putStatus⟩ ⟨by decide, by decide⟩) (va_recv hK hP (ci := 9) (q0 := 0) rfl rfl) mZ_ok hK hP hD hS hA hZ rfl hl.1 rfl (Nat.le_of_ble_eq_true rfl) dX11_data_265 ⟨Nat.zero_le _, Nat.zero_le _⟩ (fun H locs hP hD hS => ?_)
            refine lv_aload_n hx hb dX11_data_268 rfl (lv_at hl 3 rfl) ?_
            refine lv_bipush (v := 15) hx hb dX11_data_269 (by decide) ?_
            refine lv_iload hx hb dX11_data_271 (lv_at hl 0 rfl) ?_
            refine kc_Vv (rest := []) (cy_Model_put l G (y_Model_putStatus ((y_Model_operate τ_203 ((v0 >>> ((21 : Int32) &&& 31)) &&& 15) (y_Model_operand τ_203 ((v0 >>> ((16 : Int32) &&& 31)) &&& 15) k0_109) k0_203).2) (y_Model_kept ((y_Model_operate τ_203 ((v0 >>> ((21 : Int32) &&& 31)) &&& 15) (y_Model_operand τ_203 ((v0 >>> ((16 : Int32) &&& 31)) &&& 15) k0_109) k0_203).2))) 15 ((y_Model_operate τ_203 ((v0 >>> ((21 : Int32) &&& 31)) &&& 15) (y_Model_operand τ_203 ((v0 >>> ((16 : Int32) &&& 31)) &&& 15) k0_109) k0_203).1) (by unfold vp_in; decide)) ⟨hx, hb, hml, hown, hts⟩ (cwV 2 hts (gi_V kw_806 kw_807 kw_808 kw_5 kw_809) rfl rfl rfl ⟨rfl, mdX11_put⟩ ⟨by decide, by decide⟩) (va_recv hK hP (ci := 9) (q0 := 0) rfl rfl) mZ_ok hK hP hD hS hA hZ rfl hl.1 rfl (Nat.le_of_ble_eq_true rfl) dX11_data_273 ⟨Nat.zero_le _, Nat.zero_le _⟩ (fun H locs hP hD hS => ?_)
            refine lv_goto (tgt := 291) hx hb dX11_data_276 (by decide) ?_
            exact hret (y_Model_put (y_Model_putStatus ((y_Model_operate τ_203 ((v0 >>> ((21 : Int32) &&& 31)) &&& 15) (y_Model_operand τ_203 ((v0 >>> ((16 : Int32) &&& 31)) &&& 15) k0_109) k0_203).2) (y_Model_kept ((y_Model_operate τ_203 ((v0 >>> ((21 : Int32) &&& 31)) &&& 15) (y_Model_operand τ_203 ((v0 >>> ((16 : Int32) &&& 31)) &&& 15) k0_109) k0_203).2))) 15 ((y_Model_operate τ_203 ((v0 >>> ((21 : Int32) &&& 31)) &&& 15) (y_Model_operand τ_203 ((v0 >>> ((16 : Int32) &&& 31)) &&& 15) k0_109) k0_203).1)) _ _ _ _ hf hP hD hS dX11_data_291
  have J109 : ∀ (k0_60 : Bool) (k0_109 : Int32) (H : Heap) (locs : List Loc) (ls : Array Slot), va_P (gD G) vwCl (mW G (σ)) H → va_D A (mW G (σ)) → va_S A s.heap H locs → lv_has ls 11 [(0, .ref (gA G 20)), (1, .int v0), (2, .int ((v0 >>> ((21 : Int32) &&& 31)) &&& 15)), (3, .int (b01 (decide (((v0 >>> ((20 : Int32) &&& 31)) &&& 1) = 1)))), (4, .int (b01 (decide (((v0 >>> ((25 : Int32) &&& 31)) &&& 1) = 1)))), (5, .int (b01 k0_60))] → y_Model_data σ v0 = y_Model_data_109 σ v0 k0_60 k0_109 → W p l e (kr 4) s m args below meth c H locs 0 0 Q (F0 m 109 ls [.int k0_109]) := by
    intro k0_60 k0_109 H locs ls hP hD hS hl hf
    refine lv_istore (lv' := [(6, .int k0_109), (0, .ref (gA G 20)), (1, .int v0), (2, .int ((v0 >>> ((21 : Int32) &&& 31)) &&& 15)), (3, .int (b01 (decide (((v0 >>> ((20 : Int32) &&& 31)) &&& 1) = 1)))), (4, .int (b01 (decide (((v0 >>> ((25 : Int32) &&& 31)) &&& 1) = 1)))), (5, .int (b01 k0_60))]) hx hb dX11_data_109 hl (by decide) rfl (fun ls hl => ?_)
    refine lv_iload_n hx hb dX11_data_111 rfl (lv_at hl 2 rfl) ?_
    refine lv_bipush (v := 12) hx hb dX11_data_112 (by decide) ?_
    refine lv_ishr hx hb dX11_data_114 ?_
    refine lv_bipush (v := 15) hx hb dX11_data_115 (by decide) ?_
    refine lv_iand hx hb dX11_data_117 ?_
    refine lv_istore (lv' := [(7, .int ((v0 >>> ((12 : Int32) &&& 31)) &&& 15)), (6, .int k0_109), (0, .ref (gA G 20)), (1, .int v0), (2, .int ((v0 >>> ((21 : Int32) &&& 31)) &&& 15)), (3, .int (b01 (decide (((v0 >>> ((20 : Int32) &&& 31)) &&& 1) = 1)))), (4, .int (b01 (decide (((v0 >>> ((25 : Int32) &&& 31)) &&& 1) = 1)))), (5, .int (b01 k0_60))]) hx hb dX11_data_118 hl (by decide) rfl (fun ls hl => ?_)
    refine lv_iload hx hb dX11_data_120 (lv_at hl 6 rfl) ?_
    refine kz_eq (tgt := 133) hx hb dX11_data_122 (by decide) (fun h_20 => ?_) (fun h_20 => ?_)
    · have hf := hf.trans (if_neg h_20)
      refine lv_iload hx hb dX11_data_133 (lv_at hl 7 rfl) ?_
      refine kz_eq (tgt := 177) hx hb dX11_data_135 (by decide) (fun h_21 => ?_) (fun h_21 => ?_)
      · have hf := hf.trans (if_neg h_21)
        refine lv_aload_n hx hb dX11_data_177 rfl (lv_at hl 2 rfl) ?_
        refine lv_iload_n hx hb dX11_data_178 rfl (lv_at hl 3 rfl) ?_
        refine lv_iconst (v := 5) hx hb dX11_data_179 (by decide) ?_
        refine lv_ishr hx hb dX11_data_180 ?_
        refine lv_iconst (v := 3) hx hb dX11_data_181 (by decide) ?_
        refine lv_iand hx hb dX11_data_182 ?_
        refine lv_aload_n hx hb dX11_data_183 rfl (lv_at hl 2 rfl) ?_
        refine lv_iload_n hx hb dX11_data_184 rfl (lv_at hl 3 rfl) ?_
        refine lv_bipush (v := 15) hx hb dX11_data_185 (by decide) ?_
        refine lv_iand hx hb dX11_data_187 ?_
        refine lv_iload hx hb dX11_data_188 (lv_at hl 1 rfl) ?_
        refine kc_Vr (rest := [.int ((v0 >>> ((5 : Int32) &&& 31)) &&& 3), .ref (gA G 20)]) (cy_Model_operand l G σ (v0 &&& 15) k0_109 (pk_andIn _ 4 (by decide) (by decide))) ⟨hx, hb, hml, hown, hts⟩ (cwV 2 hts (gi_V kw_830 kw_831 kw_832 kw_5 kw_833) rfl rfl rfl ⟨rfl, mdX11_operand⟩ ⟨by decide, by decide⟩) (va_recv hK hP (ci := 9) (q0 := 0) rfl rfl) mZ_ok hK hP hD hS hA hZ rfl hl.1 rfl (Nat.le_of_ble_eq_true rfl) dX11_data_190 ⟨Nat.zero_le _, Nat.zero_le _⟩ (fun H locs hP hD hS => ?_)
        refine lv_iload_n hx hb dX11_data_193 rfl (lv_at hl 3 rfl) ?_
        refine lv_bipush (v := 7) hx hb dX11_data_194 (by decide) ?_
        refine lv_ishr hx hb dX11_data_196 ?_
        refine lv_bipush (v := 31) hx hb dX11_data_197 (by decide) ?_
        refine lv_iand hx hb dX11_data_199 ?_
        refine kc_Vb (rest := []) (cy_Model_shiftBy l G σ ((v0 >>> ((5 : Int32) &&& 31)) &&& 3) (y_Model_operand σ (v0 &&& 15) k0_109) ((v0 >>> ((7 : Int32) &&& 31)) &&& 31)) ⟨hx, hb, hml, hown, hts⟩ (cwV 3 hts (gi_V kw_757 kw_758 kw_759 kw_5 kw_760) rfl rfl rfl ⟨rfl, mdX11_shiftBy⟩ ⟨by decide, by decide⟩) (va_recv hK hP (ci := 9) (q0 := 0) rfl rfl) mZ_ok hK hP hD hS hA hZ rfl hl.1 rfl (Nat.le_of_ble_eq_true rfl) dX11_data_200 ⟨Nat.zero_le _, Nat.zero_le _⟩ (fun H locs hP hD hS => ?_)
        exact J203 k0_109 ((y_Model_shiftBy σ ((v0 >>> ((5 : Int32) &&& 31)) &&& 3) (y_Model_operand σ (v0 &&& 15) k0_109) ((v0 >>> ((7 : Int32) &&& 31)) &&& 31)).1) ((y_Model_shiftBy σ ((v0 >>> ((5 : Int32) &&& 31)) &&& 3) (y_Model_operand σ (v0 &&& 15) k0_109) ((v0 >>> ((7 : Int32) &&& 31)) &&& 31)).2) _ _ _ hP hD hS (lv_sub hl [2, 3, 4, 5, 1, 0] rfl) hf
      · have hf := hf.trans (if_pos h_21)
        refine lv_aload_n hx hb dX11_data_138 rfl (lv_at hl 2 rfl) ?_
        refine lv_iload_n hx hb dX11_data_139 rfl (lv_at hl 3 rfl) ?_
        refine lv_iconst (v := 5) hx hb dX11_data_140 (by decide) ?_
        refine lv_ishr hx hb dX11_data_141 ?_
        refine lv_iconst (v := 3) hx hb dX11_data_142 (by decide) ?_
        refine lv_iand hx hb dX11_data_143 ?_
        refine lv_aload_n hx hb dX11_data_144 rfl (lv_at hl 2 rfl) ?_
        refine lv_iload_n hx hb dX11_data_145 rfl (lv_at hl 3 rfl) ?_
        refine lv_bipush (v := 15) hx hb dX11_data_146 (by decide) ?_
        refine lv_iand hx hb dX11_data_148 ?_
        refine lv_iload hx hb dX11_data_149 (lv_at hl 1 rfl) ?_
        refine kc_Vr (rest := [.int ((v0 >>> ((5 : Int32) &&& 31)) &&& 3), .ref (gA G 20)]) (cy_Model_operand l G σ (v0 &&& 15) k0_109 (pk_andIn _ 4 (by decide) (by decide))) ⟨hx, hb, hml, hown, hts⟩ (cwV 2 hts (gi_V kw_830 kw_831 kw_832 kw_5 kw_833) rfl rfl rfl ⟨rfl, mdX11_operand⟩ ⟨by decide, by decide⟩) (va_recv hK hP (ci := 9) (q0 := 0) rfl rfl) mZ_ok hK hP hD hS hA hZ rfl hl.1 rfl (Nat.le_of_ble_eq_true rfl) dX11_data_151 ⟨Nat.zero_le _, Nat.zero_le _⟩ (fun H locs hP hD hS => ?_)
        refine lv_aload_n hx hb dX11_data_154 rfl (lv_at hl 2 rfl) ?_
        refine lv_iload_n hx hb dX11_data_155 rfl (lv_at hl 3 rfl) ?_
        refine lv_bipush (v := 8) hx hb dX11_data_156 (by decide) ?_
        refine lv_ishr hx hb dX11_data_158 ?_
        refine lv_bipush (v := 15) hx hb dX11_data_159 (by decide) ?_
        refine lv_iand hx hb dX11_data_161 ?_
        refine lv_iload hx hb dX11_data_162 (lv_at hl 1 rfl) ?_
        refine kc_Vr (rest := [.int (y_Model_operand σ (v0 &&& 15) k0_109), .int ((v0 >>> ((5 : Int32) &&& 31)) &&& 3), .ref (gA G 20)]) (cy_Model_operand l G σ ((v0 >>> ((8 : Int32) &&& 31)) &&& 15) k0_109 (pk_andIn _ 4 (by decide) (by decide))) ⟨hx, hb, hml, hown, hts⟩ (cwV 2 hts (gi_V kw_830 kw_831 kw_832 kw_5 kw_833) rfl rfl rfl ⟨rfl, mdX11_operand⟩ ⟨by decide, by decide⟩) (va_recv hK hP (ci := 9) (q0 := 0) rfl rfl) mZ_ok hK hP hD hS hA hZ rfl hl.1 rfl (Nat.le_of_ble_eq_true rfl) dX11_data_164 ⟨Nat.zero_le _, Nat.zero_le _⟩ (fun H locs hP hD hS => ?_)
        refine lv_sipush (v := 255) hx hb dX11_data_167 (by decide) ?_
        refine lv_iand hx hb dX11_data_170 ?_
        refine kc_Vb (rest := []) (cy_Model_shift l G σ ((v0 >>> ((5 : Int32) &&& 31)) &&& 3) (y_Model_operand σ (v0 &&& 15) k0_109) ((y_Model_operand σ ((v0 >>> ((8 : Int32) &&& 31)) &&& 15) k0_109) &&& 255)) ⟨hx, hb, hml, hown, hts⟩ (cwV 3 hts (gi_V kw_763 kw_764 kw_765 kw_5 kw_766) rfl rfl rfl ⟨rfl, mdX11_shift⟩ ⟨by decide, by decide⟩) (va_recv hK hP (ci := 9) (q0 := 0) rfl rfl) mZ_ok hK hP hD hS hA hZ rfl hl.1 rfl (Nat.le_of_ble_eq_true rfl) dX11_data_171 ⟨Nat.zero_le _, Nat.zero_le _⟩ (fun H locs hP hD hS => ?_)
        refine lv_goto (tgt := 203) hx hb dX11_data_174 (by decide) ?_
        exact J203 k0_109 ((y_Model_shift σ ((v0 >>> ((5 : Int32) &&& 31)) &&& 3) (y_Model_operand σ (v0 &&& 15) k0_109) ((y_Model_operand σ ((v0 >>> ((8 : Int32) &&& 31)) &&& 15) k0_109) &&& 255)).1) ((y_Model_shift σ ((v0 >>> ((5 : Int32) &&& 31)) &&& 3) (y_Model_operand σ (v0 &&& 15) k0_109) ((y_Model_operand σ ((v0 >>> ((8 : Int32) &&& 31)) &&& 15) k0_109) &&& 255)).2) _ _ _ hP hD hS (lv_sub hl [2, 3, 4, 5, 1, 0] rfl) hf
    · have hf := hf.trans (if_pos h_20)
      refine lv_aload_n hx hb dX11_data_125 rfl (lv_at hl 2 rfl) ?_
      refine lv_iload_n hx hb dX11_data_126 rfl (lv_at hl 3 rfl) ?_
      refine kc_Vb (rest := []) (cy_Model_turnedNumber l G σ v0) ⟨hx, hb, hml, hown, hts⟩ (cwV 1 hts (gi_V kw_932 kw_933 kw_934 kw_5 kw_935) rfl rfl rfl ⟨rfl, mdX11_turnedNumber⟩ ⟨by decide, by decide⟩) (va_recv hK hP (ci := 9) (q0 := 0) rfl rfl) mZ_ok hK hP hD hS hA hZ rfl hl.1 rfl (Nat.le_of_ble_eq_true rfl) dX11_data_127 ⟨Nat.zero_le _, Nat.zero_le _⟩ (fun H locs hP hD hS => ?_)
      refine lv_goto (tgt := 203) hx hb dX11_data_130 (by decide) ?_
      exact J203 k0_109 ((y_Model_turnedNumber σ v0).1) ((y_Model_turnedNumber σ v0).2) _ _ _ hP hD hS (lv_sub hl [2, 3, 4, 5, 1, 0] rfl) hf
  have J97 : ∀ (k0_60 : Bool) (H : Heap) (locs : List Loc) (ls : Array Slot), va_P (gD G) vwCl (mW G (σ)) H → va_D A (mW G (σ)) → va_S A s.heap H locs → lv_has ls 11 [(0, .ref (gA G 20)), (1, .int v0), (2, .int ((v0 >>> ((21 : Int32) &&& 31)) &&& 15)), (3, .int (b01 (decide (((v0 >>> ((20 : Int32) &&& 31)) &&& 1) = 1)))), (4, .int (b01 (decide (((v0 >>> ((25 : Int32) &&& 31)) &&& 1) = 1)))), (5, .int (b01 k0_60))] → y_Model_data σ v0 = y_Model_data_97 σ v0 k0_60 → W p l e (kr 4) s m args below meth c H locs 0 0 Q (F0 m 97 ls []) := by
    intro k0_60 H locs ls hP hD hS hl hf
    refine lv_iload hx hb dX11_data_97 (lv_at hl 5 rfl) ?_
    refine kz_eq (tgt := 107) hx hb dX11_data_99 (by decide) (fun h_22 => ?_) (fun h_22 => ?_)
    · have hf := hf.trans (if_neg h_22)
      refine lv_bipush (v := 8) hx hb dX11_data_107 (by decide) ?_
      exact J109 k0_60 8 _ _ _ hP hD hS (lv_sub hl [0, 1, 2, 3, 4, 5] rfl) hf
    · have hf := hf.trans (if_pos h_22)
      refine lv_bipush (v := 12) hx hb dX11_data_102 (by decide) ?_
      refine lv_goto (tgt := 109) hx hb dX11_data_104 (by decide) ?_
      exact J109 k0_60 12 _ _ _ hP hD hS (lv_sub hl [0, 1, 2, 3, 4, 5] rfl) hf
  have J77 : ∀ (k0_60 : Bool) (H : Heap) (locs : List Loc) (ls : Array Slot), va_P (gD G) vwCl (mW G (σ)) H → va_D A (mW G (σ)) → va_S A s.heap H locs → lv_has ls 11 [(0, .ref (gA G 20)), (1, .int v0), (2, .int ((v0 >>> ((21 : Int32) &&& 31)) &&& 15)), (3, .int (b01 (decide (((v0 >>> ((20 : Int32) &&& 31)) &&& 1) = 1)))), (4, .int (b01 (decide (((v0 >>> ((25 : Int32) &&& 31)) &&& 1) = 1)))), (5, .int (b01 k0_60))] → y_Model_data σ v0 = y_Model_data_77 σ v0 k0_60 → W p l e (kr 4) s m args below meth c H locs 0 0 Q (F0 m 77 ls []) := by
    intro k0_60 H locs ls hP hD hS hl hf
    refine lv_iload hx hb dX11_data_77 (lv_at hl 5 rfl) ?_
    refine kz_eq (tgt := 97) hx hb dX11_data_79 (by decide) (fun h_23 => ?_) (fun h_23 => ?_)
    · have hf := hf.trans (if_neg h_23)
      exact J97 k0_60 _ _ _ hP hD hS (lv_sub hl [0, 1, 2, 3, 4, 5] rfl) hf
    · have hf := hf.trans (if_pos h_23)
      refine lv_iload_n hx hb dX11_data_82 rfl (lv_at hl 1 rfl) ?_
      refine lv_bipush (v := 7) hx hb dX11_data_83 (by decide) ?_
      refine lv_ishr hx hb dX11_data_85 ?_
      refine lv_iconst (v := 1) hx hb dX11_data_86 (by decide) ?_
      refine lv_iand hx hb dX11_data_87 ?_
      refine lv_iconst (v := 1) hx hb dX11_data_88 (by decide) ?_
      refine lv_icmp_ne (tgt := 97) hx hb dX11_data_89 (by decide) (fun h_24 => ?_) (fun h_24 => ?_)
      · have hf := hf.trans (if_neg h_24)
        exact J97 k0_60 _ _ _ hP hD hS (lv_sub hl [0, 1, 2, 3, 4, 5] rfl) hf
      · have hf := hf.trans (if_pos h_24)
        refine lv_aload_n hx hb dX11_data_92 rfl (lv_at hl 0 rfl) ?_
        refine kc_Vv (rest := []) (cy_Model_undefined l G σ) ⟨hx, hb, hml, hown, hts⟩ (cwV 0 hts (gi_V kw_822 kw_823 kw_824 kw_5 kw_825) rfl rfl rfl ⟨rfl, mdX11_undefined⟩ ⟨by decide, by decide⟩) (va_recv hK hP (ci := 9) (q0 := 0) rfl rfl) mZ_ok hK hP hD hS hA hZ rfl hl.1 rfl (Nat.le_of_ble_eq_true rfl) dX11_data_93 ⟨Nat.zero_le _, Nat.zero_le _⟩ (fun H locs hP hD hS => ?_)
        exact hret (y_Model_undefined σ) _ _ _ _ hf hP hD hS dX11_data_96
  have J60 : ∀ (k0_60 : Bool) (H : Heap) (locs : List Loc) (ls : Array Slot), va_P (gD G) vwCl (mW G (σ)) H → va_D A (mW G (σ)) → va_S A s.heap H locs → lv_has ls 11 [(0, .ref (gA G 20)), (1, .int v0), (2, .int ((v0 >>> ((21 : Int32) &&& 31)) &&& 15)), (3, .int (b01 (decide (((v0 >>> ((20 : Int32) &&& 31)) &&& 1) = 1)))), (4, .int (b01 (decide (((v0 >>> ((25 : Int32) &&& 31)) &&& 1) = 1))))] → y_Model_data σ v0 = y_Model_data_60 σ v0 k0_60 → W p l e (kr 4) s m args below meth c H locs 0 0 Q (F0 m 60 ls [.int (b01 k0_60)]) := by
    intro k0_60 H locs ls hP hD hS hl hf
    refine lv_istore (lv' := [(5, .int (b01 k0_60)), (0, .ref (gA G 20)), (1, .int v0), (2, .int ((v0 >>> ((21 : Int32) &&& 31)) &&& 15)), (3, .int (b01 (decide (((v0 >>> ((20 : Int32) &&& 31)) &&& 1) = 1)))), (4, .int (b01 (decide (((v0 >>> ((25 : Int32) &&& 31)) &&& 1) = 1))))]) hx hb dX11_data_60 hl (by decide) rfl (fun ls hl => ?_)
    refine lv_iload_n hx hb dX11_data_62 rfl (lv_at hl 3 rfl) ?_
    refine lv_bipush (v := 8) hx hb dX11_data_63 (by decide) ?_
    refine lv_bipush (v := 11) hx hb dX11_data_65 (by decide) ?_
    refine kp_Si (rest := []) (cy_Model_within l ((v0 >>> ((21 : Int32) &&& 31)) &&& 15) 8 11) ⟨hx, hb, hml, hown, hts⟩ (va_cwS 3 hts (gi_S kw_155 kw_156 kw_5 kw_157) rfl rfl rfl mdX11_within ⟨by decide, by decide⟩) rfl hl.1 rfl (Nat.le_of_ble_eq_true rfl) dX11_data_67 ⟨Nat.zero_le _, Nat.zero_le _⟩ ?_
    refine kz_eq (tgt := 77) hx hb dX11_data_70 (by decide) (fun h_25 => ?_) (fun h_25 => ?_)
    · have hf := hf.trans (if_neg h_25)
      exact J77 k0_60 _ _ _ hP hD hS (lv_sub hl [1, 2, 3, 4, 5, 0] rfl) hf
    · have hf := hf.trans (if_pos h_25)
      refine lv_iload_n hx hb dX11_data_73 rfl (lv_at hl 4 rfl) ?_
      refine kz_eq (tgt := 92) hx hb dX11_data_74 (by decide) (fun h_26 => ?_) (fun h_26 => ?_)
      · have hf := hf.trans (if_neg h_26)
        refine lv_aload_n hx hb dX11_data_92 rfl (lv_at hl 1 rfl) ?_
        refine kc_Vv (rest := []) (cy_Model_undefined l G σ) ⟨hx, hb, hml, hown, hts⟩ (cwV 0 hts (gi_V kw_822 kw_823 kw_824 kw_5 kw_825) rfl rfl rfl ⟨rfl, mdX11_undefined⟩ ⟨by decide, by decide⟩) (va_recv hK hP (ci := 9) (q0 := 0) rfl rfl) mZ_ok hK hP hD hS hA hZ rfl hl.1 rfl (Nat.le_of_ble_eq_true rfl) dX11_data_93 ⟨Nat.zero_le _, Nat.zero_le _⟩ (fun H locs hP hD hS => ?_)
        exact hret (y_Model_undefined σ) _ _ _ _ hf hP hD hS dX11_data_96
      · have hf := hf.trans (if_pos h_26)
        exact J77 k0_60 _ _ _ hP hD hS (lv_sub hl [1, 2, 3, 4, 5, 0] rfl) hf
  have J59 : ∀ (H : Heap) (locs : List Loc) (ls : Array Slot), va_P (gD G) vwCl (mW G (σ)) H → va_D A (mW G (σ)) → va_S A s.heap H locs → lv_has ls 11 [(0, .ref (gA G 20)), (1, .int v0), (2, .int ((v0 >>> ((21 : Int32) &&& 31)) &&& 15)), (3, .int (b01 (decide (((v0 >>> ((20 : Int32) &&& 31)) &&& 1) = 1)))), (4, .int (b01 (decide (((v0 >>> ((25 : Int32) &&& 31)) &&& 1) = 1))))] → y_Model_data σ v0 = y_Model_data_59 σ v0 → W p l e (kr 4) s m args below meth c H locs 0 0 Q (F0 m 59 ls []) := by
    intro H locs ls hP hD hS hl hf
    refine lv_iconst (v := 0) hx hb dX11_data_59 (by decide) ?_
    exact J60 false _ _ _ hP hD hS (lv_sub hl [0, 1, 2, 3, 4] rfl) hf
  refine lv_iload_n hx hb dX11_data_0 rfl (lv_at hl 1 rfl) ?_
  refine lv_bipush (v := 21) hx hb dX11_data_1 (by decide) ?_
  refine lv_ishr hx hb dX11_data_3 ?_
  refine lv_bipush (v := 15) hx hb dX11_data_4 (by decide) ?_
  refine lv_iand hx hb dX11_data_6 ?_
  refine lv_istore_n (lv' := [(2, .int ((v0 >>> ((21 : Int32) &&& 31)) &&& 15)), (0, .ref (gA G 20)), (1, .int v0)]) hx hb dX11_data_7 rfl hl (by decide) rfl (fun ls hl => ?_)
  refine lv_iload_n hx hb dX11_data_8 rfl (lv_at hl 2 rfl) ?_
  refine lv_bipush (v := 20) hx hb dX11_data_9 (by decide) ?_
  refine lv_ishr hx hb dX11_data_11 ?_
  refine lv_iconst (v := 1) hx hb dX11_data_12 (by decide) ?_
  refine lv_iand hx hb dX11_data_13 ?_
  refine lv_iconst (v := 1) hx hb dX11_data_14 (by decide) ?_
  refine kz_dN0 (P := ((v0 >>> ((20 : Int32) &&& 31)) &&& 1) = 1) (tgt := 22) (M := 23) (fun a b => lv_icmp_ne (tgt := 22) hx hb dX11_data_15 (by decide) a b) hx hb dX11_data_18 dX11_data_19 (by decide) dX11_data_22 rfl ?_
  refine lv_istore_n (lv' := [(3, .int (b01 (decide (((v0 >>> ((20 : Int32) &&& 31)) &&& 1) = 1)))), (2, .int ((v0 >>> ((21 : Int32) &&& 31)) &&& 15)), (0, .ref (gA G 20)), (1, .int v0)]) hx hb dX11_data_23 rfl hl (by decide) rfl (fun ls hl => ?_)
  refine lv_iload_n hx hb dX11_data_24 rfl (lv_at hl 3 rfl) ?_
  refine lv_bipush (v := 25) hx hb dX11_data_25 (by decide) ?_
  refine lv_ishr hx hb dX11_data_27 ?_
  refine lv_iconst (v := 1) hx hb dX11_data_28 (by decide) ?_
  refine lv_iand hx hb dX11_data_29 ?_
  refine lv_iconst (v := 1) hx hb dX11_data_30 (by decide) ?_
  refine kz_dN0 (P := ((v0 >>> ((25 : Int32) &&& 31)) &&& 1) = 1) (tgt := 38) (M := 39) (fun a b => lv_icmp_ne (tgt := 38) hx hb dX11_data_31 (by decide) a b) hx hb dX11_data_34 dX11_data_35 (by decide) dX11_data_38 rfl ?_
  refine lv_istore (lv' := [(4, .int (b01 (decide (((v0 >>> ((25 : Int32) &&& 31)) &&& 1) = 1)))), (3, .int (b01 (decide (((v0 >>> ((20 : Int32) &&& 31)) &&& 1) = 1)))), (2, .int ((v0 >>> ((21 : Int32) &&& 31)) &&& 15)), (0, .ref (gA G 20)), (1, .int v0)]) hx hb dX11_data_39 hl (by decide) rfl (fun ls hl => ?_)
  refine lv_iload hx hb dX11_data_41 (lv_at hl 0 rfl) ?_
  refine kz_ne (tgt := 59) hx hb dX11_data_43 (by decide) (fun h_29 => ?_) (fun h_29 => ?_)
  · have hf := hf.trans (if_pos h_29)
    exact J59 _ _ _ hP hD hS (lv_sub hl [3, 4, 2, 1, 0] rfl) hf
  · have hf := hf.trans (if_neg h_29)
    refine lv_iload_n hx hb dX11_data_46 rfl (lv_at hl 4 rfl) ?_
    refine lv_iconst (v := 4) hx hb dX11_data_47 (by decide) ?_
    refine lv_ishr hx hb dX11_data_48 ?_
    refine lv_iconst (v := 1) hx hb dX11_data_49 (by decide) ?_
    refine lv_iand hx hb dX11_data_50 ?_
    refine lv_iconst (v := 1) hx hb dX11_data_51 (by decide) ?_
    refine lv_icmp_ne (tgt := 59) hx hb dX11_data_52 (by decide) (fun h_30 => ?_) (fun h_30 => ?_)
    · have hf := hf.trans (if_neg h_30)
      exact J59 _ _ _ hP hD hS (lv_sub hl [3, 4, 2, 1, 0] rfl) hf
    · have hf := hf.trans (if_pos h_30)
      refine lv_iconst (v := 1) hx hb dX11_data_55 (by decide) ?_
      refine lv_goto (tgt := 60) hx hb dX11_data_56 (by decide) ?_
      exact J60 true _ _ _ hP hD hS (lv_sub hl [3, 4, 2, 1, 0] rfl) hf
