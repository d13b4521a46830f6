def y_Model_multiply_267 (σ : MS) (v0 : Int32) (k0_202 : Int64) (k0_231 : Int64) (k0_267 : Int64) : MS := (if (decide (((v0 >>> ((20 : Int32) &&& 31)) &&& 1) = 1)) = true then (if 0 ≤ (lg_cmp ((k0_202 * k0_231) + k0_267) 0) then (if (lg_cmp ((k0_202 * k0_231) + k0_267) 0) = 0 then y_Model_setFlags (y_Model_put (y_Model_put σ ((v0 >>> ((12 : Int32) &&& 31)) &&& 15) (((k0_202 * k0_231) + k0_267).toInt32)) ((v0 >>> ((16 : Int32) &&& 31)) &&& 15) ((lsr ((k0_202 * k0_231) + k0_267) 32).toInt32)) 0 else y_Model_setFlags (y_Model_put (y_Model_put σ ((v0 >>> ((12 : Int32) &&& 31)) &&& 15) (((k0_202 * k0_231) + k0_267).toInt32)) ((v0 >>> ((16 : Int32) &&& 31)) &&& 15) ((lsr ((k0_202 * k0_231) + k0_267) 32).toInt32)) 1) else y_Model_setFlags (y_Model_put (y_Model_put σ ((v0 >>> ((12 : Int32) &&& 31)) &&& 15) (((k0_202 * k0_231) + k0_267).toInt32)) ((v0 >>> ((16 : Int32) &&& 31)) &&& 15) ((lsr ((k0_202 * k0_231) + k0_267) 32).toInt32)) (-1)) else y_Model_put (y_Model_put σ ((v0 >>> ((12 : Int32) &&& 31)) &&& 15) (((k0_202 * k0_231) + k0_267).toInt32)) ((v0 >>> ((16 : Int32) &&& 31)) &&& 15) ((lsr ((k0_202 * k0_231) + k0_267) 32).toInt32))
def y_Model_multiply_231 (σ : MS) (v0 : Int32) (k0_202 : Int64) (k0_231 : Int64) : MS := (if (decide (((v0 >>> ((21 : Int32) &&& 31)) &&& 1) = 1)) = true then y_Model_multiply_267 σ v0 k0_202 k0_231 ((lsl ((y_Model_at σ ((v0 >>> ((16 : Int32) &&& 31)) &&& 15)).toInt64) 32) ||| (((y_Model_at σ ((v0 >>> ((12 : Int32) &&& 31)) &&& 15)).toInt64) &&& 4294967295)) else y_Model_multiply_267 σ v0 k0_202 k0_231 0)
def y_Model_multiply_202 (σ : MS) (v0 : Int32) (k0_202 : Int64) : MS := (if ((v0 >>> ((22 : Int32) &&& 31)) &&& 3) = 3 then y_Model_multiply_231 σ v0 k0_202 ((y_Model_at σ ((v0 >>> ((8 : Int32) &&& 31)) &&& 15)).toInt64) else y_Model_multiply_231 σ v0 k0_202 (((y_Model_at σ ((v0 >>> ((8 : Int32) &&& 31)) &&& 15)).toInt64) &&& 4294967295))
def y_Model_multiply_153 (σ : MS) (v0 : Int32) (k0_153 : Int32) : MS := (if (decide (((v0 >>> ((20 : Int32) &&& 31)) &&& 1) = 1)) = true then y_Model_setFlags (y_Model_put σ ((v0 >>> ((16 : Int32) &&& 31)) &&& 15) (((y_Model_at σ (v0 &&& 15)) * (y_Model_at σ ((v0 >>> ((8 : Int32) &&& 31)) &&& 15))) + k0_153)) (((y_Model_at σ (v0 &&& 15)) * (y_Model_at σ ((v0 >>> ((8 : Int32) &&& 31)) &&& 15))) + k0_153) else y_Model_put σ ((v0 >>> ((16 : Int32) &&& 31)) &&& 15) (((y_Model_at σ (v0 &&& 15)) * (y_Model_at σ ((v0 >>> ((8 : Int32) &&& 31)) &&& 15))) + k0_153))
def y_Model_multiply_87 (σ : MS) (v0 : Int32) : MS := (if ((v0 >>> ((22 : Int32) &&& 31)) &&& 3) = 0 then (if (decide (((v0 >>> ((21 : Int32) &&& 31)) &&& 1) = 1)) = true then y_Model_multiply_153 σ v0 (y_Model_at σ ((v0 >>> ((12 : Int32) &&& 31)) &&& 15)) else y_Model_multiply_153 σ v0 0) else (if ((v0 >>> ((22 : Int32) &&& 31)) &&& 3) = 3 then y_Model_multiply_202 σ v0 ((y_Model_at σ (v0 &&& 15)).toInt64) else y_Model_multiply_202 σ v0 (((y_Model_at σ (v0 &&& 15)).toInt64) &&& 4294967295)))
def y_Model_multiply (σ : MS) (v0 : Int32) : MS := (if ((v0 >>> ((16 : Int32) &&& 31)) &&& 15) = 15 then y_Model_undefined σ else (if ((v0 >>> ((12 : Int32) &&& 31)) &&& 15) = 15 then y_Model_undefined σ else (if ((v0 >>> ((8 : Int32) &&& 31)) &&& 15) = 15 then y_Model_undefined σ else (if (v0 &&& 15) = 15 then y_Model_undefined σ else (if ((v0 >>> ((22 : Int32) &&& 31)) &&& 3) = 1 then y_Model_undefined σ else (if ((v0 >>> ((22 : Int32) &&& 31)) &&& 3) ≤ 1 then y_Model_multiply_87 σ v0 else (if ((v0 >>> ((12 : Int32) &&& 31)) &&& 15) = ((v0 >>> ((16 : Int32) &&& 31)) &&& 15) then y_Model_undefined σ else y_Model_multiply_87 σ v0)))))))
set_option maxRecDepth 20000 in
set_option maxHeartbeats 4000000 in
theorem cy_Model_multiply (l : Launch) (G : KG) (σ : MS) (v0 : Int32) : KV l yX11_multiply (Cond.code yX11_multiply cX11_multiply 15 none :: lw_all) (kr 3) (gD G) vwCl (gT G) (mZ G) (mW G) [.ref (gA G 20), .int v0] σ (y_Model_multiply σ v0) := by
  refine kc_in_v (q := y_Model_multiply σ v0) (by decide) rfl (Nat.le_of_ble_eq_true rfl) ?_
  intro p e s m args below meth c A Q ls hx hb hml hown hts hK hP hD hA hS hZ hl hret
  have hts := fun w h => hts w (List.mem_cons_of_mem _ h)
  have hl : lv_has ls 15 [(0, .ref (gA G 20)), (1, .int v0)] := hl
  have hf : y_Model_multiply σ v0 = y_Model_multiply σ v0 := rfl
  have J267 : ∀ (k0_202 : Int64) (k0_231 : Int64) (k0_267 : Int64) (H : Heap) (locs : List Loc) (ls : Array Slot), va_P (gD G) vwCl (mW G (σ)) H → va_D A (mW G (σ)) → va_S A s.heap H locs → lv_has ls 15 [(0, .ref (gA G 20)), (2, .int ((v0 >>> ((16 : Int32) &&& 31)) &&& 15)), (3, .int ((v0 >>> ((12 : Int32) &&& 31)) &&& 15)), (8, .int (b01 (decide (((v0 >>> ((20 : Int32) &&& 31)) &&& 1) = 1))))] → y_Model_multiply σ v0 = y_Model_multiply_267 σ v0 k0_202 k0_231 k0_267 → W p l e (kr 3) s m args below meth c H locs 0 0 Q (F0 m 267 ls [.long k0_267, .long (k0_202 * k0_231)]) := by
    intro k0_202 k0_231 k0_267 H locs ls hP hD hS hl hf
    refine lv_ladd hx hb dX11_multiply_267 ?_
    refine lv_lstore (lv' := [(13, .long ((k0_202 * k0_231) + k0_267)), (0, .ref (gA G 20)), (2, .int ((v0 >>> ((16 : Int32) &&& 31)) &&& 15)), (3, .int ((v0 >>> ((12 : Int32) &&& 31)) &&& 15)), (8, .int (b01 (decide (((v0 >>> ((20 : Int32) &&& 31)) &&& 1) = 1))))]) hx hb dX11_multiply_268 hl (by decide) rfl (fun ls hl => ?_)
    refine lv_aload_n hx hb dX11_multiply_270 rfl (lv_at hl 1 rfl) ?_
    refine lv_iload_n hx hb dX11_multiply_271 rfl (lv_at hl 3 rfl) ?_
    refine lv_lload hx hb dX11_multiply_272 (lv_at hl 0 rfl) ?_
    refine lv_l2i (v := ((k0_202 * k0_231) + k0_267).toInt32) hx hb dX11_multiply_274 rfl ?_
    refine kc_Vv (rest := []) (cy_Model_put l G σ ((v0 >>> ((12 : Int32) &&& 31)) &&& 15) (((k0_202 * k0_231) + k0_267).toInt32) (pk_andIn _ 4 (by decide) (by decide))) ⟨hx, hb, hml, hown, hts⟩ (cwV 2 hts (gi_V kw_806 kw_807 kw_808 kw_5 kw_809) rfl rfl rfl ⟨rfl, mdX11_put⟩ ⟨by decide, by decide⟩) (va_recv hK hP (ci := 9) (q0 := 0) rfl rfl) mZ_ok hK hP hD hS hA hZ rfl hl.1 rfl (Nat.le_of_ble_eq_true rfl) dX11_multiply_275 ⟨Nat.zero_le _, Nat.zero_le _⟩ (fun H locs hP hD hS => ?_)
    refine lv_aload_n hx hb dX11_multiply_278 rfl (lv_at hl 1 rfl) ?_
    refine lv_iload_n hx hb dX11_multiply_279 rfl (lv_at hl 2 rfl) ?_
    refine lv_lload hx hb dX11_multiply_280 (lv_at hl 0 rfl) ?_
    refine lv_bipush (v := 32) hx hb dX11_multiply_282 (by decide) ?_
    refine lv_lshr (v := lsr ((k0_202 * k0_231) + k0_267) 32) hx hb dX11_multiply_284 rfl ?_
    refine lv_l2i (v := (lsr ((k0_202 * k0_231) + k0_267) 32).toInt32) hx hb dX11_multiply_285 rfl ?_
    refine kc_Vv (rest := []) (cy_Model_put l G (y_Model_put σ ((v0 >>> ((12 : Int32) &&& 31)) &&& 15) (((k0_202 * k0_231) + k0_267).toInt32)) ((v0 >>> ((16 : Int32) &&& 31)) &&& 15) ((lsr ((k0_202 * k0_231) + k0_267) 32).toInt32) (pk_andIn _ 4 (by decide) (by decide))) ⟨hx, hb, hml, hown, hts⟩ (cwV 2 hts (gi_V kw_806 kw_807 kw_808 kw_5 kw_809) rfl rfl rfl ⟨rfl, mdX11_put⟩ ⟨by decide, by decide⟩) (va_recv hK hP (ci := 9) (q0 := 0) rfl rfl) mZ_ok hK hP hD hS hA hZ rfl hl.1 rfl (Nat.le_of_ble_eq_true rfl) dX11_multiply_286 ⟨Nat.zero_le _, Nat.zero_le _⟩ (fun H locs hP hD hS => ?_)
    refine lv_iload hx hb dX11_multiply_289 (lv_at hl 4 rfl) ?_
    refine kz_eq (tgt := 321) hx hb dX11_multiply_291 (by decide) (fun h_19 => ?_) (fun h_19 => ?_)
    · have hf := hf.trans (if_neg h_19)
      exact hret (y_Model_put (y_Model_put σ ((v0 >>> ((12 : Int32) &&& 31)) &&& 15) (((k0_202 * k0_231) + k0_267).toInt32)) ((v0 >>> ((16 : Int32) &&& 31)) &&& 15) ((lsr ((k0_202 * k0_231) + k0_267) 32).toInt32)) _ _ _ _ hf hP hD hS dX11_multiply_321
    · have hf := hf.trans (if_pos h_19)
      refine lv_aload_n hx hb dX11_multiply_294 rfl (lv_at hl 1 rfl) ?_
      refine lv_lload hx hb dX11_multiply_295 (lv_at hl 0 rfl) ?_
      refine lv_lconst (v := 0) hx hb dX11_multiply_297 (by decide) ?_
      refine W.lcmp hx hb dX11_multiply_298 ?_
      refine lv_if_ge (tgt := 306) hx hb dX11_multiply_299 (by decide) (fun h_20 => ?_) (fun h_20 => ?_)
      · have hf := hf.trans (if_pos h_20)
        refine lv_lload hx hb dX11_multiply_306 (lv_at hl 0 rfl) ?_
        refine lv_lconst (v := 0) hx hb dX11_multiply_308 (by decide) ?_
        refine W.lcmp hx hb dX11_multiply_309 ?_
        refine lv_if_ne (tgt := 317) hx hb dX11_multiply_310 (by decide) (fun h_21 => ?_) (fun h_21 => ?_)
        · have hf := hf.trans (if_neg h_21)
          refine lv_iconst (v := 1) hx hb dX11_multiply_317 (by decide) ?_
          refine kc_Vv (rest := []) (cy_Model_setFlags l G (y_Model_put (y_Model_put σ ((v0 >>> ((12 : Int32) &&& 31)) &&& 15) (((k0_202 * k0_231) + k0_267).toInt32)) ((v0 >>> ((16 : Int32) &&& 31)) &&& 15) ((lsr ((k0_202 * k0_231) + k0_267) 32).toInt32)) 1) ⟨hx, hb, hml, hown, hts⟩ (cwV 1 hts (gi_V kw_785 kw_786 kw_787 kw_5 kw_788) rfl rfl rfl ⟨rfl, mdX11_setFlags⟩ ⟨by decide, by decide⟩) (va_recv hK hP (ci := 9) (q0 := 0) rfl rfl) mZ_ok hK hP hD hS hA hZ rfl hl.1 rfl (Nat.le_of_ble_eq_true rfl) dX11_multiply_318 ⟨Nat.zero_le _, Nat.zero_le _⟩ (fun H locs hP hD hS => ?_)
          exact hret (y_Model_setFlags (y_Model_put (y_Model_put σ ((v0 >>> ((12 : Int32) &&& 31)) &&& 15) (((k0_202 * k0_231) + k0_267).toInt32)) ((v0 >>> ((16 : Int32) &&& 31)) &&& 15) ((lsr ((k0_202 * k0_231) + k0_267) 32).toInt32)) 1) _ _ _ _ hf hP hD hS dX11_multiply_321
        · have hf := hf.trans (if_pos h_21)
          refine lv_iconst (v := 0) hx hb dX11_multiply_313 (by decide) ?_
          refine lv_goto (tgt := 318) hx hb dX11_multiply_314 (by decide) ?_
          refine kc_Vv (rest := []) (cy_Model_setFlags l G (y_Model_put (y_Model_put σ ((v0 >>> ((12 : Int32) &&& 31)) &&& 15) (((k0_202 * k0_231) + k0_267).toInt32)) ((v0 >>> ((16 : Int32) &&& 31)) &&& 15) ((lsr ((k0_202 * k0_231) + k0_267) 32).toInt32)) 0) ⟨hx, hb, hml, hown, hts⟩ (cwV 1 hts (gi_V kw_785 kw_786 kw_787 kw_5 kw_788) rfl rfl rfl ⟨rfl, mdX11_setFlags⟩ ⟨by decide, by decide⟩) (va_recv hK hP (ci := 9) (q0 := 0) rfl rfl) mZ_ok hK hP hD hS hA hZ rfl hl.1 rfl (Nat.le_of_ble_eq_true rfl) dX11_multiply_318 ⟨Nat.zero_le _, Nat.zero_le _⟩ (fun H locs hP hD hS => ?_)
          exact hret (y_Model_setFlags (y_Model_put (y_Model_put σ ((v0 >>> ((12 : Int32) &&& 31)) &&& 15) (((k0_202 * k0_231) + k0_267).toInt32)) ((v0 >>> ((16 : Int32) &&& 31)) &&& 15) ((lsr ((k0_202 * k0_231) + k0_267) 32).toInt32)) 0) _ _ _ _ hf hP hD hS dX11_multiply_321
      · have hf := hf.trans (if_neg h_20)
        refine lv_iconst (v := (-1)) hx hb dX11_multiply_302 (by decide) ?_
        refine lv_goto (tgt := 318) hx hb dX11_multiply_303 (by decide) ?_
        refine kc_Vv (rest := []) (cy_Model_setFlags l G (y_Model_put (y_Model_put σ ((v0 >>> ((12 : Int32) &&& 31)) &&& 15) (((k0_202 * k0_231) + k0_267).toInt32)) ((v0 >>> ((16 : Int32) &&& 31)) &&& 15) ((lsr ((k0_202 * k0_231) + k0_267) 32).toInt32)) (-1)) ⟨hx, hb, hml, hown, hts⟩ (cwV 1 hts (gi_V kw_785 kw_786 kw_787 kw_5 kw_788) rfl rfl rfl ⟨rfl, mdX11_setFlags⟩ ⟨by decide, by decide⟩) (va_recv hK hP (ci := 9) (q0 := 0) rfl rfl) mZ_ok hK hP hD hS hA hZ rfl hl.1 rfl (Nat.le_of_ble_eq_true rfl) dX11_multiply_318 ⟨Nat.zero_le _, Nat.zero_le _⟩ (fun H locs hP hD hS => ?_)
        exact hret (y_Model_setFlags (y_Model_put (y_Model_put σ ((v0 >>> ((12 : Int32) &&& 31)) &&& 15) (((k0_202 * k0_231) + k0_267).toInt32)) ((v0 >>> ((16 : Int32) &&& 31)) &&& 15) ((lsr ((k0_202 * k0_231) + k0_267) 32).toInt32)) (-1)) _ _ _ _ hf hP hD hS dX11_multiply_321
  have J231 : ∀ (k0_202 : Int64) (k0_231 : Int64) (H : Heap) (locs : List Loc) (ls : Array Slot), va_P (gD G) vwCl (mW G (σ)) H → va_D A (mW G (σ)) → va_S A s.heap H locs → lv_has ls 15 [(0, .ref (gA G 20)), (2, .int ((v0 >>> ((16 : Int32) &&& 31)) &&& 15)), (3, .int ((v0 >>> ((12 : Int32) &&& 31)) &&& 15)), (7, .int (b01 (decide (((v0 >>> ((21 : Int32) &&& 31)) &&& 1) = 1)))), (8, .int (b01 (decide (((v0 >>> ((20 : Int32) &&& 31)) &&& 1) = 1)))), (9, .long k0_202)] → y_Model_multiply σ v0 = y_Model_multiply_231 σ v0 k0_202 k0_231 → W p l e (kr 3) s m args below meth c H locs 0 0 Q (F0 m 231 ls [.long k0_231]) := by
    intro k0_202 k0_231 H locs ls hP hD hS hl hf
    refine lv_lstore (lv' := [(11, .long k0_231), (0, .ref (gA G 20)), (2, .int ((v0 >>> ((16 : Int32) &&& 31)) &&& 15)), (3, .int ((v0 >>> ((12 : Int32) &&& 31)) &&& 15)), (7, .int (b01 (decide (((v0 >>> ((21 : Int32) &&& 31)) &&& 1) = 1)))), (8, .int (b01 (decide (((v0 >>> ((20 : Int32) &&& 31)) &&& 1) = 1)))), (9, .long k0_202)]) hx hb dX11_multiply_231 hl (by decide) rfl (fun ls hl => ?_)
    refine lv_lload hx hb dX11_multiply_233 (lv_at hl 6 rfl) ?_
    refine lv_lload hx hb dX11_multiply_235 (lv_at hl 0 rfl) ?_
    refine lv_lmul hx hb dX11_multiply_237 ?_
    refine lv_iload hx hb dX11_multiply_238 (lv_at hl 4 rfl) ?_
    refine kz_eq (tgt := 266) hx hb dX11_multiply_240 (by decide) (fun h_22 => ?_) (fun h_22 => ?_)
    · have hf := hf.trans (if_neg h_22)
      refine lv_lconst (v := 0) hx hb dX11_multiply_266 (by decide) ?_
      exact J267 k0_202 k0_231 0 _ _ _ hP hD hS (lv_sub hl [1, 2, 3, 5] rfl) hf
    · have hf := hf.trans (if_pos h_22)
      refine lv_aload_n hx hb dX11_multiply_243 rfl (lv_at hl 1 rfl) ?_
      refine lv_iload_n hx hb dX11_multiply_244 rfl (lv_at hl 2 rfl) ?_
      refine kc_Vr (rest := [.long (k0_202 * k0_231)]) (cy_Model_at l G σ ((v0 >>> ((16 : Int32) &&& 31)) &&& 15) (pk_andIn _ 4 (by decide) (by decide))) ⟨hx, hb, hml, hown, hts⟩ (cwV 1 hts (gi_V kw_753 kw_754 kw_755 kw_5 kw_756) rfl rfl rfl ⟨rfl, mdX11_at⟩ ⟨by decide, by decide⟩) (va_recv hK hP (ci := 9) (q0 := 0) rfl rfl) mZ_ok hK hP hD hS hA hZ rfl hl.1 rfl (Nat.le_of_ble_eq_true rfl) dX11_multiply_245 ⟨Nat.zero_le _, Nat.zero_le _⟩ (fun H locs hP hD hS => ?_)
      refine lv_i2l (v := (y_Model_at σ ((v0 >>> ((16 : Int32) &&& 31)) &&& 15)).toInt64) hx hb dX11_multiply_248 rfl ?_
      refine lv_bipush (v := 32) hx hb dX11_multiply_249 (by decide) ?_
      refine lv_lshl (v := lsl ((y_Model_at σ ((v0 >>> ((16 : Int32) &&& 31)) &&& 15)).toInt64) 32) hx hb dX11_multiply_251 rfl ?_
      refine lv_aload_n hx hb dX11_multiply_252 rfl (lv_at hl 1 rfl) ?_
      refine lv_iload_n hx hb dX11_multiply_253 rfl (lv_at hl 3 rfl) ?_
      refine kc_Vr (rest := [.long (lsl ((y_Model_at σ ((v0 >>> ((16 : Int32) &&& 31)) &&& 15)).toInt64) 32), .long (k0_202 * k0_231)]) (cy_Model_at l G σ ((v0 >>> ((12 : Int32) &&& 31)) &&& 15) (pk_andIn _ 4 (by decide) (by decide))) ⟨hx, hb, hml, hown, hts⟩ (cwV 1 hts (gi_V kw_753 kw_754 kw_755 kw_5 kw_756) rfl rfl rfl ⟨rfl, mdX11_at⟩ ⟨by decide, by decide⟩) (va_recv hK hP (ci := 9) (q0 := 0) rfl rfl) mZ_ok hK hP hD hS hA hZ rfl hl.1 rfl (Nat.le_of_ble_eq_true rfl) dX11_multiply_254 ⟨Nat.zero_le _, Nat.zero_le _⟩ (fun H locs hP hD hS => ?_)
      refine lv_i2l (v := (y_Model_at σ ((v0 >>> ((12 : Int32) &&& 31)) &&& 15)).toInt64) hx hb dX11_multiply_257 rfl ?_
      refine lv_ldc2 (v := 4294967295) hx hb hown (hts _ kw_780) dX11_multiply_258 ?_
      refine lv_land hx hb dX11_multiply_261 ?_
      refine lv_lor hx hb dX11_multiply_262 ?_
      refine lv_goto (tgt := 267) hx hb dX11_multiply_263 (by decide) ?_
      exact J267 k0_202 k0_231 ((lsl ((y_Model_at σ ((v0 >>> ((16 : Int32) &&& 31)) &&& 15)).toInt64) 32) ||| (((y_Model_at σ ((v0 >>> ((12 : Int32) &&& 31)) &&& 15)).toInt64) &&& 4294967295)) _ _ _ hP hD hS (lv_sub hl [1, 2, 3, 5] rfl) hf
  have J202 : ∀ (k0_202 : Int64) (H : Heap) (locs : List Loc) (ls : Array Slot), va_P (gD G) vwCl (mW G (σ)) H → va_D A (mW G (σ)) → va_S A s.heap H locs → lv_has ls 15 [(0, .ref (gA G 20)), (2, .int ((v0 >>> ((16 : Int32) &&& 31)) &&& 15)), (3, .int ((v0 >>> ((12 : Int32) &&& 31)) &&& 15)), (4, .int ((v0 >>> ((8 : Int32) &&& 31)) &&& 15)), (6, .int ((v0 >>> ((22 : Int32) &&& 31)) &&& 3)), (7, .int (b01 (decide (((v0 >>> ((21 : Int32) &&& 31)) &&& 1) = 1)))), (8, .int (b01 (decide (((v0 >>> ((20 : Int32) &&& 31)) &&& 1) = 1))))] → y_Model_multiply σ v0 = y_Model_multiply_202 σ v0 k0_202 → W p l e (kr 3) s m args below meth c H locs 0 0 Q (F0 m 202 ls [.long k0_202]) := by
    intro k0_202 H locs ls hP hD hS hl hf
    refine lv_lstore (lv' := [(9, .long k0_202), (0, .ref (gA G 20)), (2, .int ((v0 >>> ((16 : Int32) &&& 31)) &&& 15)), (3, .int ((v0 >>> ((12 : Int32) &&& 31)) &&& 15)), (4, .int ((v0 >>> ((8 : Int32) &&& 31)) &&& 15)), (6, .int ((v0 >>> ((22 : Int32) &&& 31)) &&& 3)), (7, .int (b01 (decide (((v0 >>> ((21 : Int32) &&& 31)) &&& 1) = 1)))), (8, .int (b01 (decide (((v0 >>> ((20 : Int32) &&& 31)) &&& 1) = 1))))]) hx hb dX11_multiply_202 hl (by decide) rfl (fun ls hl => ?_)
    refine lv_iload hx hb dX11_multiply_204 (lv_at hl 5 rfl) ?_
    refine lv_iconst (v := 3) hx hb dX11_multiply_206 (by decide) ?_
    refine lv_icmp_ne (tgt := 220) hx hb dX11_multiply_207 (by decide) (fun h_23 => ?_) (fun h_23 => ?_)
    · have hf := hf.trans (if_neg h_23)
      refine lv_aload_n hx hb dX11_multiply_220 rfl (lv_at hl 1 rfl) ?_
      refine lv_iload hx hb dX11_multiply_221 (lv_at hl 4 rfl) ?_
      refine kc_Vr (rest := []) (cy_Model_at l G σ ((v0 >>> ((8 : Int32) &&& 31)) &&& 15) (pk_andIn _ 4 (by decide) (by decide))) ⟨hx, hb, hml, hown, hts⟩ (cwV 1 hts (gi_V kw_753 kw_754 kw_755 kw_5 kw_756) rfl rfl rfl ⟨rfl, mdX11_at⟩ ⟨by decide, by decide⟩) (va_recv hK hP (ci := 9) (q0 := 0) rfl rfl) mZ_ok hK hP hD hS hA hZ rfl hl.1 rfl (Nat.le_of_ble_eq_true rfl) dX11_multiply_223 ⟨Nat.zero_le _, Nat.zero_le _⟩ (fun H locs hP hD hS => ?_)
      refine lv_i2l (v := (y_Model_at σ ((v0 >>> ((8 : Int32) &&& 31)) &&& 15)).toInt64) hx hb dX11_multiply_226 rfl ?_
      refine lv_ldc2 (v := 4294967295) hx hb hown (hts _ kw_780) dX11_multiply_227 ?_
      refine lv_land hx hb dX11_multiply_230 ?_
      exact J231 k0_202 (((y_Model_at σ ((v0 >>> ((8 : Int32) &&& 31)) &&& 15)).toInt64) &&& 4294967295) _ _ _ hP hD hS (lv_sub hl [1, 2, 3, 6, 7, 0] rfl) hf
    · have hf := hf.trans (if_pos h_23)
      refine lv_aload_n hx hb dX11_multiply_210 rfl (lv_at hl 1 rfl) ?_
      refine lv_iload hx hb dX11_multiply_211 (lv_at hl 4 rfl) ?_
      refine kc_Vr (rest := []) (cy_Model_at l G σ ((v0 >>> ((8 : Int32) &&& 31)) &&& 15) (pk_andIn _ 4 (by decide) (by decide))) ⟨hx, hb, hml, hown, hts⟩ (cwV 1 hts (gi_V kw_753 kw_754 kw_755 kw_5 kw_756) rfl rfl rfl ⟨rfl, mdX11_at⟩ ⟨by decide, by decide⟩) (va_recv hK hP (ci := 9) (q0 := 0) rfl rfl) mZ_ok hK hP hD hS hA hZ rfl hl.1 rfl (Nat.le_of_ble_eq_true rfl) dX11_multiply_213 ⟨Nat.zero_le _, Nat.zero_le _⟩ (fun H locs hP hD hS => ?_)
      refine lv_i2l (v := (y_Model_at σ ((v0 >>> ((8 : Int32) &&& 31)) &&& 15)).toInt64) hx hb dX11_multiply_216 rfl ?_
      refine lv_goto (tgt := 231) hx hb dX11_multiply_217 (by decide) ?_
      exact J231 k0_202 ((y_Model_at σ ((v0 >>> ((8 : Int32) &&& 31)) &&& 15)).toInt64) _ _ _ hP hD hS (lv_sub hl [1, 2, 3, 6, 7, 0] rfl) hf
  have J153 : ∀ (k0_153 : Int32) (H : Heap) (locs : List Loc) (ls : Array Slot), va_P (gD G) vwCl (mW G (σ)) H → va_D A (mW G (σ)) → va_S A s.heap H locs → lv_has ls 15 [(0, .ref (gA G 20)), (2, .int ((v0 >>> ((16 : Int32) &&& 31)) &&& 15)), (8, .int (b01 (decide (((v0 >>> ((20 : Int32) &&& 31)) &&& 1) = 1))))] → y_Model_multiply σ v0 = y_Model_multiply_153 σ v0 k0_153 → W p l e (kr 3) s m args below meth c H locs 0 0 Q (F0 m 153 ls [.int k0_153, .int ((y_Model_at σ (v0 &&& 15)) * (y_Model_at σ ((v0 >>> ((8 : Int32) &&& 31)) &&& 15)))]) := by
    intro k0_153 H locs ls hP hD hS hl hf
    refine lv_iadd hx hb dX11_multiply_153 ?_
    refine lv_istore (lv' := [(9, .int (((y_Model_at σ (v0 &&& 15)) * (y_Model_at σ ((v0 >>> ((8 : Int32) &&& 31)) &&& 15))) + k0_153)), (0, .ref (gA G 20)), (2, .int ((v0 >>> ((16 : Int32) &&& 31)) &&& 15)), (8, .int (b01 (decide (((v0 >>> ((20 : Int32) &&& 31)) &&& 1) = 1))))]) hx hb dX11_multiply_154 hl (by decide) rfl (fun ls hl => ?_)
    refine lv_aload_n hx hb dX11_multiply_156 rfl (lv_at hl 1 rfl) ?_
    refine lv_iload_n hx hb dX11_multiply_157 rfl (lv_at hl 2 rfl) ?_
    refine lv_iload hx hb dX11_multiply_158 (lv_at hl 0 rfl) ?_
    refine kc_Vv (rest := []) (cy_Model_put l G σ ((v0 >>> ((16 : Int32) &&& 31)) &&& 15) (((y_Model_at σ (v0 &&& 15)) * (y_Model_at σ ((v0 >>> ((8 : Int32) &&& 31)) &&& 15))) + k0_153) (pk_andIn _ 4 (by decide) (by decide))) ⟨hx, hb, hml, hown, hts⟩ (cwV 2 hts (gi_V kw_806 kw_807 kw_808 kw_5 kw_809) rfl rfl rfl ⟨rfl, mdX11_put⟩ ⟨by decide, by decide⟩) (va_recv hK hP (ci := 9) (q0 := 0) rfl rfl) mZ_ok hK hP hD hS hA hZ rfl hl.1 rfl (Nat.le_of_ble_eq_true rfl) dX11_multiply_160 ⟨Nat.zero_le _, Nat.zero_le _⟩ (fun H locs hP hD hS => ?_)
    refine lv_iload hx hb dX11_multiply_163 (lv_at hl 3 rfl) ?_
    refine kz_eq (tgt := 174) hx hb dX11_multiply_165 (by decide) (fun h_24 => ?_) (fun h_24 => ?_)
    · have hf := hf.trans (if_neg h_24)
      exact hret (y_Model_put σ ((v0 >>> ((16 : Int32) &&& 31)) &&& 15) (((y_Model_at σ (v0 &&& 15)) * (y_Model_at σ ((v0 >>> ((8 : Int32) &&& 31)) &&& 15))) + k0_153)) _ _ _ _ hf hP hD hS dX11_multiply_174
    · have hf := hf.trans (if_pos h_24)
      refine lv_aload_n hx hb dX11_multiply_168 rfl (lv_at hl 1 rfl) ?_
      refine lv_iload hx hb dX11_multiply_169 (lv_at hl 0 rfl) ?_
      refine kc_Vv (rest := []) (cy_Model_setFlags l G (y_Model_put σ ((v0 >>> ((16 : Int32) &&& 31)) &&& 15) (((y_Model_at σ (v0 &&& 15)) * (y_Model_at σ ((v0 >>> ((8 : Int32) &&& 31)) &&& 15))) + k0_153)) (((y_Model_at σ (v0 &&& 15)) * (y_Model_at σ ((v0 >>> ((8 : Int32) &&& 31)) &&& 15))) + k0_153)) ⟨hx, hb, hml, hown, hts⟩ (cwV 1 hts (gi_V kw_785 kw_786 kw_787 kw_5 kw_788) rfl rfl rfl ⟨rfl, mdX11_setFlags⟩ ⟨by decide, by decide⟩) (va_recv hK hP (ci := 9) (q0 := 0) rfl rfl) mZ_ok hK hP hD hS hA hZ rfl hl.1 rfl (Nat.le_of_ble_eq_true rfl) dX11_multiply_171 ⟨Nat.zero_le _, Nat.zero_le _⟩ (fun H locs hP hD hS => ?_)
      exact hret (y_Model_setFlags (y_Model_put σ ((v0 >>> ((16 : Int32) &&& 31)) &&& 15) (((y_Model_at σ (v0 &&& 15)) * (y_Model_at σ ((v0 >>> ((8 : Int32) &&& 31)) &&& 15))) + k0_153)) (((y_Model_at σ (v0 &&& 15)) * (y_Model_at σ ((v0 >>> ((8 : Int32) &&& 31)) &&& 15))) + k0_153)) _ _ _ _ hf hP hD hS dX11_multiply_174
  have J87 : ∀ (H : Heap) (locs : List Loc) (ls : Array Slot), va_P (gD G) vwCl (mW G (σ)) H → va_D A (mW G (σ)) → va_S A s.heap H locs → lv_has ls 15 [(0, .ref (gA G 20)), (1, .int v0), (2, .int ((v0 >>> ((16 : Int32) &&& 31)) &&& 15)), (3, .int ((v0 >>> ((12 : Int32) &&& 31)) &&& 15)), (4, .int ((v0 >>> ((8 : Int32) &&& 31)) &&& 15)), (5, .int (v0 &&& 15)), (6, .int ((v0 >>> ((22 : Int32) &&& 31)) &&& 3))] → y_Model_multiply σ v0 = y_Model_multiply_87 σ v0 → W p l e (kr 3) s m args below meth c H locs 0 0 Q (F0 m 87 ls []) := by
    intro H locs ls hP hD hS hl hf
    refine lv_iload_n hx hb dX11_multiply_87 rfl (lv_at hl 1 rfl) ?_
    refine lv_bipush (v := 21) hx hb dX11_multiply_88 (by decide) ?_
    refine lv_ishr hx hb dX11_multiply_90 ?_
    refine lv_iconst (v := 1) hx hb dX11_multiply_91 (by decide) ?_
    refine lv_iand hx hb dX11_multiply_92 ?_
    refine lv_iconst (v := 1) hx hb dX11_multiply_93 (by decide) ?_
    refine kz_dN0 (P := ((v0 >>> ((21 : Int32) &&& 31)) &&& 1) = 1) (tgt := 101) (M := 102) (fun a b => lv_icmp_ne (tgt := 101) hx hb dX11_multiply_94 (by decide) a b) hx hb dX11_multiply_97 dX11_multiply_98 (by decide) dX11_multiply_101 rfl ?_
    refine lv_istore (lv' := [(7, .int (b01 (decide (((v0 >>> ((21 : Int32) &&& 31)) &&& 1) = 1)))), (0, .ref (gA G 20)), (1, .int v0), (2, .int ((v0 >>> ((16 : Int32) &&& 31)) &&& 15)), (3, .int ((v0 >>> ((12 : Int32) &&& 31)) &&& 15)), (4, .int ((v0 >>> ((8 : Int32) &&& 31)) &&& 15)), (5, .int (v0 &&& 15)), (6, .int ((v0 >>> ((22 : Int32) &&& 31)) &&& 3))]) hx hb dX11_multiply_102 hl (by decide) rfl (fun ls hl => ?_)
    refine lv_iload_n hx hb dX11_multiply_104 rfl (lv_at hl 2 rfl) ?_
    refine lv_bipush (v := 20) hx hb dX11_multiply_105 (by decide) ?_
    refine lv_ishr hx hb dX11_multiply_107 ?_
    refine lv_iconst (v := 1) hx hb dX11_multiply_108 (by decide) ?_
    refine lv_iand hx hb dX11_multiply_109 ?_
    refine lv_iconst (v := 1) hx hb dX11_multiply_110 (by decide) ?_
    refine kz_dN0 (P := ((v0 >>> ((20 : Int32) &&& 31)) &&& 1) = 1) (tgt := 118) (M := 119) (fun a b => lv_icmp_ne (tgt := 118) hx hb dX11_multiply_111 (by decide) a b) hx hb dX11_multiply_114 dX11_multiply_115 (by decide) dX11_multiply_118 rfl ?_
    refine lv_istore (lv' := [(8, .int (b01 (decide (((v0 >>> ((20 : Int32) &&& 31)) &&& 1) = 1)))), (7, .int (b01 (decide (((v0 >>> ((21 : Int32) &&& 31)) &&& 1) = 1)))), (0, .ref (gA G 20)), (1, .int v0), (2, .int ((v0 >>> ((16 : Int32) &&& 31)) &&& 15)), (3, .int ((v0 >>> ((12 : Int32) &&& 31)) &&& 15)), (4, .int ((v0 >>> ((8 : Int32) &&& 31)) &&& 15)), (5, .int (v0 &&& 15)), (6, .int ((v0 >>> ((22 : Int32) &&& 31)) &&& 3))]) hx hb dX11_multiply_119 hl (by decide) rfl (fun ls hl => ?_)
    refine lv_iload hx hb dX11_multiply_121 (lv_at hl 8 rfl) ?_
    refine lv_if_ne (tgt := 175) hx hb dX11_multiply_123 (by decide) (fun h_27 => ?_) (fun h_27 => ?_)
    · have hf := hf.trans (if_neg h_27)
      refine lv_iload hx hb dX11_multiply_175 (lv_at hl 8 rfl) ?_
      refine lv_iconst (v := 3) hx hb dX11_multiply_177 (by decide) ?_
      refine lv_icmp_ne (tgt := 191) hx hb dX11_multiply_178 (by decide) (fun h_28 => ?_) (fun h_28 => ?_)
      · have hf := hf.trans (if_neg h_28)
        refine lv_aload_n hx hb dX11_multiply_191 rfl (lv_at hl 2 rfl) ?_
        refine lv_iload hx hb dX11_multiply_192 (lv_at hl 7 rfl) ?_
        refine kc_Vr (rest := []) (cy_Model_at l G σ (v0 &&& 15) (pk_andIn _ 4 (by decide) (by decide))) ⟨hx, hb, hml, hown, hts⟩ (cwV 1 hts (gi_V kw_753 kw_754 kw_755 kw_5 kw_756) rfl rfl rfl ⟨rfl, mdX11_at⟩ ⟨by decide, by decide⟩) (va_recv hK hP (ci := 9) (q0 := 0) rfl rfl) mZ_ok hK hP hD hS hA hZ rfl hl.1 rfl (Nat.le_of_ble_eq_true rfl) dX11_multiply_194 ⟨Nat.zero_le _, Nat.zero_le _⟩ (fun H locs hP hD hS => ?_)
        refine lv_i2l (v := (y_Model_at σ (v0 &&& 15)).toInt64) hx hb dX11_multiply_197 rfl ?_
        refine lv_ldc2 (v := 4294967295) hx hb hown (hts _ kw_780) dX11_multiply_198 ?_
        refine lv_land hx hb dX11_multiply_201 ?_
        exact J202 (((y_Model_at σ (v0 &&& 15)).toInt64) &&& 4294967295) _ _ _ hP hD hS (lv_sub hl [2, 4, 5, 6, 8, 1, 0] rfl) hf
      · have hf := hf.trans (if_pos h_28)
        refine lv_aload_n hx hb dX11_multiply_181 rfl (lv_at hl 2 rfl) ?_
        refine lv_iload hx hb dX11_multiply_182 (lv_at hl 7 rfl) ?_
        refine kc_Vr (rest := []) (cy_Model_at l G σ (v0 &&& 15) (pk_andIn _ 4 (by decide) (by decide))) ⟨hx, hb, hml, hown, hts⟩ (cwV 1 hts (gi_V kw_753 kw_754 kw_755 kw_5 kw_756) rfl rfl rfl ⟨rfl, mdX11_at⟩ ⟨by decide, by decide⟩) (va_recv hK hP (ci := 9) (q0 := 0) rfl rfl) mZ_ok hK hP hD hS hA hZ rfl hl.1 rfl (Nat.le_of_ble_eq_true rfl) dX11_multiply_184 ⟨Nat.zero_le _, Nat.zero_le _⟩ (fun H locs hP hD hS => ?_)
        refine lv_i2l (v := (y_Model_at σ (v0 &&& 15)).toInt64) hx hb dX11_multiply_187 rfl ?_
        refine lv_goto (tgt := 202) hx hb dX11_multiply_188 (by decide) ?_
        exact J202 ((y_Model_at σ (v0 &&& 15)).toInt64) _ _ _ hP hD hS (lv_sub hl [2, 4, 5, 6, 8, 1, 0] rfl) hf
    · have hf := hf.trans (if_pos h_27)
      refine lv_aload_n hx hb dX11_multiply_126 rfl (lv_at hl 2 rfl) ?_
      refine lv_iload hx hb dX11_multiply_127 (lv_at hl 7 rfl) ?_
      refine kc_Vr (rest := []) (cy_Model_at l G σ (v0 &&& 15) (pk_andIn _ 4 (by decide) (by decide))) ⟨hx, hb, hml, hown, hts⟩ (cwV 1 hts (gi_V kw_753 kw_754 kw_755 kw_5 kw_756) rfl rfl rfl ⟨rfl, mdX11_at⟩ ⟨by decide, by decide⟩) (va_recv hK hP (ci := 9) (q0 := 0) rfl rfl) mZ_ok hK hP hD hS hA hZ rfl hl.1 rfl (Nat.le_of_ble_eq_true rfl) dX11_multiply_129 ⟨Nat.zero_le _, Nat.zero_le _⟩ (fun H locs hP hD hS => ?_)
      refine lv_aload_n hx hb dX11_multiply_132 rfl (lv_at hl 2 rfl) ?_
      refine lv_iload hx hb dX11_multiply_133 (lv_at hl 6 rfl) ?_
      refine kc_Vr (rest := [.int (y_Model_at σ (v0 &&& 15))]) (cy_Model_at l G σ ((v0 >>> ((8 : Int32) &&& 31)) &&& 15) (pk_andIn _ 4 (by decide) (by decide))) ⟨hx, hb, hml, hown, hts⟩ (cwV 1 hts (gi_V kw_753 kw_754 kw_755 kw_5 kw_756) rfl rfl rfl ⟨rfl, mdX11_at⟩ ⟨by decide, by decide⟩) (va_recv hK hP (ci := 9) (q0 := 0) rfl rfl) mZ_ok hK hP hD hS hA hZ rfl hl.1 rfl (Nat.le_of_ble_eq_true rfl) dX11_multiply_135 ⟨Nat.zero_le _, Nat.zero_le _⟩ (fun H locs hP hD hS => ?_)
      refine lv_imul hx hb dX11_multiply_138 ?_
      refine lv_iload hx hb dX11_multiply_139 (lv_at hl 1 rfl) ?_
      refine kz_eq (tgt := 152) hx hb dX11_multiply_141 (by decide) (fun h_29 => ?_) (fun h_29 => ?_)
      · have hf := hf.trans (if_neg h_29)
        refine lv_iconst (v := 0) hx hb dX11_multiply_152 (by decide) ?_
        exact J153 0 _ _ _ hP hD hS (lv_sub hl [2, 4, 0] rfl) hf
      · have hf := hf.trans (if_pos h_29)
        refine lv_aload_n hx hb dX11_multiply_144 rfl (lv_at hl 2 rfl) ?_
        refine lv_iload_n hx hb dX11_multiply_145 rfl (lv_at hl 5 rfl) ?_
        refine kc_Vr (rest := [.int ((y_Model_at σ (v0 &&& 15)) * (y_Model_at σ ((v0 >>> ((8 : Int32) &&& 31)) &&& 15)))]) (cy_Model_at l G σ ((v0 >>> ((12 : Int32) &&& 31)) &&& 15) (pk_andIn _ 4 (by decide) (by decide))) ⟨hx, hb, hml, hown, hts⟩ (cwV 1 hts (gi_V kw_753 kw_754 kw_755 kw_5 kw_756) rfl rfl rfl ⟨rfl, mdX11_at⟩ ⟨by decide, by decide⟩) (va_recv hK hP (ci := 9) (q0 := 0) rfl rfl) mZ_ok hK hP hD hS hA hZ rfl hl.1 rfl (Nat.le_of_ble_eq_true rfl) dX11_multiply_146 ⟨Nat.zero_le _, Nat.zero_le _⟩ (fun H locs hP hD hS => ?_)
        refine lv_goto (tgt := 153) hx hb dX11_multiply_149 (by decide) ?_
        exact J153 (y_Model_at σ ((v0 >>> ((12 : Int32) &&& 31)) &&& 15)) _ _ _ hP hD hS (lv_sub hl [2, 4, 0] rfl) hf
  refine lv_iload_n hx hb dX11_multiply_0 rfl (lv_at hl 1 rfl) ?_
  refine lv_bipush (v := 16) hx hb dX11_multiply_1 (by decide) ?_
  refine lv_ishr hx hb dX11_multiply_3 ?_
  refine lv_bipush (v := 15) hx hb dX11_multiply_4 (by decide) ?_
  refine lv_iand hx hb dX11_multiply_6 ?_
  refine lv_istore_n (lv' := [(2, .int ((v0 >>> ((16 : Int32) &&& 31)) &&& 15)), (0, .ref (gA G 20)), (1, .int v0)]) hx hb dX11_multiply_7 rfl hl (by decide) rfl (fun ls hl => ?_)
  refine lv_iload_n hx hb dX11_multiply_8 rfl (lv_at hl 2 rfl) ?_
  refine lv_bipush (v := 12) hx hb dX11_multiply_9 (by decide) ?_
  refine lv_ishr hx hb dX11_multiply_11 ?_
  refine lv_bipush (v := 15) hx hb dX11_multiply_12 (by decide) ?_
  refine lv_iand hx hb dX11_multiply_14 ?_
  refine lv_istore_n (lv' := [(3, .int ((v0 >>> ((12 : Int32) &&& 31)) &&& 15)), (2, .int ((v0 >>> ((16 : Int32) &&& 31)) &&& 15)), (0, .ref (gA G 20)), (1, .int v0)]) hx hb dX11_multiply_15 rfl hl (by decide) rfl (fun ls hl => ?_)
  refine lv_iload_n hx hb dX11_multiply_16 rfl (lv_at hl 3 rfl) ?_
  refine lv_bipush (v := 8) hx hb dX11_multiply_17 (by decide) ?_
  refine lv_ishr hx hb dX11_multiply_19 ?_
  refine lv_bipush (v := 15) hx hb dX11_multiply_20 (by decide) ?_
  refine lv_iand hx hb dX11_multiply_22 ?_
  refine lv_istore (lv' := [(4, .int ((v0 >>> ((8 : Int32) &&& 31)) &&& 15)), (3, .int ((v0 >>> ((12 : Int32) &&& 31)) &&& 15)), (2, .int ((v0 >>> ((16 : Int32) &&& 31)) &&& 15)), (0, .ref (gA G 20)), (1, .int v0)]) hx hb dX11_multiply_23 hl (by decide) rfl (fun ls hl => ?_)
  refine lv_iload_n hx hb dX11_multiply_25 rfl (lv_at hl 4 rfl) ?_
  refine lv_bipush (v := 15) hx hb dX11_multiply_26 (by decide) ?_
  refine lv_iand hx hb dX11_multiply_28 ?_
  refine lv_istore (lv' := [(5, .int (v0 &&& 15)), (4, .int ((v0 >>> ((8 : Int32) &&& 31)) &&& 15)), (3, .int ((v0 >>> ((12 : Int32) &&& 31)) &&& 15)), (2, .int ((v0 >>> ((16 : Int32) &&& 31)) &&& 15)), (0, .ref (gA G 20)), (1, .int v0)]) hx hb dX11_multiply_29 hl (by decide) rfl (fun ls hl => ?_)
  refine lv_iload_n hx hb dX11_multiply_31 rfl (lv_at hl 5 rfl) ?_
  refine lv_bipush (v := 22) hx hb dX11_multiply_32 (by decide) ?_
  refine lv_ishr hx hb dX11_multiply_34 ?_
  refine lv_iconst (v := 3) hx hb dX11_multiply_35 (by decide) ?_
  refine lv_iand hx hb dX11_multiply_36 ?_
  refine lv_istore (lv' := [(6, .int ((v0 >>> ((22 : Int32) &&& 31)) &&& 3)), (5, .int (v0 &&& 15)), (4, .int ((v0 >>> ((8 : Int32) &&& 31)) &&& 15)), (3, .int ((v0 >>> ((12 : Int32) &&& 31)) &&& 15)), (2, .int ((v0 >>> ((16 : Int32) &&& 31)) &&& 15)), (0, .ref (gA G 20)), (1, .int v0)]) hx hb dX11_multiply_37 hl (by decide) rfl (fun ls hl => ?_)
  refine lv_iload_n hx hb dX11_multiply_39 rfl (lv_at hl 4 rfl) ?_
  refine lv_bipush (v := 15) hx hb dX11_multiply_40 (by decide) ?_
  refine lv_icmp_eq (tgt := 82) hx hb dX11_multiply_42 (by decide) (fun h_30 => ?_) (fun h_30 => ?_)
  · have hf := hf.trans (if_pos h_30)
    refine lv_aload_n hx hb dX11_multiply_82 rfl (lv_at hl 5 rfl) ?_
    refine kc_Vv (rest := []) (cy_Model_undefined l G σ) ⟨hx, hb, hml, hown, hts⟩ (cwV 0 hts (gi_V kw_822 kw_823 kw_824 kw_5 kw_825) rfl rfl rfl ⟨rfl, mdX11_undefined⟩ ⟨by decide, by decide⟩) (va_recv hK hP (ci := 9) (q0 := 0) rfl rfl) mZ_ok hK hP hD hS hA hZ rfl hl.1 rfl (Nat.le_of_ble_eq_true rfl) dX11_multiply_83 ⟨Nat.zero_le _, Nat.zero_le _⟩ (fun H locs hP hD hS => ?_)
    exact hret (y_Model_undefined σ) _ _ _ _ hf hP hD hS dX11_multiply_86
  · have hf := hf.trans (if_neg h_30)
    refine lv_iload_n hx hb dX11_multiply_45 rfl (lv_at hl 3 rfl) ?_
    refine lv_bipush (v := 15) hx hb dX11_multiply_46 (by decide) ?_
    refine lv_icmp_eq (tgt := 82) hx hb dX11_multiply_48 (by decide) (fun h_31 => ?_) (fun h_31 => ?_)
    · have hf := hf.trans (if_pos h_31)
      refine lv_aload_n hx hb dX11_multiply_82 rfl (lv_at hl 5 rfl) ?_
      refine kc_Vv (rest := []) (cy_Model_undefined l G σ) ⟨hx, hb, hml, hown, hts⟩ (cwV 0 hts (gi_V kw_822 kw_823 kw_824 kw_5 kw_825) rfl rfl rfl ⟨rfl, mdX11_undefined⟩ ⟨by decide, by decide⟩) (va_recv hK hP (ci := 9) (q0 := 0) rfl rfl) mZ_ok hK hP hD hS hA hZ rfl hl.1 rfl (Nat.le_of_ble_eq_true rfl) dX11_multiply_83 ⟨Nat.zero_le _, Nat.zero_le _⟩ (fun H locs hP hD hS => ?_)
      exact hret (y_Model_undefined σ) _ _ _ _ hf hP hD hS dX11_multiply_86
    · have hf := hf.trans (if_neg h_31)
      refine lv_iload hx hb dX11_multiply_51 (lv_at hl 2 rfl) ?_
      refine lv_bipush (v := 15) hx hb dX11_multiply_53 (by decide) ?_
      refine lv_icmp_eq (tgt := 82) hx hb dX11_multiply_55 (by decide) (fun h_32 => ?_) (fun h_32 => ?_)
      · have hf := hf.trans (if_pos h_32)
        refine lv_aload_n hx hb dX11_multiply_82 rfl (lv_at hl 5 rfl) ?_
        refine kc_Vv (rest := []) (cy_Model_undefined l G σ) ⟨hx, hb, hml, hown, hts⟩ (cwV 0 hts (gi_V kw_822 kw_823 kw_824 kw_5 kw_825) rfl rfl rfl ⟨rfl, mdX11_undefined⟩ ⟨by decide, by decide⟩) (va_recv hK hP (ci := 9) (q0 := 0) rfl rfl) mZ_ok hK hP hD hS hA hZ rfl hl.1 rfl (Nat.le_of_ble_eq_true rfl) dX11_multiply_83 ⟨Nat.zero_le _, Nat.zero_le _⟩ (fun H locs hP hD hS => ?_)
        exact hret (y_Model_undefined σ) _ _ _ _ hf hP hD hS dX11_multiply_86
      · have hf := hf.trans (if_neg h_32)
        refine lv_iload hx hb dX11_multiply_58 (lv_at hl 1 rfl) ?_
        refine lv_bipush (v := 15) hx hb dX11_multiply_60 (by decide) ?_
        refine lv_icmp_eq (tgt := 82) hx hb dX11_multiply_62 (by decide) (fun h_33 => ?_) (fun h_33 => ?_)
        · have hf := hf.trans (if_pos h_33)
          refine lv_aload_n hx hb dX11_multiply_82 rfl (lv_at hl 5 rfl) ?_
          refine kc_Vv (rest := []) (cy_Model_undefined l G σ) ⟨hx, hb, hml, hown, hts⟩ (cwV 0 hts (gi_V kw_822 kw_823 kw_824 kw_5 kw_825) rfl rfl rfl ⟨rfl, mdX11_undefined⟩ ⟨by decide, by decide⟩) (va_recv hK hP (ci := 9) (q0 := 0) rfl rfl) mZ_ok hK hP hD hS hA hZ rfl hl.1 rfl (Nat.le_of_ble_eq_true rfl) dX11_multiply_83 ⟨Nat.zero_le _, Nat.zero_le _⟩ (fun H locs hP hD hS => ?_)
          exact hret (y_Model_undefined σ) _ _ _ _ hf hP hD hS dX11_multiply_86
        · have hf := hf.trans (if_neg h_33)
          refine lv_iload hx hb dX11_multiply_65 (lv_at hl 0 rfl) ?_
          refine lv_iconst (v := 1) hx hb dX11_multiply_67 (by decide) ?_
          refine lv_icmp_eq (tgt := 82) hx hb dX11_multiply_68 (by decide) (fun h_34 => ?_) (fun h_34 => ?_)
          · have hf := hf.trans (if_pos h_34)
            refine lv_aload_n hx hb dX11_multiply_82 rfl (lv_at hl 5 rfl) ?_
            refine kc_Vv (rest := []) (cy_Model_undefined l G σ) ⟨hx, hb, hml, hown, hts⟩ (cwV 0 hts (gi_V kw_822 kw_823 kw_824 kw_5 kw_825) rfl rfl rfl ⟨rfl, mdX11_undefined⟩ ⟨by decide, by decide⟩) (va_recv hK hP (ci := 9) (q0 := 0) rfl rfl) mZ_ok hK hP hD hS hA hZ rfl hl.1 rfl (Nat.le_of_ble_eq_true rfl) dX11_multiply_83 ⟨Nat.zero_le _, Nat.zero_le _⟩ (fun H locs hP hD hS => ?_)
            exact hret (y_Model_undefined σ) _ _ _ _ hf hP hD hS dX11_multiply_86
          · have hf := hf.trans (if_neg h_34)
            refine lv_iload hx hb dX11_multiply_71 (lv_at hl 0 rfl) ?_
            refine lv_iconst (v := 1) hx hb dX11_multiply_73 (by decide) ?_
            refine lv_icmp_le (tgt := 87) hx hb dX11_multiply_74 (by decide) (fun h_35 => ?_) (fun h_35 => ?_)
            · have hf := hf.trans (if_pos h_35)
              exact J87 _ _ _ hP hD hS (lv_sub hl [5, 6, 4, 3, 2, 1, 0] rfl) hf
            · have hf := hf.trans (if_neg h_35)
              refine lv_iload_n hx hb dX11_multiply_77 rfl (lv_at hl 3 rfl) ?_
              refine lv_iload_n hx hb dX11_multiply_78 rfl (lv_at hl 4 rfl) ?_
              refine lv_icmp_ne (tgt := 87) hx hb dX11_multiply_79 (by decide) (fun h_36 => ?_) (fun h_36 => ?_)
              · have hf := hf.trans (if_neg h_36)
                exact J87 _ _ _ hP hD hS (lv_sub hl [5, 6, 4, 3, 2, 1, 0] rfl) hf
              · have hf := hf.trans (if_pos h_36)
                refine lv_aload_n hx hb dX11_multiply_82 rfl (lv_at hl 5 rfl) ?_
                refine kc_Vv (rest := []) (cy_Model_undefined l G σ) ⟨hx, hb, hml, hown, hts⟩ (cwV 0 hts (gi_V kw_822 kw_823 kw_824 kw_5 kw_825) rfl rfl rfl ⟨rfl, mdX11_undefined⟩ ⟨by decide, by decide⟩) (va_recv hK hP (ci := 9) (q0 := 0) rfl rfl) mZ_ok hK hP hD hS hA hZ rfl hl.1 rfl (Nat.le_of_ble_eq_true rfl) dX11_multiply_83 ⟨Nat.zero_le _, Nat.zero_le _⟩ (fun H locs hP hD hS => ?_)
                exact hret (y_Model_undefined σ) _ _ _ _ hf hP hD hS dX11_multiply_86
