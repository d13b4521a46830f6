def y_Model_arm_225 (σ : MS) (v0 : Int32) : MS := (if (y_Model_isStatus v0) = true then y_Model_toStatus σ v0 else (if 2 ≤ ((v0 >>> ((25 : Int32) &&& 31)) &&& 7) then (if 4 ≤ ((v0 >>> ((25 : Int32) &&& 31)) &&& 7) then (if ((v0 >>> ((25 : Int32) &&& 31)) &&& 7) = 4 then y_Model_many σ (decide (((v0 >>> ((20 : Int32) &&& 31)) &&& 1) = 1)) ((v0 >>> ((16 : Int32) &&& 31)) &&& 15) (v0 &&& 65535) (decide (((v0 >>> ((23 : Int32) &&& 31)) &&& 1) = 1)) (decide (((v0 >>> ((24 : Int32) &&& 31)) &&& 1) = 1)) (decide (((v0 >>> ((21 : Int32) &&& 31)) &&& 1) = 1)) (decide (((v0 >>> ((22 : Int32) &&& 31)) &&& 1) = 1)) else (if ((v0 >>> ((25 : Int32) &&& 31)) &&& 7) = 5 then y_Model_branch σ v0 else (if ((v0 >>> ((24 : Int32) &&& 31)) &&& 15) = 15 then t_fault σ 1 else y_Model_undefined σ))) else y_Model_single σ v0) else y_Model_data σ v0))
def y_Model_arm_159 (σ : MS) (v0 : Int32) : MS := (if ((v0 >>> ((23 : Int32) &&& 31)) &&& 31) = 2 then (if ((v0 >>> ((16 : Int32) &&& 31)) &&& 63) = 15 then (if (v0 &&& 4095) = 0 then (if ((v0 >>> ((22 : Int32) &&& 31)) &&& 1) = 1 then y_Model_put σ ((v0 >>> ((12 : Int32) &&& 31)) &&& 15) (y_Model_kept σ) else y_Model_put σ ((v0 >>> ((12 : Int32) &&& 31)) &&& 15) (m_cpsr σ)) else y_Model_arm_225 σ v0) else y_Model_arm_225 σ v0) else y_Model_arm_225 σ v0)
def y_Model_arm_128 (σ : MS) (v0 : Int32) : MS := (if ((v0 >>> ((25 : Int32) &&& 31)) &&& 7) = 0 then (if (v0 &&& 144) = 144 then (if ((v0 >>> ((5 : Int32) &&& 31)) &&& 3) = 0 then y_Model_arm_159 σ v0 else y_Model_halves σ v0) else y_Model_arm_159 σ v0) else y_Model_arm_159 σ v0)
def y_Model_arm_88 (σ : MS) (v0 : Int32) : MS := (if ((v0 >>> ((23 : Int32) &&& 31)) &&& 31) = 2 then (if ((v0 >>> ((20 : Int32) &&& 31)) &&& 3) = 0 then (if ((v0 >>> ((4 : Int32) &&& 31)) &&& 255) = 9 then y_Model_swap σ v0 else y_Model_arm_128 σ v0) else y_Model_arm_128 σ v0) else y_Model_arm_128 σ v0)
def y_Model_arm (σ : MS) (v0 : Int32) : MS := (if (iu v0 28) = 15 then y_Model_undefined σ else (if (y_Model_isSo σ (iu v0 28)) = true then (if ((v0 >>> ((4 : Int32) &&& 31)) &&& 16777215) = 1245169 then y_Model_exchange σ (y_Model_value σ (v0 &&& 15)) else (if ((v0 >>> ((24 : Int32) &&& 31)) &&& 15) = 0 then (if ((v0 >>> ((4 : Int32) &&& 31)) &&& 15) = 9 then y_Model_multiply σ v0 else y_Model_arm_88 σ v0) else y_Model_arm_88 σ v0)) else σ))
set_option maxRecDepth 20000 in
set_option maxHeartbeats 4000000 in
theorem cy_Model_arm (l : Launch) (G : KG) (σ : MS) (v0 : Int32) : KV l yX11_arm (Cond.code yX11_arm cX11_arm 4 none :: lw_all) (kr 7) (gD G) vwCl (gT G) (mZ G) (mW G) [.ref (gA G 20), .int v0] σ (y_Model_arm σ v0) := by
  refine kc_in_v (q := y_Model_arm σ v0) (by decide) rfl (Nat.le_of_ble_eq_true rfl) ?_
  intro p e s m args below meth c A Q ls hx hb hml hown hts hK hP hD hA hS hZ hl hret
  have hts := fun w h => hts w (List.mem_cons_of_mem _ h)
  have hl : lv_has ls 4 [(0, .ref (gA G 20)), (1, .int v0)] := hl
  have hf : y_Model_arm σ v0 = y_Model_arm σ v0 := rfl
  have J225 : ∀ (H : Heap) (locs : List Loc) (ls : Array Slot), va_P (gD G) vwCl (mW G (σ)) H → va_D A (mW G (σ)) → va_S A s.heap H locs → lv_has ls 4 [(0, .ref (gA G 20)), (1, .int v0), (3, .int ((v0 >>> ((25 : Int32) &&& 31)) &&& 7))] → y_Model_arm σ v0 = y_Model_arm_225 σ v0 → W p l e (kr 7) s m args below meth c H locs 0 0 Q (F0 m 225 ls []) := by
    intro H locs ls hP hD hS hl hf
    refine lv_iload_n hx hb dX11_arm_225 rfl (lv_at hl 1 rfl) ?_
    refine kp_Si (rest := []) (cy_Model_isStatus l v0) ⟨hx, hb, hml, hown, hts⟩ (va_cwS 1 hts (gi_S kw_924 kw_925 kw_5 kw_926) rfl rfl rfl mdX11_isStatus ⟨by decide, by decide⟩) rfl hl.1 rfl (Nat.le_of_ble_eq_true rfl) dX11_arm_226 ⟨Nat.zero_le _, Nat.zero_le _⟩ ?_
    refine kz_eq (tgt := 240) hx hb dX11_arm_229 (by decide) (fun h_27 => ?_) (fun h_27 => ?_)
    · have hf := hf.trans (if_neg h_27)
      refine lv_iload_n hx hb dX11_arm_240 rfl (lv_at hl 2 rfl) ?_
      refine lv_iconst (v := 2) hx hb dX11_arm_241 (by decide) ?_
      refine lv_icmp_ge (tgt := 253) hx hb dX11_arm_242 (by decide) (fun h_28 => ?_) (fun h_28 => ?_)
      · have hf := hf.trans (if_pos h_28)
        refine lv_iload_n hx hb dX11_arm_253 rfl (lv_at hl 2 rfl) ?_
        refine lv_iconst (v := 4) hx hb dX11_arm_254 (by decide) ?_
        refine lv_icmp_ge (tgt := 266) hx hb dX11_arm_255 (by decide) (fun h_29 => ?_) (fun h_29 => ?_)
        · have hf := hf.trans (if_pos h_29)
          refine lv_iload_n hx hb dX11_arm_266 rfl (lv_at hl 2 rfl) ?_
          refine lv_iconst (v := 4) hx hb dX11_arm_267 (by decide) ?_
          refine lv_icmp_ne (tgt := 364) hx hb dX11_arm_268 (by decide) (fun h_30 => ?_) (fun h_30 => ?_)
          · have hf := hf.trans (if_neg h_30)
            refine lv_iload_n hx hb dX11_arm_364 rfl (lv_at hl 2 rfl) ?_
            refine lv_iconst (v := 5) hx hb dX11_arm_365 (by decide) ?_
            refine lv_icmp_ne (tgt := 377) hx hb dX11_arm_366 (by decide) (fun h_31 => ?_) (fun h_31 => ?_)
            · have hf := hf.trans (if_neg h_31)
              refine lv_iload_n hx hb dX11_arm_377 rfl (lv_at hl 1 rfl) ?_
              refine lv_bipush (v := 24) hx hb dX11_arm_378 (by decide) ?_
              refine lv_ishr hx hb dX11_arm_380 ?_
              refine lv_bipush (v := 15) hx hb dX11_arm_381 (by decide) ?_
              refine lv_iand hx hb dX11_arm_383 ?_
              refine lv_bipush (v := 15) hx hb dX11_arm_384 (by decide) ?_
              refine lv_icmp_ne (tgt := 397) hx hb dX11_arm_386 (by decide) (fun h_32 => ?_) (fun h_32 => ?_)
              · have hf := hf.trans (if_neg h_32)
                refine lv_aload_n hx hb dX11_arm_397 rfl (lv_at hl 0 rfl) ?_
                refine kc_Vv (rest := []) (cy_Model_undefined l G σ) ⟨hx, hb, hml, hown, hts⟩ (cwV 0 hts (gi_V kw_822 kw_823 kw_824 kw_5 kw_825) rfl rfl rfl ⟨rfl, mdX11_undefined⟩ ⟨by decide, by decide⟩) (va_recv hK hP (ci := 9) (q0 := 0) rfl rfl) mZ_ok hK hP hD hS hA hZ rfl hl.1 rfl (Nat.le_of_ble_eq_true rfl) dX11_arm_398 ⟨Nat.zero_le _, Nat.zero_le _⟩ (fun H locs hP hD hS => ?_)
                exact hret (y_Model_undefined σ) _ _ _ _ hf hP hD hS dX11_arm_401
              · have hf := hf.trans (if_pos h_32)
                refine lv_aload_n hx hb dX11_arm_389 rfl (lv_at hl 0 rfl) ?_
                refine lv_iconst (v := 1) hx hb dX11_arm_390 (by decide) ?_
                refine kc_top (fixF_c (by decide)) ?_
                refine va_put (D := gD G) (ci := 9) (v := .int (fixF 1)) (ty := .int) hx hb hts ku_11 tyX11 tyX11_ok nmX11 hown hK hP hD hS 0 rfl rfl 10 (by decide) (hts _ kw_727) (fun _ h9 => h9) rfl (tyX11_ok 10 (by decide)) rfl rfl (Nat.le_of_ble_eq_true rfl) dX11_arm_391 (fun H locs hP hD hS => ?_)
                have hP := kP_eq (mWs_fault G σ 1) hP
                have hD := kD_eq (mWs_fault G σ 1) hD
                refine lv_goto (tgt := 401) hx hb dX11_arm_394 (by decide) ?_
                exact hret (t_fault σ 1) _ _ _ _ hf hP hD hS dX11_arm_401
            · have hf := hf.trans (if_pos h_31)
              refine lv_aload_n hx hb dX11_arm_369 rfl (lv_at hl 0 rfl) ?_
              refine lv_iload_n hx hb dX11_arm_370 rfl (lv_at hl 1 rfl) ?_
              refine kc_Vv (rest := []) (cy_Model_branch l G σ v0) ⟨hx, hb, hml, hown, hts⟩ (cwV 1 hts (gi_V kw_944 kw_945 kw_946 kw_5 kw_947) rfl rfl rfl ⟨rfl, mdX11_branch⟩ ⟨by decide, by decide⟩) (va_recv hK hP (ci := 9) (q0 := 0) rfl rfl) mZ_ok hK hP hD hS hA hZ rfl hl.1 rfl (Nat.le_of_ble_eq_true rfl) dX11_arm_371 ⟨Nat.zero_le _, Nat.zero_le _⟩ (fun H locs hP hD hS => ?_)
              refine lv_goto (tgt := 401) hx hb dX11_arm_374 (by decide) ?_
              exact hret (y_Model_branch σ v0) _ _ _ _ hf hP hD hS dX11_arm_401
          · have hf := hf.trans (if_pos h_30)
            refine lv_aload_n hx hb dX11_arm_271 rfl (lv_at hl 0 rfl) ?_
            refine lv_iload_n hx hb dX11_arm_272 rfl (lv_at hl 1 rfl) ?_
            refine lv_bipush (v := 20) hx hb dX11_arm_273 (by decide) ?_
            refine lv_ishr hx hb dX11_arm_275 ?_
            refine lv_iconst (v := 1) hx hb dX11_arm_276 (by decide) ?_
            refine lv_iand hx hb dX11_arm_277 ?_
            refine lv_iconst (v := 1) hx hb dX11_arm_278 (by decide) ?_
            refine kz_dN0 (P := ((v0 >>> ((20 : Int32) &&& 31)) &&& 1) = 1) (tgt := 286) (M := 287) (fun a b => lv_icmp_ne (tgt := 286) hx hb dX11_arm_279 (by decide) a b) hx hb dX11_arm_282 dX11_arm_283 (by decide) dX11_arm_286 rfl ?_
            refine lv_iload_n hx hb dX11_arm_287 rfl (lv_at hl 1 rfl) ?_
            refine lv_bipush (v := 16) hx hb dX11_arm_288 (by decide) ?_
            refine lv_ishr hx hb dX11_arm_290 ?_
            refine lv_bipush (v := 15) hx hb dX11_arm_291 (by decide) ?_
            refine lv_iand hx hb dX11_arm_293 ?_
            refine lv_iload_n hx hb dX11_arm_294 rfl (lv_at hl 1 rfl) ?_
            refine lv_ldc (v := 65535) hx hb hown (hts _ kw_744) dX11_arm_295 ?_
            refine lv_iand hx hb dX11_arm_297 ?_
            refine lv_iload_n hx hb dX11_arm_298 rfl (lv_at hl 1 rfl) ?_
            refine lv_bipush (v := 23) hx hb dX11_arm_299 (by decide) ?_
            refine lv_ishr hx hb dX11_arm_301 ?_
            refine lv_iconst (v := 1) hx hb dX11_arm_302 (by decide) ?_
            refine lv_iand hx hb dX11_arm_303 ?_
            refine lv_iconst (v := 1) hx hb dX11_arm_304 (by decide) ?_
            refine kz_dN0 (P := ((v0 >>> ((23 : Int32) &&& 31)) &&& 1) = 1) (tgt := 312) (M := 313) (fun a b => lv_icmp_ne (tgt := 312) hx hb dX11_arm_305 (by decide) a b) hx hb dX11_arm_308 dX11_arm_309 (by decide) dX11_arm_312 rfl ?_
            refine lv_iload_n hx hb dX11_arm_313 rfl (lv_at hl 1 rfl) ?_
            refine lv_bipush (v := 24) hx hb dX11_arm_314 (by decide) ?_
            refine lv_ishr hx hb dX11_arm_316 ?_
            refine lv_iconst (v := 1) hx hb dX11_arm_317 (by decide) ?_
            refine lv_iand hx hb dX11_arm_318 ?_
            refine lv_iconst (v := 1) hx hb dX11_arm_319 (by decide) ?_
            refine kz_dN0 (P := ((v0 >>> ((24 : Int32) &&& 31)) &&& 1) = 1) (tgt := 327) (M := 328) (fun a b => lv_icmp_ne (tgt := 327) hx hb dX11_arm_320 (by decide) a b) hx hb dX11_arm_323 dX11_arm_324 (by decide) dX11_arm_327 rfl ?_
            refine lv_iload_n hx hb dX11_arm_328 rfl (lv_at hl 1 rfl) ?_
            refine lv_bipush (v := 21) hx hb dX11_arm_329 (by decide) ?_
            refine lv_ishr hx hb dX11_arm_331 ?_
            refine lv_iconst (v := 1) hx hb dX11_arm_332 (by decide) ?_
            refine lv_iand hx hb dX11_arm_333 ?_
            refine lv_iconst (v := 1) hx hb dX11_arm_334 (by decide) ?_
            refine kz_dN0 (P := ((v0 >>> ((21 : Int32) &&& 31)) &&& 1) = 1) (tgt := 342) (M := 343) (fun a b => lv_icmp_ne (tgt := 342) hx hb dX11_arm_335 (by decide) a b) hx hb dX11_arm_338 dX11_arm_339 (by decide) dX11_arm_342 rfl ?_
            refine lv_iload_n hx hb dX11_arm_343 rfl (lv_at hl 1 rfl) ?_
            refine lv_bipush (v := 22) hx hb dX11_arm_344 (by decide) ?_
            refine lv_ishr hx hb dX11_arm_346 ?_
            refine lv_iconst (v := 1) hx hb dX11_arm_347 (by decide) ?_
            refine lv_iand hx hb dX11_arm_348 ?_
            refine lv_iconst (v := 1) hx hb dX11_arm_349 (by decide) ?_
            refine kz_dN0 (P := ((v0 >>> ((22 : Int32) &&& 31)) &&& 1) = 1) (tgt := 357) (M := 358) (fun a b => lv_icmp_ne (tgt := 357) hx hb dX11_arm_350 (by decide) a b) hx hb dX11_arm_353 dX11_arm_354 (by decide) dX11_arm_357 rfl ?_
            refine kc_Vv (rest := []) (cy_Model_many l G σ (decide (((v0 >>> ((20 : Int32) &&& 31)) &&& 1) = 1)) ((v0 >>> ((16 : Int32) &&& 31)) &&& 15) (v0 &&& 65535) (decide (((v0 >>> ((23 : Int32) &&& 31)) &&& 1) = 1)) (decide (((v0 >>> ((24 : Int32) &&& 31)) &&& 1) = 1)) (decide (((v0 >>> ((21 : Int32) &&& 31)) &&& 1) = 1)) (decide (((v0 >>> ((22 : Int32) &&& 31)) &&& 1) = 1)) (pk_andIn _ 4 (by decide) (by decide))) ⟨hx, hb, hml, hown, hts⟩ (cwV 7 hts (gi_V kw_867 kw_868 kw_869 kw_5 kw_870) rfl rfl rfl ⟨rfl, mdX11_many⟩ ⟨by decide, by decide⟩) (va_recv hK hP (ci := 9) (q0 := 0) rfl rfl) mZ_ok hK hP hD hS hA hZ rfl hl.1 rfl (Nat.le_of_ble_eq_true rfl) dX11_arm_358 ⟨Nat.zero_le _, Nat.zero_le _⟩ (fun H locs hP hD hS => ?_)
            refine lv_goto (tgt := 401) hx hb dX11_arm_361 (by decide) ?_
            exact hret (y_Model_many σ (decide (((v0 >>> ((20 : Int32) &&& 31)) &&& 1) = 1)) ((v0 >>> ((16 : Int32) &&& 31)) &&& 15) (v0 &&& 65535) (decide (((v0 >>> ((23 : Int32) &&& 31)) &&& 1) = 1)) (decide (((v0 >>> ((24 : Int32) &&& 31)) &&& 1) = 1)) (decide (((v0 >>> ((21 : Int32) &&& 31)) &&& 1) = 1)) (decide (((v0 >>> ((22 : Int32) &&& 31)) &&& 1) = 1))) _ _ _ _ hf hP hD hS dX11_arm_401
        · have hf := hf.trans (if_neg h_29)
          refine lv_aload_n hx hb dX11_arm_258 rfl (lv_at hl 0 rfl) ?_
          refine lv_iload_n hx hb dX11_arm_259 rfl (lv_at hl 1 rfl) ?_
          refine kc_Vv (rest := []) (cy_Model_single l G σ v0) ⟨hx, hb, hml, hown, hts⟩ (cwV 1 hts (gi_V kw_940 kw_941 kw_942 kw_5 kw_943) rfl rfl rfl ⟨rfl, mdX11_single⟩ ⟨by decide, by decide⟩) (va_recv hK hP (ci := 9) (q0 := 0) rfl rfl) mZ_ok hK hP hD hS hA hZ rfl hl.1 rfl (Nat.le_of_ble_eq_true rfl) dX11_arm_260 ⟨Nat.zero_le _, Nat.zero_le _⟩ (fun H locs hP hD hS => ?_)
          refine lv_goto (tgt := 401) hx hb dX11_arm_263 (by decide) ?_
          exact hret (y_Model_single σ v0) _ _ _ _ hf hP hD hS dX11_arm_401
      · have hf := hf.trans (if_neg h_28)
        refine lv_aload_n hx hb dX11_arm_245 rfl (lv_at hl 0 rfl) ?_
        refine lv_iload_n hx hb dX11_arm_246 rfl (lv_at hl 1 rfl) ?_
        refine kc_Vv (rest := []) (cy_Model_data l G σ v0) ⟨hx, hb, hml, hown, hts⟩ (cwV 1 hts (gi_V kw_936 kw_937 kw_938 kw_5 kw_939) rfl rfl rfl ⟨rfl, mdX11_data⟩ ⟨by decide, by decide⟩) (va_recv hK hP (ci := 9) (q0 := 0) rfl rfl) mZ_ok hK hP hD hS hA hZ rfl hl.1 rfl (Nat.le_of_ble_eq_true rfl) dX11_arm_247 ⟨Nat.zero_le _, Nat.zero_le _⟩ (fun H locs hP hD hS => ?_)
        refine lv_goto (tgt := 401) hx hb dX11_arm_250 (by decide) ?_
        exact hret (y_Model_data σ v0) _ _ _ _ hf hP hD hS dX11_arm_401
    · have hf := hf.trans (if_pos h_27)
      refine lv_aload_n hx hb dX11_arm_232 rfl (lv_at hl 0 rfl) ?_
      refine lv_iload_n hx hb dX11_arm_233 rfl (lv_at hl 1 rfl) ?_
      refine kc_Vv (rest := []) (cy_Model_toStatus l G σ v0) ⟨hx, hb, hml, hown, hts⟩ (cwV 1 hts (gi_V kw_927 kw_928 kw_929 kw_5 kw_930) rfl rfl rfl ⟨rfl, mdX11_toStatus⟩ ⟨by decide, by decide⟩) (va_recv hK hP (ci := 9) (q0 := 0) rfl rfl) mZ_ok hK hP hD hS hA hZ rfl hl.1 rfl (Nat.le_of_ble_eq_true rfl) dX11_arm_234 ⟨Nat.zero_le _, Nat.zero_le _⟩ (fun H locs hP hD hS => ?_)
      refine lv_goto (tgt := 401) hx hb dX11_arm_237 (by decide) ?_
      exact hret (y_Model_toStatus σ v0) _ _ _ _ hf hP hD hS dX11_arm_401
  have J159 : ∀ (H : Heap) (locs : List Loc) (ls : Array Slot), va_P (gD G) vwCl (mW G (σ)) H → va_D A (mW G (σ)) → va_S A s.heap H locs → lv_has ls 4 [(0, .ref (gA G 20)), (1, .int v0), (3, .int ((v0 >>> ((25 : Int32) &&& 31)) &&& 7))] → y_Model_arm σ v0 = y_Model_arm_159 σ v0 → W p l e (kr 7) s m args below meth c H locs 0 0 Q (F0 m 159 ls []) := by
    intro H locs ls hP hD hS hl hf
    refine lv_iload_n hx hb dX11_arm_159 rfl (lv_at hl 1 rfl) ?_
    refine lv_bipush (v := 23) hx hb dX11_arm_160 (by decide) ?_
    refine lv_ishr hx hb dX11_arm_162 ?_
    refine lv_bipush (v := 31) hx hb dX11_arm_163 (by decide) ?_
    refine lv_iand hx hb dX11_arm_165 ?_
    refine lv_iconst (v := 2) hx hb dX11_arm_166 (by decide) ?_
    refine lv_icmp_ne (tgt := 225) hx hb dX11_arm_167 (by decide) (fun h_38 => ?_) (fun h_38 => ?_)
    · have hf := hf.trans (if_neg h_38)
      exact J225 _ _ _ hP hD hS (lv_sub hl [0, 1, 2] rfl) hf
    · have hf := hf.trans (if_pos h_38)
      refine lv_iload_n hx hb dX11_arm_170 rfl (lv_at hl 1 rfl) ?_
      refine lv_bipush (v := 16) hx hb dX11_arm_171 (by decide) ?_
      refine lv_ishr hx hb dX11_arm_173 ?_
      refine lv_bipush (v := 63) hx hb dX11_arm_174 (by decide) ?_
      refine lv_iand hx hb dX11_arm_176 ?_
      refine lv_bipush (v := 15) hx hb dX11_arm_177 (by decide) ?_
      refine lv_icmp_ne (tgt := 225) hx hb dX11_arm_179 (by decide) (fun h_39 => ?_) (fun h_39 => ?_)
      · have hf := hf.trans (if_neg h_39)
        exact J225 _ _ _ hP hD hS (lv_sub hl [0, 1, 2] rfl) hf
      · have hf := hf.trans (if_pos h_39)
        refine lv_iload_n hx hb dX11_arm_182 rfl (lv_at hl 1 rfl) ?_
        refine lv_sipush (v := 4095) hx hb dX11_arm_183 (by decide) ?_
        refine lv_iand hx hb dX11_arm_186 ?_
        refine lv_if_ne (tgt := 225) hx hb dX11_arm_187 (by decide) (fun h_40 => ?_) (fun h_40 => ?_)
        · have hf := hf.trans (if_neg h_40)
          exact J225 _ _ _ hP hD hS (lv_sub hl [0, 1, 2] rfl) hf
        · have hf := hf.trans (if_pos h_40)
          refine lv_aload_n hx hb dX11_arm_190 rfl (lv_at hl 0 rfl) ?_
          refine lv_iload_n hx hb dX11_arm_191 rfl (lv_at hl 1 rfl) ?_
          refine lv_bipush (v := 12) hx hb dX11_arm_192 (by decide) ?_
          refine lv_ishr hx hb dX11_arm_194 ?_
          refine lv_bipush (v := 15) hx hb dX11_arm_195 (by decide) ?_
          refine lv_iand hx hb dX11_arm_197 ?_
          refine lv_iload_n hx hb dX11_arm_198 rfl (lv_at hl 1 rfl) ?_
          refine lv_bipush (v := 22) hx hb dX11_arm_199 (by decide) ?_
          refine lv_ishr hx hb dX11_arm_201 ?_
          refine lv_iconst (v := 1) hx hb dX11_arm_202 (by decide) ?_
          refine lv_iand hx hb dX11_arm_203 ?_
          refine lv_iconst (v := 1) hx hb dX11_arm_204 (by decide) ?_
          refine lv_icmp_ne (tgt := 215) hx hb dX11_arm_205 (by decide) (fun h_41 => ?_) (fun h_41 => ?_)
          · have hf := hf.trans (if_neg h_41)
            refine lv_aload_n hx hb dX11_arm_215 rfl (lv_at hl 0 rfl) ?_
            refine va_get (D := gD G) (ci := 9) hx hb hts ku_11 hown hK hP 0 rfl rfl 4 (by decide) (hts _ kw_109) (fun _ h9 => h9) rfl dX11_arm_216 ?_
            refine kc_Vv (rest := []) (cy_Model_put l G σ ((v0 >>> ((12 : Int32) &&& 31)) &&& 15) (m_cpsr σ) (pk_andIn _ 4 (by decide) (by decide))) ⟨hx, hb, hml, hown, hts⟩ (cwV 2 hts (gi_V kw_806 kw_807 kw_808 kw_5 kw_809) rfl rfl rfl ⟨rfl, mdX11_put⟩ ⟨by decide, by decide⟩) (va_recv hK hP (ci := 9) (q0 := 0) rfl rfl) mZ_ok hK hP hD hS hA hZ rfl hl.1 rfl (Nat.le_of_ble_eq_true rfl) dX11_arm_219 ⟨Nat.zero_le _, Nat.zero_le _⟩ (fun H locs hP hD hS => ?_)
            refine lv_goto (tgt := 401) hx hb dX11_arm_222 (by decide) ?_
            exact hret (y_Model_put σ ((v0 >>> ((12 : Int32) &&& 31)) &&& 15) (m_cpsr σ)) _ _ _ _ hf hP hD hS dX11_arm_401
          · have hf := hf.trans (if_pos h_41)
            refine lv_aload_n hx hb dX11_arm_208 rfl (lv_at hl 0 rfl) ?_
            refine kc_Vr (rest := [.int ((v0 >>> ((12 : Int32) &&& 31)) &&& 15), .ref (gA G 20)]) (cy_Model_kept l G σ) ⟨hx, hb, hml, hown, hts⟩ (cwV 0 hts (gi_V kw_886 kw_887 kw_888 kw_5 kw_889) rfl rfl rfl ⟨rfl, mdX11_kept⟩ ⟨by decide, by decide⟩) (va_recv hK hP (ci := 9) (q0 := 0) rfl rfl) mZ_ok hK hP hD hS hA hZ rfl hl.1 rfl (Nat.le_of_ble_eq_true rfl) dX11_arm_209 ⟨Nat.zero_le _, Nat.zero_le _⟩ (fun H locs hP hD hS => ?_)
            refine lv_goto (tgt := 219) hx hb dX11_arm_212 (by decide) ?_
            refine kc_Vv (rest := []) (cy_Model_put l G σ ((v0 >>> ((12 : Int32) &&& 31)) &&& 15) (y_Model_kept σ) (pk_andIn _ 4 (by decide) (by decide))) ⟨hx, hb, hml, hown, hts⟩ (cwV 2 hts (gi_V kw_806 kw_807 kw_808 kw_5 kw_809) rfl rfl rfl ⟨rfl, mdX11_put⟩ ⟨by decide, by decide⟩) (va_recv hK hP (ci := 9) (q0 := 0) rfl rfl) mZ_ok hK hP hD hS hA hZ rfl hl.1 rfl (Nat.le_of_ble_eq_true rfl) dX11_arm_219 ⟨Nat.zero_le _, Nat.zero_le _⟩ (fun H locs hP hD hS => ?_)
            refine lv_goto (tgt := 401) hx hb dX11_arm_222 (by decide) ?_
            exact hret (y_Model_put σ ((v0 >>> ((12 : Int32) &&& 31)) &&& 15) (y_Model_kept σ)) _ _ _ _ hf hP hD hS dX11_arm_401
  have J128 : ∀ (H : Heap) (locs : List Loc) (ls : Array Slot), va_P (gD G) vwCl (mW G (σ)) H → va_D A (mW G (σ)) → va_S A s.heap H locs → lv_has ls 4 [(0, .ref (gA G 20)), (1, .int v0), (3, .int ((v0 >>> ((25 : Int32) &&& 31)) &&& 7))] → y_Model_arm σ v0 = y_Model_arm_128 σ v0 → W p l e (kr 7) s m args below meth c H locs 0 0 Q (F0 m 128 ls []) := by
    intro H locs ls hP hD hS hl hf
    refine lv_iload_n hx hb dX11_arm_128 rfl (lv_at hl 2 rfl) ?_
    refine lv_if_ne (tgt := 159) hx hb dX11_arm_129 (by decide) (fun h_42 => ?_) (fun h_42 => ?_)
    · have hf := hf.trans (if_neg h_42)
      exact J159 _ _ _ hP hD hS (lv_sub hl [0, 1, 2] rfl) hf
    · have hf := hf.trans (if_pos h_42)
      refine lv_iload_n hx hb dX11_arm_132 rfl (lv_at hl 1 rfl) ?_
      refine lv_sipush (v := 144) hx hb dX11_arm_133 (by decide) ?_
      refine lv_iand hx hb dX11_arm_136 ?_
      refine lv_sipush (v := 144) hx hb dX11_arm_137 (by decide) ?_
      refine lv_icmp_ne (tgt := 159) hx hb dX11_arm_140 (by decide) (fun h_43 => ?_) (fun h_43 => ?_)
      · have hf := hf.trans (if_neg h_43)
        exact J159 _ _ _ hP hD hS (lv_sub hl [0, 1, 2] rfl) hf
      · have hf := hf.trans (if_pos h_43)
        refine lv_iload_n hx hb dX11_arm_143 rfl (lv_at hl 1 rfl) ?_
        refine lv_iconst (v := 5) hx hb dX11_arm_144 (by decide) ?_
        refine lv_ishr hx hb dX11_arm_145 ?_
        refine lv_iconst (v := 3) hx hb dX11_arm_146 (by decide) ?_
        refine lv_iand hx hb dX11_arm_147 ?_
        refine lv_if_eq (tgt := 159) hx hb dX11_arm_148 (by decide) (fun h_44 => ?_) (fun h_44 => ?_)
        · have hf := hf.trans (if_pos h_44)
          exact J159 _ _ _ hP hD hS (lv_sub hl [0, 1, 2] rfl) hf
        · have hf := hf.trans (if_neg h_44)
          refine lv_aload_n hx hb dX11_arm_151 rfl (lv_at hl 0 rfl) ?_
          refine lv_iload_n hx hb dX11_arm_152 rfl (lv_at hl 1 rfl) ?_
          refine kc_Vv (rest := []) (cy_Model_halves l G σ v0) ⟨hx, hb, hml, hown, hts⟩ (cwV 1 hts (gi_V kw_916 kw_917 kw_918 kw_5 kw_919) rfl rfl rfl ⟨rfl, mdX11_halves⟩ ⟨by decide, by decide⟩) (va_recv hK hP (ci := 9) (q0 := 0) rfl rfl) mZ_ok hK hP hD hS hA hZ rfl hl.1 rfl (Nat.le_of_ble_eq_true rfl) dX11_arm_153 ⟨Nat.zero_le _, Nat.zero_le _⟩ (fun H locs hP hD hS => ?_)
          refine lv_goto (tgt := 401) hx hb dX11_arm_156 (by decide) ?_
          exact hret (y_Model_halves σ v0) _ _ _ _ hf hP hD hS dX11_arm_401
  have J88 : ∀ (H : Heap) (locs : List Loc) (ls : Array Slot), va_P (gD G) vwCl (mW G (σ)) H → va_D A (mW G (σ)) → va_S A s.heap H locs → lv_has ls 4 [(0, .ref (gA G 20)), (1, .int v0), (3, .int ((v0 >>> ((25 : Int32) &&& 31)) &&& 7))] → y_Model_arm σ v0 = y_Model_arm_88 σ v0 → W p l e (kr 7) s m args below meth c H locs 0 0 Q (F0 m 88 ls []) := by
    intro H locs ls hP hD hS hl hf
    refine lv_iload_n hx hb dX11_arm_88 rfl (lv_at hl 1 rfl) ?_
    refine lv_bipush (v := 23) hx hb dX11_arm_89 (by decide) ?_
    refine lv_ishr hx hb dX11_arm_91 ?_
    refine lv_bipush (v := 31) hx hb dX11_arm_92 (by decide) ?_
    refine lv_iand hx hb dX11_arm_94 ?_
    refine lv_iconst (v := 2) hx hb dX11_arm_95 (by decide) ?_
    refine lv_icmp_ne (tgt := 128) hx hb dX11_arm_96 (by decide) (fun h_45 => ?_) (fun h_45 => ?_)
    · have hf := hf.trans (if_neg h_45)
      exact J128 _ _ _ hP hD hS (lv_sub hl [0, 1, 2] rfl) hf
    · have hf := hf.trans (if_pos h_45)
      refine lv_iload_n hx hb dX11_arm_99 rfl (lv_at hl 1 rfl) ?_
      refine lv_bipush (v := 20) hx hb dX11_arm_100 (by decide) ?_
      refine lv_ishr hx hb dX11_arm_102 ?_
      refine lv_iconst (v := 3) hx hb dX11_arm_103 (by decide) ?_
      refine lv_iand hx hb dX11_arm_104 ?_
      refine lv_if_ne (tgt := 128) hx hb dX11_arm_105 (by decide) (fun h_46 => ?_) (fun h_46 => ?_)
      · have hf := hf.trans (if_neg h_46)
        exact J128 _ _ _ hP hD hS (lv_sub hl [0, 1, 2] rfl) hf
      · have hf := hf.trans (if_pos h_46)
        refine lv_iload_n hx hb dX11_arm_108 rfl (lv_at hl 1 rfl) ?_
        refine lv_iconst (v := 4) hx hb dX11_arm_109 (by decide) ?_
        refine lv_ishr hx hb dX11_arm_110 ?_
        refine lv_sipush (v := 255) hx hb dX11_arm_111 (by decide) ?_
        refine lv_iand hx hb dX11_arm_114 ?_
        refine lv_bipush (v := 9) hx hb dX11_arm_115 (by decide) ?_
        refine lv_icmp_ne (tgt := 128) hx hb dX11_arm_117 (by decide) (fun h_47 => ?_) (fun h_47 => ?_)
        · have hf := hf.trans (if_neg h_47)
          exact J128 _ _ _ hP hD hS (lv_sub hl [0, 1, 2] rfl) hf
        · have hf := hf.trans (if_pos h_47)
          refine lv_aload_n hx hb dX11_arm_120 rfl (lv_at hl 0 rfl) ?_
          refine lv_iload_n hx hb dX11_arm_121 rfl (lv_at hl 1 rfl) ?_
          refine kc_Vv (rest := []) (cy_Model_swap l G σ v0) ⟨hx, hb, hml, hown, hts⟩ (cwV 1 hts (gi_V kw_912 kw_913 kw_914 kw_5 kw_915) rfl rfl rfl ⟨rfl, mdX11_swap⟩ ⟨by decide, by decide⟩) (va_recv hK hP (ci := 9) (q0 := 0) rfl rfl) mZ_ok hK hP hD hS hA hZ rfl hl.1 rfl (Nat.le_of_ble_eq_true rfl) dX11_arm_122 ⟨Nat.zero_le _, Nat.zero_le _⟩ (fun H locs hP hD hS => ?_)
          refine lv_goto (tgt := 401) hx hb dX11_arm_125 (by decide) ?_
          exact hret (y_Model_swap σ v0) _ _ _ _ hf hP hD hS dX11_arm_401
  refine lv_iload_n hx hb dX11_arm_0 rfl (lv_at hl 1 rfl) ?_
  refine lv_bipush (v := 28) hx hb dX11_arm_1 (by decide) ?_
  refine lv_iushr (v := iu v0 28) hx hb dX11_arm_3 rfl ?_
  refine lv_istore_n (lv' := [(2, .int (iu v0 28)), (0, .ref (gA G 20)), (1, .int v0)]) hx hb dX11_arm_4 rfl hl (by decide) rfl (fun ls hl => ?_)
  refine lv_iload_n hx hb dX11_arm_5 rfl (lv_at hl 0 rfl) ?_
  refine lv_bipush (v := 15) hx hb dX11_arm_6 (by decide) ?_
  refine lv_icmp_ne (tgt := 16) hx hb dX11_arm_8 (by decide) (fun h_48 => ?_) (fun h_48 => ?_)
  · have hf := hf.trans (if_neg h_48)
    refine lv_aload_n hx hb dX11_arm_16 rfl (lv_at hl 1 rfl) ?_
    refine lv_iload_n hx hb dX11_arm_17 rfl (lv_at hl 0 rfl) ?_
    refine kc_Vr (rest := []) (cy_Model_isSo l G σ (iu v0 28)) ⟨hx, hb, hml, hown, hts⟩ (cwV 1 hts (gi_V kw_894 kw_895 kw_896 kw_5 kw_897) rfl rfl rfl ⟨rfl, mdX11_isSo⟩ ⟨by decide, by decide⟩) (va_recv hK hP (ci := 9) (q0 := 0) rfl rfl) mZ_ok hK hP hD hS hA hZ rfl hl.1 rfl (Nat.le_of_ble_eq_true rfl) dX11_arm_18 ⟨Nat.zero_le _, Nat.zero_le _⟩ (fun H locs hP hD hS => ?_)
    refine kz_ne (tgt := 25) hx hb dX11_arm_21 (by decide) (fun h_49 => ?_) (fun h_49 => ?_)
    · have hf := hf.trans (if_pos h_49)
      refine lv_iload_n hx hb dX11_arm_25 rfl (lv_at hl 2 rfl) ?_
      refine lv_bipush (v := 25) hx hb dX11_arm_26 (by decide) ?_
      refine lv_ishr hx hb dX11_arm_28 ?_
      refine lv_bipush (v := 7) hx hb dX11_arm_29 (by decide) ?_
      refine lv_iand hx hb dX11_arm_31 ?_
      refine lv_istore_n (lv' := [(3, .int ((v0 >>> ((25 : Int32) &&& 31)) &&& 7)), (2, .int (iu v0 28)), (0, .ref (gA G 20)), (1, .int v0)]) hx hb dX11_arm_32 rfl hl (by decide) rfl (fun ls hl => ?_)
      refine lv_iload_n hx hb dX11_arm_33 rfl (lv_at hl 3 rfl) ?_
      refine lv_iconst (v := 4) hx hb dX11_arm_34 (by decide) ?_
      refine lv_ishr hx hb dX11_arm_35 ?_
      refine lv_ldc (v := 16777215) hx hb hown (hts _ kw_906) dX11_arm_36 ?_
      refine lv_iand hx hb dX11_arm_38 ?_
      refine lv_ldc (v := 1245169) hx hb hown (hts _ kw_907) dX11_arm_39 ?_
      refine lv_icmp_ne (tgt := 59) hx hb dX11_arm_41 (by decide) (fun h_50 => ?_) (fun h_50 => ?_)
      · have hf := hf.trans (if_neg h_50)
        refine lv_iload_n hx hb dX11_arm_59 rfl (lv_at hl 3 rfl) ?_
        refine lv_bipush (v := 24) hx hb dX11_arm_60 (by decide) ?_
        refine lv_ishr hx hb dX11_arm_62 ?_
        refine lv_bipush (v := 15) hx hb dX11_arm_63 (by decide) ?_
        refine lv_iand hx hb dX11_arm_65 ?_
        refine lv_if_ne (tgt := 88) hx hb dX11_arm_66 (by decide) (fun h_51 => ?_) (fun h_51 => ?_)
        · have hf := hf.trans (if_neg h_51)
          exact J88 _ _ _ hP hD hS (lv_sub hl [2, 3, 0] rfl) hf
        · have hf := hf.trans (if_pos h_51)
          refine lv_iload_n hx hb dX11_arm_69 rfl (lv_at hl 3 rfl) ?_
          refine lv_iconst (v := 4) hx hb dX11_arm_70 (by decide) ?_
          refine lv_ishr hx hb dX11_arm_71 ?_
          refine lv_bipush (v := 15) hx hb dX11_arm_72 (by decide) ?_
          refine lv_iand hx hb dX11_arm_74 ?_
          refine lv_bipush (v := 9) hx hb dX11_arm_75 (by decide) ?_
          refine lv_icmp_ne (tgt := 88) hx hb dX11_arm_77 (by decide) (fun h_52 => ?_) (fun h_52 => ?_)
          · have hf := hf.trans (if_neg h_52)
            exact J88 _ _ _ hP hD hS (lv_sub hl [2, 3, 0] rfl) hf
          · have hf := hf.trans (if_pos h_52)
            refine lv_aload_n hx hb dX11_arm_80 rfl (lv_at hl 2 rfl) ?_
            refine lv_iload_n hx hb dX11_arm_81 rfl (lv_at hl 3 rfl) ?_
            refine kc_Vv (rest := []) (cy_Model_multiply l G σ v0) ⟨hx, hb, hml, hown, hts⟩ (cwV 1 hts (gi_V kw_908 kw_909 kw_910 kw_5 kw_911) rfl rfl rfl ⟨rfl, mdX11_multiply⟩ ⟨by decide, by decide⟩) (va_recv hK hP (ci := 9) (q0 := 0) rfl rfl) mZ_ok hK hP hD hS hA hZ rfl hl.1 rfl (Nat.le_of_ble_eq_true rfl) dX11_arm_82 ⟨Nat.zero_le _, Nat.zero_le _⟩ (fun H locs hP hD hS => ?_)
            refine lv_goto (tgt := 401) hx hb dX11_arm_85 (by decide) ?_
            exact hret (y_Model_multiply σ v0) _ _ _ _ hf hP hD hS dX11_arm_401
      · have hf := hf.trans (if_pos h_50)
        refine lv_aload_n hx hb dX11_arm_44 rfl (lv_at hl 2 rfl) ?_
        refine lv_aload_n hx hb dX11_arm_45 rfl (lv_at hl 2 rfl) ?_
        refine lv_iload_n hx hb dX11_arm_46 rfl (lv_at hl 3 rfl) ?_
        refine lv_bipush (v := 15) hx hb dX11_arm_47 (by decide) ?_
        refine lv_iand hx hb dX11_arm_49 ?_
        refine kc_Vr (rest := [.ref (gA G 20)]) (cy_Model_value l G σ (v0 &&& 15) (pk_andIn _ 4 (by decide) (by decide))) ⟨hx, hb, hml, hown, hts⟩ (cwV 1 hts (gi_V kw_826 kw_827 kw_828 kw_5 kw_829) rfl rfl rfl ⟨rfl, mdX11_value⟩ ⟨by decide, by decide⟩) (va_recv hK hP (ci := 9) (q0 := 0) rfl rfl) mZ_ok hK hP hD hS hA hZ rfl hl.1 rfl (Nat.le_of_ble_eq_true rfl) dX11_arm_50 ⟨Nat.zero_le _, Nat.zero_le _⟩ (fun H locs hP hD hS => ?_)
        refine kc_Vv (rest := []) (cy_Model_exchange l G σ (y_Model_value σ (v0 &&& 15))) ⟨hx, hb, hml, hown, hts⟩ (cwV 1 hts (gi_V kw_834 kw_835 kw_836 kw_5 kw_837) rfl rfl rfl ⟨rfl, mdX11_exchange⟩ ⟨by decide, by decide⟩) (va_recv hK hP (ci := 9) (q0 := 0) rfl rfl) mZ_ok hK hP hD hS hA hZ rfl hl.1 rfl (Nat.le_of_ble_eq_true rfl) dX11_arm_53 ⟨Nat.zero_le _, Nat.zero_le _⟩ (fun H locs hP hD hS => ?_)
        refine lv_goto (tgt := 401) hx hb dX11_arm_56 (by decide) ?_
        exact hret (y_Model_exchange σ (y_Model_value σ (v0 &&& 15))) _ _ _ _ hf hP hD hS dX11_arm_401
    · have hf := hf.trans (if_neg h_49)
      exact hret σ _ _ _ _ hf hP hD hS dX11_arm_24
  · have hf := hf.trans (if_pos h_48)
    refine lv_aload_n hx hb dX11_arm_11 rfl (lv_at hl 1 rfl) ?_
    refine kc_Vv (rest := []) (cy_Model_undefined l G σ) ⟨hx, hb, hml, hown, hts⟩ (cwV 0 hts (gi_V kw_822 kw_823 kw_824 kw_5 kw_825) rfl rfl rfl ⟨rfl, mdX11_undefined⟩ ⟨by decide, by decide⟩) (va_recv hK hP (ci := 9) (q0 := 0) rfl rfl) mZ_ok hK hP hD hS hA hZ rfl hl.1 rfl (Nat.le_of_ble_eq_true rfl) dX11_arm_12 ⟨Nat.zero_le _, Nat.zero_le _⟩ (fun H locs hP hD hS => ?_)
    exact hret (y_Model_undefined σ) _ _ _ _ hf hP hD hS dX11_arm_15
