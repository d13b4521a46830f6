def x_Integer_bitCount (v0 : Int32) : Int32 := (((((((v0 - ((iu v0 1) &&& 1431655765)) &&& 858993459) + ((iu (v0 - ((iu v0 1) &&& 1431655765)) 2) &&& 858993459)) + (iu (((v0 - ((iu v0 1) &&& 1431655765)) &&& 858993459) + ((iu (v0 - ((iu v0 1) &&& 1431655765)) 2) &&& 858993459)) 4)) &&& 252645135) + (iu (((((v0 - ((iu v0 1) &&& 1431655765)) &&& 858993459) + ((iu (v0 - ((iu v0 1) &&& 1431655765)) 2) &&& 858993459)) + (iu (((v0 - ((iu v0 1) &&& 1431655765)) &&& 858993459) + ((iu (v0 - ((iu v0 1) &&& 1431655765)) 2) &&& 858993459)) 4)) &&& 252645135) 8)) + (iu ((((((v0 - ((iu v0 1) &&& 1431655765)) &&& 858993459) + ((iu (v0 - ((iu v0 1) &&& 1431655765)) 2) &&& 858993459)) + (iu (((v0 - ((iu v0 1) &&& 1431655765)) &&& 858993459) + ((iu (v0 - ((iu v0 1) &&& 1431655765)) 2) &&& 858993459)) 4)) &&& 252645135) + (iu (((((v0 - ((iu v0 1) &&& 1431655765)) &&& 858993459) + ((iu (v0 - ((iu v0 1) &&& 1431655765)) 2) &&& 858993459)) + (iu (((v0 - ((iu v0 1) &&& 1431655765)) &&& 858993459) + ((iu (v0 - ((iu v0 1) &&& 1431655765)) 2) &&& 858993459)) 4)) &&& 252645135) 8)) 16)) &&& 63
set_option maxRecDepth 20000 in
set_option maxHeartbeats 4000000 in
theorem cx_Integer_bitCount (l : Launch) (v0 : Int32) : KPi l yJ6_bitCount_0f7a4 (Cond.code yJ6_bitCount_0f7a4 cJ6_bitCount_0f7a4 1 (some .int) :: lw_all) (kr 0) [.int v0] (x_Integer_bitCount v0) := by
  refine kp_in_i (q := x_Integer_bitCount v0) (by decide) rfl (Nat.le_of_ble_eq_true rfl) ?_
  intro p e s m args below meth c Q ls hx hb hml hown hts hl hret
  have hts := fun w h => hts w (List.mem_cons_of_mem _ h)
  have hl : lv_has ls 1 [(0, .int v0)] := hl
  have hf : x_Integer_bitCount v0 = x_Integer_bitCount v0 := rfl
  refine lv_iload_n hx hb dJ6_bitCount_0f7a4_0 rfl (lv_at hl 0 rfl) ?_
  refine lv_iload_n hx hb dJ6_bitCount_0f7a4_1 rfl (lv_at hl 0 rfl) ?_
  refine lv_iconst (v := 1) hx hb dJ6_bitCount_0f7a4_2 (by decide) ?_
  refine lv_iushr (v := iu v0 1) hx hb dJ6_bitCount_0f7a4_3 rfl ?_
  refine lv_ldcw (v := 1431655765) hx hb hown (hts _ kw_522) dJ6_bitCount_0f7a4_4 ?_
  refine lv_iand hx hb dJ6_bitCount_0f7a4_7 ?_
  refine lv_isub hx hb dJ6_bitCount_0f7a4_8 ?_
  refine lv_istore_n (lv' := [(0, .int (v0 - ((iu v0 1) &&& 1431655765)))]) hx hb dJ6_bitCount_0f7a4_9 rfl hl (by decide) rfl (fun ls hl => ?_)
  refine lv_iload_n hx hb dJ6_bitCount_0f7a4_10 rfl (lv_at hl 0 rfl) ?_
  refine lv_ldcw (v := 858993459) hx hb hown (hts _ kw_523) dJ6_bitCount_0f7a4_11 ?_
  refine lv_iand hx hb dJ6_bitCount_0f7a4_14 ?_
  refine lv_iload_n hx hb dJ6_bitCount_0f7a4_15 rfl (lv_at hl 0 rfl) ?_
  refine lv_iconst (v := 2) hx hb dJ6_bitCount_0f7a4_16 (by decide) ?_
  refine lv_iushr (v := iu (v0 - ((iu v0 1) &&& 1431655765)) 2) hx hb dJ6_bitCount_0f7a4_17 rfl ?_
  refine lv_ldcw (v := 858993459) hx hb hown (hts _ kw_523) dJ6_bitCount_0f7a4_18 ?_
  refine lv_iand hx hb dJ6_bitCount_0f7a4_21 ?_
  refine lv_iadd hx hb dJ6_bitCount_0f7a4_22 ?_
  refine lv_istore_n (lv' := [(0, .int (((v0 - ((iu v0 1) &&& 1431655765)) &&& 858993459) + ((iu (v0 - ((iu v0 1) &&& 1431655765)) 2) &&& 858993459)))]) hx hb dJ6_bitCount_0f7a4_23 rfl hl (by decide) rfl (fun ls hl => ?_)
  refine lv_iload_n hx hb dJ6_bitCount_0f7a4_24 rfl (lv_at hl 0 rfl) ?_
  refine lv_iload_n hx hb dJ6_bitCount_0f7a4_25 rfl (lv_at hl 0 rfl) ?_
  refine lv_iconst (v := 4) hx hb dJ6_bitCount_0f7a4_26 (by decide) ?_
  refine lv_iushr (v := iu (((v0 - ((iu v0 1) &&& 1431655765)) &&& 858993459) + ((iu (v0 - ((iu v0 1) &&& 1431655765)) 2) &&& 858993459)) 4) hx hb dJ6_bitCount_0f7a4_27 rfl ?_
  refine lv_iadd hx hb dJ6_bitCount_0f7a4_28 ?_
  refine lv_ldcw (v := 252645135) hx hb hown (hts _ kw_524) dJ6_bitCount_0f7a4_29 ?_
  refine lv_iand hx hb dJ6_bitCount_0f7a4_32 ?_
  refine lv_istore_n (lv' := [(0, .int (((((v0 - ((iu v0 1) &&& 1431655765)) &&& 858993459) + ((iu (v0 - ((iu v0 1) &&& 1431655765)) 2) &&& 858993459)) + (iu (((v0 - ((iu v0 1) &&& 1431655765)) &&& 858993459) + ((iu (v0 - ((iu v0 1) &&& 1431655765)) 2) &&& 858993459)) 4)) &&& 252645135))]) hx hb dJ6_bitCount_0f7a4_33 rfl hl (by decide) rfl (fun ls hl => ?_)
  refine lv_iload_n hx hb dJ6_bitCount_0f7a4_34 rfl (lv_at hl 0 rfl) ?_
  refine lv_iload_n hx hb dJ6_bitCount_0f7a4_35 rfl (lv_at hl 0 rfl) ?_
  refine lv_bipush (v := 8) hx hb dJ6_bitCount_0f7a4_36 (by decide) ?_
  refine lv_iushr (v := iu (((((v0 - ((iu v0 1) &&& 1431655765)) &&& 858993459) + ((iu (v0 - ((iu v0 1) &&& 1431655765)) 2) &&& 858993459)) + (iu (((v0 - ((iu v0 1) &&& 1431655765)) &&& 858993459) + ((iu (v0 - ((iu v0 1) &&& 1431655765)) 2) &&& 858993459)) 4)) &&& 252645135) 8) hx hb dJ6_bitCount_0f7a4_38 rfl ?_
  refine lv_iadd hx hb dJ6_bitCount_0f7a4_39 ?_
  refine lv_istore_n (lv' := [(0, .int ((((((v0 - ((iu v0 1) &&& 1431655765)) &&& 858993459) + ((iu (v0 - ((iu v0 1) &&& 1431655765)) 2) &&& 858993459)) + (iu (((v0 - ((iu v0 1) &&& 1431655765)) &&& 858993459) + ((iu (v0 - ((iu v0 1) &&& 1431655765)) 2) &&& 858993459)) 4)) &&& 252645135) + (iu (((((v0 - ((iu v0 1) &&& 1431655765)) &&& 858993459) + ((iu (v0 - ((iu v0 1) &&& 1431655765)) 2) &&& 858993459)) + (iu (((v0 - ((iu v0 1) &&& 1431655765)) &&& 858993459) + ((iu (v0 - ((iu v0 1) &&& 1431655765)) 2) &&& 858993459)) 4)) &&& 252645135) 8)))]) hx hb dJ6_bitCount_0f7a4_40 rfl hl (by decide) rfl (fun ls hl => ?_)
  refine lv_iload_n hx hb dJ6_bitCount_0f7a4_41 rfl (lv_at hl 0 rfl) ?_
  refine lv_iload_n hx hb dJ6_bitCount_0f7a4_42 rfl (lv_at hl 0 rfl) ?_
  refine lv_bipush (v := 16) hx hb dJ6_bitCount_0f7a4_43 (by decide) ?_
  refine lv_iushr (v := iu ((((((v0 - ((iu v0 1) &&& 1431655765)) &&& 858993459) + ((iu (v0 - ((iu v0 1) &&& 1431655765)) 2) &&& 858993459)) + (iu (((v0 - ((iu v0 1) &&& 1431655765)) &&& 858993459) + ((iu (v0 - ((iu v0 1) &&& 1431655765)) 2) &&& 858993459)) 4)) &&& 252645135) + (iu (((((v0 - ((iu v0 1) &&& 1431655765)) &&& 858993459) + ((iu (v0 - ((iu v0 1) &&& 1431655765)) 2) &&& 858993459)) + (iu (((v0 - ((iu v0 1) &&& 1431655765)) &&& 858993459) + ((iu (v0 - ((iu v0 1) &&& 1431655765)) 2) &&& 858993459)) 4)) &&& 252645135) 8)) 16) hx hb dJ6_bitCount_0f7a4_45 rfl ?_
  refine lv_iadd hx hb dJ6_bitCount_0f7a4_46 ?_
  refine lv_istore_n (lv' := [(0, .int (((((((v0 - ((iu v0 1) &&& 1431655765)) &&& 858993459) + ((iu (v0 - ((iu v0 1) &&& 1431655765)) 2) &&& 858993459)) + (iu (((v0 - ((iu v0 1) &&& 1431655765)) &&& 858993459) + ((iu (v0 - ((iu v0 1) &&& 1431655765)) 2) &&& 858993459)) 4)) &&& 252645135) + (iu (((((v0 - ((iu v0 1) &&& 1431655765)) &&& 858993459) + ((iu (v0 - ((iu v0 1) &&& 1431655765)) 2) &&& 858993459)) + (iu (((v0 - ((iu v0 1) &&& 1431655765)) &&& 858993459) + ((iu (v0 - ((iu v0 1) &&& 1431655765)) 2) &&& 858993459)) 4)) &&& 252645135) 8)) + (iu ((((((v0 - ((iu v0 1) &&& 1431655765)) &&& 858993459) + ((iu (v0 - ((iu v0 1) &&& 1431655765)) 2) &&& 858993459)) + (iu (((v0 - ((iu v0 1) &&& 1431655765)) &&& 858993459) + ((iu (v0 - ((iu v0 1) &&& 1431655765)) 2) &&& 858993459)) 4)) &&& 252645135) + (iu (((((v0 - ((iu v0 1) &&& 1431655765)) &&& 858993459) + ((iu (v0 - ((iu v0 1) &&& 1431655765)) 2) &&& 858993459)) + (iu (((v0 - ((iu v0 1) &&& 1431655765)) &&& 858993459) + ((iu (v0 - ((iu v0 1) &&& 1431655765)) 2) &&& 858993459)) 4)) &&& 252645135) 8)) 16)))]) hx hb dJ6_bitCount_0f7a4_47 rfl hl (by decide) rfl (fun ls hl => ?_)
  refine lv_iload_n hx hb dJ6_bitCount_0f7a4_48 rfl (lv_at hl 0 rfl) ?_
  refine lv_bipush (v := 63) hx hb dJ6_bitCount_0f7a4_49 (by decide) ?_
  refine lv_iand hx hb dJ6_bitCount_0f7a4_51 ?_
  exact hret ((((((((v0 - ((iu v0 1) &&& 1431655765)) &&& 858993459) + ((iu (v0 - ((iu v0 1) &&& 1431655765)) 2) &&& 858993459)) + (iu (((v0 - ((iu v0 1) &&& 1431655765)) &&& 858993459) + ((iu (v0 - ((iu v0 1) &&& 1431655765)) 2) &&& 858993459)) 4)) &&& 252645135) + (iu (((((v0 - ((iu v0 1) &&& 1431655765)) &&& 858993459) + ((iu (v0 - ((iu v0 1) &&& 1431655765)) 2) &&& 858993459)) + (iu (((v0 - ((iu v0 1) &&& 1431655765)) &&& 858993459) + ((iu (v0 - ((iu v0 1) &&& 1431655765)) 2) &&& 858993459)) 4)) &&& 252645135) 8)) + (iu ((((((v0 - ((iu v0 1) &&& 1431655765)) &&& 858993459) + ((iu (v0 - ((iu v0 1) &&& 1431655765)) 2) &&& 858993459)) + (iu (((v0 - ((iu v0 1) &&& 1431655765)) &&& 858993459) + ((iu (v0 - ((iu v0 1) &&& 1431655765)) 2) &&& 858993459)) 4)) &&& 252645135) + (iu (((((v0 - ((iu v0 1) &&& 1431655765)) &&& 858993459) + ((iu (v0 - ((iu v0 1) &&& 1431655765)) 2) &&& 858993459)) + (iu (((v0 - ((iu v0 1) &&& 1431655765)) &&& 858993459) + ((iu (v0 - ((iu v0 1) &&& 1431655765)) 2) &&& 858993459)) 4)) &&& 252645135) 8)) 16)) &&& 63) _ _ hf dJ6_bitCount_0f7a4_52
def x_Transfers_loadMany_180 (σ : CS) (v0 : Int32) (v1 : Int32) (v2 : Int32) (v3 : Int32) (n9_111 : Int32) (τ_180 : CS) : Int32 × CS := ((-1), x_Registers_jump τ_180 (x_Memory_word τ_180 n9_111))
def x_Transfers_loadMany_111 (σ : CS) (v0 : Int32) (v1 : Int32) (v2 : Int32) (v3 : Int32) : Nat → Int32 → Int32 → Int32 → CS → Int32 × CS
  | 0, _, _, _, _ => (0, σ)
  | n + 1, k0_103, n9_111, n10_111, τ_111 => (if 15 ≤ n10_111 then (if (x_Bits_on v0 15) = true then (if (x_Bits_on v0 22) = true then x_Transfers_loadMany_180 σ v0 v1 v2 v3 n9_111 (x_Registers_changeCpsr τ_111 (x_Registers_spsrOrCpsr τ_111)) else x_Transfers_loadMany_180 σ v0 v1 v2 v3 n9_111 τ_111) else ((-1), τ_111)) else (if (x_Bits_on v0 n10_111) = true then x_Transfers_loadMany_111 σ v0 v1 v2 v3 n k0_103 (n9_111 + 4) (n10_111 + 1) (x_Registers_hold τ_111 k0_103 n10_111 (x_Memory_word τ_111 n9_111)) else x_Transfers_loadMany_111 σ v0 v1 v2 v3 n k0_103 n9_111 (n10_111 + 1) τ_111))
def x_Transfers_loadMany_103 (σ : CS) (v0 : Int32) (v1 : Int32) (v2 : Int32) (v3 : Int32) (τ_66 : CS) (k0_103 : Int32) : Int32 × CS := x_Transfers_loadMany_111 σ v0 v1 v2 v3 16 k0_103 v1 0 τ_66
def x_Transfers_loadMany_96 (σ : CS) (v0 : Int32) (v1 : Int32) (v2 : Int32) (v3 : Int32) (τ_66 : CS) : Int32 × CS := x_Transfers_loadMany_103 σ v0 v1 v2 v3 τ_66 (x_Registers_bank τ_66)
def x_Transfers_loadMany_66 (σ : CS) (v0 : Int32) (v1 : Int32) (v2 : Int32) (v3 : Int32) (τ_66 : CS) : Int32 × CS := (if (x_Bits_on v0 22) = true then (if (x_Bits_on v0 15) = true then x_Transfers_loadMany_96 σ v0 v1 v2 v3 τ_66 else x_Transfers_loadMany_103 σ v0 v1 v2 v3 τ_66 0) else x_Transfers_loadMany_96 σ v0 v1 v2 v3 τ_66)
def x_Transfers_loadMany (σ : CS) (v0 : Int32) (v1 : Int32) (v2 : Int32) (v3 : Int32) : Int32 × CS := (if (x_Memory_holds σ v1) = true then (if (x_Memory_holds σ v3) = true then (if (x_Bits_four v0 16) = 15 then x_Transfers_loadMany_66 σ v0 v1 v2 v3 σ else (if (x_Bits_on v0 21) = true then x_Transfers_loadMany_66 σ v0 v1 v2 v3 (x_Registers_hold σ (x_Registers_bank σ) (x_Bits_four v0 16) v2) else x_Transfers_loadMany_66 σ v0 v1 v2 v3 σ)) else (3, σ)) else (3, σ))
set_option maxRecDepth 20000 in
set_option maxHeartbeats 4000000 in
theorem cx_Transfers_loadMany (l : Launch) (G : KG) (σ : CS) (v0 : Int32) (v1 : Int32) (v2 : Int32) (v3 : Int32) : KB l yX9_loadMany (Cond.code yX9_loadMany cX9_loadMany 11 (some .int) :: lw_all) (kr 2) (gD G) vwCl (gT G) (cZ G) (cW G) [.ref (gA G 12), .int v0, .int v1, .int v2, .int v3] σ (x_Transfers_loadMany σ v0 v1 v2 v3) := by
  refine kc_in_b (q := x_Transfers_loadMany σ v0 v1 v2 v3) (by decide) rfl (Nat.le_of_ble_eq_true rfl) ?_
  intro p e s m args below meth c A Q ls hx hb hml hown hts hK hP hD hA hS hZ hl hret
  have hts := fun w h => hts w (List.mem_cons_of_mem _ h)
  have hl : lv_has ls 11 [(0, .ref (gA G 12)), (1, .int v0), (2, .int v1), (3, .int v2), (4, .int v3)] := hl
  have hf : x_Transfers_loadMany σ v0 v1 v2 v3 = x_Transfers_loadMany σ v0 v1 v2 v3 := rfl
  have J180 : ∀ (n9_111 : Int32) (τ_180 : CS) (H : Heap) (locs : List Loc) (ls : Array Slot), va_P (gD G) vwCl (cW G (τ_180)) H → va_D A (cW G (τ_180)) → va_S A s.heap H locs → lv_has ls 11 [(0, .ref (gA G 12)), (9, .int n9_111)] → x_Transfers_loadMany σ v0 v1 v2 v3 = x_Transfers_loadMany_180 σ v0 v1 v2 v3 n9_111 τ_180 → W p l e (kr 2) s m args below meth c H locs 0 0 Q (F0 m 180 ls []) := by
    intro n9_111 τ_180 H locs ls hP hD hS hl hf
    refine lv_aload_n hx hb dX9_loadMany_180 rfl (lv_at hl 0 rfl) ?_
    refine va_get (D := gD G) (ci := 7) hx hb hts ku_9 hown hK hP 12 rfl rfl 1 (by decide) (hts _ kw_84) (fun _ h9 => h9) rfl dX9_loadMany_181 ?_
    refine lv_aload_n hx hb dX9_loadMany_184 rfl (lv_at hl 0 rfl) ?_
    refine va_get (D := gD G) (ci := 7) hx hb hts ku_9 hown hK hP 12 rfl rfl 0 (by decide) (hts _ kw_83) (fun _ h9 => h9) rfl dX9_loadMany_185 ?_
    refine lv_iload hx hb dX9_loadMany_188 (lv_at hl 1 rfl) ?_
    refine kc_Vr (rest := [.ref (gA G 3)]) (cx_Memory_word l G τ_180 n9_111) ⟨hx, hb, hml, hown, hts⟩ (cwV 1 hts (gi_V kw_535 kw_137 kw_138 kw_15 kw_139) rfl rfl rfl ⟨rfl, mdX4_word⟩ ⟨by decide, by decide⟩) (va_recv hK hP (ci := 2) (q0 := 1) rfl rfl) cZ_ok hK hP hD hS hA hZ rfl hl.1 rfl (Nat.le_of_ble_eq_true rfl) dX9_loadMany_190 ⟨Nat.zero_le _, Nat.zero_le _⟩ (fun H locs hP hD hS => ?_)
    refine kc_Vv (rest := []) (cx_Registers_jump l G τ_180 (x_Memory_word τ_180 n9_111)) ⟨hx, hb, hml, hown, hts⟩ (cwV 1 hts (gi_V kw_541 kw_187 kw_188 kw_19 kw_189) rfl rfl rfl ⟨rfl, mdX6_jump⟩ ⟨by decide, by decide⟩) (va_recv hK hP (ci := 4) (q0 := 3) rfl rfl) cZ_ok hK hP hD hS hA hZ rfl hl.1 rfl (Nat.le_of_ble_eq_true rfl) dX9_loadMany_193 ⟨Nat.zero_le _, Nat.zero_le _⟩ (fun H locs hP hD hS => ?_)
    refine lv_iconst (v := (-1)) hx hb dX9_loadMany_196 (by decide) ?_
    exact hret (-1) (x_Registers_jump τ_180 (x_Memory_word τ_180 n9_111)) _ _ _ _ hf hP hD hS dX9_loadMany_197
  have J111 : ∀ (n : Nat), ∀ (k0_103 : Int32) (n9_111 : Int32) (n10_111 : Int32) (τ_111 : CS) (hk0_103 : vp_in k0_103 6) (H : Heap) (locs : List Loc) (ls : Array Slot), va_P (gD G) vwCl (cW G (τ_111)) H → va_D A (cW G (τ_111)) → va_S A s.heap H locs → lv_has ls 11 [(0, .ref (gA G 12)), (1, .int v0), (6, .int (b01 (x_Bits_on v0 22))), (7, .int (b01 (x_Bits_on v0 15))), (8, .int k0_103), (9, .int n9_111), (10, .int n10_111)] → x_Transfers_loadMany σ v0 v1 v2 v3 = x_Transfers_loadMany_111 σ v0 v1 v2 v3 n k0_103 n9_111 n10_111 τ_111 → lpI 15 n n10_111 → W p l e (kr 2) s m args below meth c H locs 0 0 Q (F0 m 111 ls []) := by
    intro n
    induction n with
    | zero =>
      intro k0_103 n9_111 n10_111 τ_111 hk0_103 H locs ls hP hD hS hl hf hinv
      exact absurd hinv lpI_0
    | succ n ih =>
      intro k0_103 n9_111 n10_111 τ_111 hk0_103 H locs ls hP hD hS hl hf hinv
      refine lv_iload hx hb dX9_loadMany_111 (lv_at hl 6 rfl) ?_
      refine lv_bipush (v := 15) hx hb dX9_loadMany_113 (by decide) ?_
      refine lv_icmp_ge (tgt := 156) hx hb dX9_loadMany_115 (by decide) (fun h_11 => ?_) (fun h_11 => ?_)
      · have hf := hf.trans (if_pos h_11)
        refine lv_iload hx hb dX9_loadMany_156 (lv_at hl 3 rfl) ?_
        refine kz_eq (tgt := 196) hx hb dX9_loadMany_158 (by decide) (fun h_12 => ?_) (fun h_12 => ?_)
        · have hf := hf.trans (if_neg h_12)
          refine lv_iconst (v := (-1)) hx hb dX9_loadMany_196 (by decide) ?_
          exact hret (-1) τ_111 _ _ _ _ hf hP hD hS dX9_loadMany_197
        · have hf := hf.trans (if_pos h_12)
          refine lv_iload hx hb dX9_loadMany_161 (lv_at hl 2 rfl) ?_
          refine kz_eq (tgt := 180) hx hb dX9_loadMany_163 (by decide) (fun h_13 => ?_) (fun h_13 => ?_)
          · have hf := hf.trans (if_neg h_13)
            exact J180 n9_111 τ_111 _ _ _ hP hD hS (lv_sub hl [0, 5] rfl) hf
          · have hf := hf.trans (if_pos h_13)
            refine lv_aload_n hx hb dX9_loadMany_166 rfl (lv_at hl 0 rfl) ?_
            refine va_get (D := gD G) (ci := 7) hx hb hts ku_9 hown hK hP 12 rfl rfl 1 (by decide) (hts _ kw_84) (fun _ h9 => h9) rfl dX9_loadMany_167 ?_
            refine lv_aload_n hx hb dX9_loadMany_170 rfl (lv_at hl 0 rfl) ?_
            refine va_get (D := gD G) (ci := 7) hx hb hts ku_9 hown hK hP 12 rfl rfl 1 (by decide) (hts _ kw_84) (fun _ h9 => h9) rfl dX9_loadMany_171 ?_
            refine kc_Vr (rest := [.ref (gA G 3)]) (cx_Registers_spsrOrCpsr l G τ_111) ⟨hx, hb, hml, hown, hts⟩ (cwV 0 hts (gi_V kw_536 kw_537 kw_538 kw_19 kw_539) rfl rfl rfl ⟨rfl, mdX6_spsrOrCpsr⟩ ⟨by decide, by decide⟩) (va_recv hK hP (ci := 4) (q0 := 3) rfl rfl) cZ_ok hK hP hD hS hA hZ rfl hl.1 rfl (Nat.le_of_ble_eq_true rfl) dX9_loadMany_174 ⟨Nat.zero_le _, Nat.zero_le _⟩ (fun H locs hP hD hS => ?_)
            refine kc_Vv (rest := []) (cx_Registers_changeCpsr l G τ_111 (x_Registers_spsrOrCpsr τ_111)) ⟨hx, hb, hml, hown, hts⟩ (cwV 1 hts (gi_V kw_540 kw_241 kw_242 kw_19 kw_243) rfl rfl rfl ⟨rfl, mdX6_changeCpsr⟩ ⟨by decide, by decide⟩) (va_recv hK hP (ci := 4) (q0 := 3) rfl rfl) cZ_ok hK hP hD hS hA hZ rfl hl.1 rfl (Nat.le_of_ble_eq_true rfl) dX9_loadMany_177 ⟨Nat.zero_le _, Nat.zero_le _⟩ (fun H locs hP hD hS => ?_)
            exact J180 n9_111 (x_Registers_changeCpsr τ_111 (x_Registers_spsrOrCpsr τ_111)) _ _ _ hP hD hS (lv_sub hl [0, 5] rfl) hf
      · have hf := hf.trans (if_neg h_11)
        refine lv_iload_n hx hb dX9_loadMany_118 rfl (lv_at hl 1 rfl) ?_
        refine lv_iload hx hb dX9_loadMany_119 (lv_at hl 6 rfl) ?_
        refine kp_Si (rest := []) (cx_Bits_on l v0 n10_111) ⟨hx, hb, hml, hown, hts⟩ (va_cwS 2 hts (gi_S kw_525 kw_356 kw_346 kw_357) rfl rfl rfl mdX2_on ⟨by decide, by decide⟩) rfl hl.1 rfl (Nat.le_of_ble_eq_true rfl) dX9_loadMany_121 ⟨Nat.zero_le _, Nat.zero_le _⟩ ?_
        refine kz_eq (tgt := 150) hx hb dX9_loadMany_124 (by decide) (fun h_14 => ?_) (fun h_14 => ?_)
        · have hf := hf.trans (if_neg h_14)
          refine lv_iinc (v := n10_111 + 1) (lv' := [(10, .int (n10_111 + 1)), (0, .ref (gA G 12)), (1, .int v0), (6, .int (b01 (x_Bits_on v0 22))), (7, .int (b01 (x_Bits_on v0 15))), (8, .int k0_103), (9, .int n9_111)]) hx hb dX9_loadMany_150 hl (k := 6) rfl rfl (by decide) rfl (fun ls hl => ?_)
          refine lv_goto (tgt := 111) hx hb dX9_loadMany_153 (by decide) ?_
          exact ih k0_103 n9_111 (n10_111 + 1) τ_111 hk0_103 _ _ _ hP hD hS (lv_sub hl [1, 2, 3, 4, 5, 6, 0] rfl) hf (lpI_s hinv (lp_c2 (by assumption)))
        · have hf := hf.trans (if_pos h_14)
          refine lv_aload_n hx hb dX9_loadMany_127 rfl (lv_at hl 0 rfl) ?_
          refine va_get (D := gD G) (ci := 7) hx hb hts ku_9 hown hK hP 12 rfl rfl 1 (by decide) (hts _ kw_84) (fun _ h9 => h9) rfl dX9_loadMany_128 ?_
          refine lv_iload hx hb dX9_loadMany_131 (lv_at hl 4 rfl) ?_
          refine lv_iload hx hb dX9_loadMany_133 (lv_at hl 6 rfl) ?_
          refine lv_aload_n hx hb dX9_loadMany_135 rfl (lv_at hl 0 rfl) ?_
          refine va_get (D := gD G) (ci := 7) hx hb hts ku_9 hown hK hP 12 rfl rfl 0 (by decide) (hts _ kw_83) (fun _ h9 => h9) rfl dX9_loadMany_136 ?_
          refine lv_iload hx hb dX9_loadMany_139 (lv_at hl 5 rfl) ?_
          refine kc_Vr (rest := [.int n10_111, .int k0_103, .ref (gA G 3)]) (cx_Memory_word l G τ_111 n9_111) ⟨hx, hb, hml, hown, hts⟩ (cwV 1 hts (gi_V kw_535 kw_137 kw_138 kw_15 kw_139) rfl rfl rfl ⟨rfl, mdX4_word⟩ ⟨by decide, by decide⟩) (va_recv hK hP (ci := 2) (q0 := 1) rfl rfl) cZ_ok hK hP hD hS hA hZ rfl hl.1 rfl (Nat.le_of_ble_eq_true rfl) dX9_loadMany_141 ⟨Nat.zero_le _, Nat.zero_le _⟩ (fun H locs hP hD hS => ?_)
          refine kc_Vv (rest := []) (cx_Registers_hold l G τ_111 k0_103 n10_111 (x_Memory_word τ_111 n9_111) hk0_103 (lpI_in hinv (lp_c2 (by assumption)) (by decide))) ⟨hx, hb, hml, hown, hts⟩ (cwV 3 hts (gi_V kw_534 kw_195 kw_196 kw_19 kw_197) rfl rfl rfl ⟨rfl, mdX6_hold⟩ ⟨by decide, by decide⟩) (va_recv hK hP (ci := 4) (q0 := 3) rfl rfl) cZ_ok hK hP hD hS hA hZ rfl hl.1 rfl (Nat.le_of_ble_eq_true rfl) dX9_loadMany_144 ⟨Nat.zero_le _, Nat.zero_le _⟩ (fun H locs hP hD hS => ?_)
          refine lv_iinc (v := n9_111 + 4) (lv' := [(9, .int (n9_111 + 4)), (0, .ref (gA G 12)), (1, .int v0), (6, .int (b01 (x_Bits_on v0 22))), (7, .int (b01 (x_Bits_on v0 15))), (8, .int k0_103), (10, .int n10_111)]) hx hb dX9_loadMany_147 hl (k := 5) rfl rfl (by decide) rfl (fun ls hl => ?_)
          refine lv_iinc (v := n10_111 + 1) (lv' := [(10, .int (n10_111 + 1)), (9, .int (n9_111 + 4)), (0, .ref (gA G 12)), (1, .int v0), (6, .int (b01 (x_Bits_on v0 22))), (7, .int (b01 (x_Bits_on v0 15))), (8, .int k0_103)]) hx hb dX9_loadMany_150 hl (k := 6) rfl rfl (by decide) rfl (fun ls hl => ?_)
          refine lv_goto (tgt := 111) hx hb dX9_loadMany_153 (by decide) ?_
          exact ih k0_103 (n9_111 + 4) (n10_111 + 1) (x_Registers_hold τ_111 k0_103 n10_111 (x_Memory_word τ_111 n9_111)) hk0_103 _ _ _ hP hD hS (lv_sub hl [2, 3, 4, 5, 6, 1, 0] rfl) hf (lpI_s hinv (lp_c2 (by assumption)))
  have J103 : ∀ (τ_66 : CS) (k0_103 : Int32) (hk0_103 : vp_in k0_103 6) (H : Heap) (locs : List Loc) (ls : Array Slot), va_P (gD G) vwCl (cW G (τ_66)) H → va_D A (cW G (τ_66)) → va_S A s.heap H locs → lv_has ls 11 [(0, .ref (gA G 12)), (1, .int v0), (2, .int v1), (6, .int (b01 (x_Bits_on v0 22))), (7, .int (b01 (x_Bits_on v0 15)))] → x_Transfers_loadMany σ v0 v1 v2 v3 = x_Transfers_loadMany_103 σ v0 v1 v2 v3 τ_66 k0_103 → W p l e (kr 2) s m args below meth c H locs 0 0 Q (F0 m 103 ls [.int k0_103]) := by
    intro τ_66 k0_103 hk0_103 H locs ls hP hD hS hl hf
    refine lv_istore (lv' := [(8, .int k0_103), (0, .ref (gA G 12)), (1, .int v0), (2, .int v1), (6, .int (b01 (x_Bits_on v0 22))), (7, .int (b01 (x_Bits_on v0 15)))]) hx hb dX9_loadMany_103 hl (by decide) rfl (fun ls hl => ?_)
    refine lv_iload_n hx hb dX9_loadMany_105 rfl (lv_at hl 3 rfl) ?_
    refine lv_istore (lv' := [(9, .int v1), (8, .int k0_103), (0, .ref (gA G 12)), (1, .int v0), (2, .int v1), (6, .int (b01 (x_Bits_on v0 22))), (7, .int (b01 (x_Bits_on v0 15)))]) hx hb dX9_loadMany_106 hl (by decide) rfl (fun ls hl => ?_)
    refine lv_iconst (v := 0) hx hb dX9_loadMany_108 (by decide) ?_
    refine lv_istore (lv' := [(10, .int 0), (9, .int v1), (8, .int k0_103), (0, .ref (gA G 12)), (1, .int v0), (2, .int v1), (6, .int (b01 (x_Bits_on v0 22))), (7, .int (b01 (x_Bits_on v0 15)))]) hx hb dX9_loadMany_109 hl (by decide) rfl (fun ls hl => ?_)
    exact J111 16 k0_103 v1 0 τ_66 hk0_103 _ _ _ hP hD hS (lv_sub hl [3, 4, 6, 7, 2, 1, 0] rfl) hf (lpI_start 15)
  have J96 : ∀ (τ_66 : CS) (H : Heap) (locs : List Loc) (ls : Array Slot), va_P (gD G) vwCl (cW G (τ_66)) H → va_D A (cW G (τ_66)) → va_S A s.heap H locs → lv_has ls 11 [(0, .ref (gA G 12)), (1, .int v0), (2, .int v1), (6, .int (b01 (x_Bits_on v0 22))), (7, .int (b01 (x_Bits_on v0 15)))] → x_Transfers_loadMany σ v0 v1 v2 v3 = x_Transfers_loadMany_96 σ v0 v1 v2 v3 τ_66 → W p l e (kr 2) s m args below meth c H locs 0 0 Q (F0 m 96 ls []) := by
    intro τ_66 H locs ls hP hD hS hl hf
    refine lv_aload_n hx hb dX9_loadMany_96 rfl (lv_at hl 0 rfl) ?_
    refine va_get (D := gD G) (ci := 7) hx hb hts ku_9 hown hK hP 12 rfl rfl 1 (by decide) (hts _ kw_84) (fun _ h9 => h9) rfl dX9_loadMany_97 ?_
    refine kc_Vr (rest := []) (cx_Registers_bank l G τ_66) ⟨hx, hb, hml, hown, hts⟩ (cwV 0 hts (gi_V kw_530 kw_531 kw_532 kw_19 kw_533) rfl rfl rfl ⟨rfl, mdX6_bank⟩ ⟨by decide, by decide⟩) (va_recv hK hP (ci := 4) (q0 := 3) rfl rfl) cZ_ok hK hP hD hS hA hZ rfl hl.1 rfl (Nat.le_of_ble_eq_true rfl) dX9_loadMany_100 ⟨Nat.zero_le _, Nat.zero_le _⟩ (fun H locs hP hD hS => ?_)
    exact J103 τ_66 (x_Registers_bank τ_66) (c_bank_in _) _ _ _ hP hD hS (lv_sub hl [0, 1, 2, 3, 4] rfl) hf
  have J66 : ∀ (τ_66 : CS) (H : Heap) (locs : List Loc) (ls : Array Slot), va_P (gD G) vwCl (cW G (τ_66)) H → va_D A (cW G (τ_66)) → va_S A s.heap H locs → lv_has ls 11 [(0, .ref (gA G 12)), (1, .int v0), (2, .int v1)] → x_Transfers_loadMany σ v0 v1 v2 v3 = x_Transfers_loadMany_66 σ v0 v1 v2 v3 τ_66 → W p l e (kr 2) s m args below meth c H locs 0 0 Q (F0 m 66 ls []) := by
    intro τ_66 H locs ls hP hD hS hl hf
    refine lv_iload_n hx hb dX9_loadMany_66 rfl (lv_at hl 1 rfl) ?_
    refine lv_bipush (v := 22) hx hb dX9_loadMany_67 (by decide) ?_
    refine kp_Si (rest := []) (cx_Bits_on l v0 22) ⟨hx, hb, hml, hown, hts⟩ (va_cwS 2 hts (gi_S kw_525 kw_356 kw_346 kw_357) rfl rfl rfl mdX2_on ⟨by decide, by decide⟩) rfl hl.1 rfl (Nat.le_of_ble_eq_true rfl) dX9_loadMany_69 ⟨Nat.zero_le _, Nat.zero_le _⟩ ?_
    refine lv_istore (lv' := [(6, .int (b01 (x_Bits_on v0 22))), (0, .ref (gA G 12)), (1, .int v0), (2, .int v1)]) hx hb dX9_loadMany_72 hl (by decide) rfl (fun ls hl => ?_)
    refine lv_iload_n hx hb dX9_loadMany_74 rfl (lv_at hl 2 rfl) ?_
    refine lv_bipush (v := 15) hx hb dX9_loadMany_75 (by decide) ?_
    refine kp_Si (rest := []) (cx_Bits_on l v0 15) ⟨hx, hb, hml, hown, hts⟩ (va_cwS 2 hts (gi_S kw_525 kw_356 kw_346 kw_357) rfl rfl rfl mdX2_on ⟨by decide, by decide⟩) rfl hl.1 rfl (Nat.le_of_ble_eq_true rfl) dX9_loadMany_77 ⟨Nat.zero_le _, Nat.zero_le _⟩ ?_
    refine lv_istore (lv' := [(7, .int (b01 (x_Bits_on v0 15))), (6, .int (b01 (x_Bits_on v0 22))), (0, .ref (gA G 12)), (1, .int v0), (2, .int v1)]) hx hb dX9_loadMany_80 hl (by decide) rfl (fun ls hl => ?_)
    refine lv_iload hx hb dX9_loadMany_82 (lv_at hl 1 rfl) ?_
    refine kz_eq (tgt := 96) hx hb dX9_loadMany_84 (by decide) (fun h_15 => ?_) (fun h_15 => ?_)
    · have hf := hf.trans (if_neg h_15)
      exact J96 τ_66 _ _ _ hP hD hS (lv_sub hl [2, 3, 4, 1, 0] rfl) hf
    · have hf := hf.trans (if_pos h_15)
      refine lv_iload hx hb dX9_loadMany_87 (lv_at hl 0 rfl) ?_
      refine kz_ne (tgt := 96) hx hb dX9_loadMany_89 (by decide) (fun h_16 => ?_) (fun h_16 => ?_)
      · have hf := hf.trans (if_pos h_16)
        exact J96 τ_66 _ _ _ hP hD hS (lv_sub hl [2, 3, 4, 1, 0] rfl) hf
      · have hf := hf.trans (if_neg h_16)
        refine lv_iconst (v := 0) hx hb dX9_loadMany_92 (by decide) ?_
        refine lv_goto (tgt := 103) hx hb dX9_loadMany_93 (by decide) ?_
        exact J103 τ_66 0 (by unfold vp_in; decide) _ _ _ hP hD hS (lv_sub hl [2, 3, 4, 1, 0] rfl) hf
  refine lv_aload_n hx hb dX9_loadMany_0 rfl (lv_at hl 0 rfl) ?_
  refine va_get (D := gD G) (ci := 7) hx hb hts ku_9 hown hK hP 12 rfl rfl 0 (by decide) (hts _ kw_83) (fun _ h9 => h9) rfl dX9_loadMany_1 ?_
  refine lv_iload_n hx hb dX9_loadMany_4 rfl (lv_at hl 2 rfl) ?_
  refine kc_Vr (rest := []) (cx_Memory_holds l G σ v1) ⟨hx, hb, hml, hown, hts⟩ (cwV 1 hts (gi_V kw_458 kw_132 kw_133 kw_15 kw_134) rfl rfl rfl ⟨rfl, mdX4_holds⟩ ⟨by decide, by decide⟩) (va_recv hK hP (ci := 2) (q0 := 1) rfl rfl) cZ_ok hK hP hD hS hA hZ rfl hl.1 rfl (Nat.le_of_ble_eq_true rfl) dX9_loadMany_5 ⟨Nat.zero_le _, Nat.zero_le _⟩ (fun H locs hP hD hS => ?_)
  refine kz_eq (tgt := 23) hx hb dX9_loadMany_8 (by decide) (fun h_17 => ?_) (fun h_17 => ?_)
  · have hf := hf.trans (if_neg h_17)
    refine lv_iconst (v := 3) hx hb dX9_loadMany_23 (by decide) ?_
    exact hret 3 σ _ _ _ _ hf hP hD hS dX9_loadMany_24
  · have hf := hf.trans (if_pos h_17)
    refine lv_aload_n hx hb dX9_loadMany_11 rfl (lv_at hl 0 rfl) ?_
    refine va_get (D := gD G) (ci := 7) hx hb hts ku_9 hown hK hP 12 rfl rfl 0 (by decide) (hts _ kw_83) (fun _ h9 => h9) rfl dX9_loadMany_12 ?_
    refine lv_iload hx hb dX9_loadMany_15 (lv_at hl 4 rfl) ?_
    refine kc_Vr (rest := []) (cx_Memory_holds l G σ v3) ⟨hx, hb, hml, hown, hts⟩ (cwV 1 hts (gi_V kw_458 kw_132 kw_133 kw_15 kw_134) rfl rfl rfl ⟨rfl, mdX4_holds⟩ ⟨by decide, by decide⟩) (va_recv hK hP (ci := 2) (q0 := 1) rfl rfl) cZ_ok hK hP hD hS hA hZ rfl hl.1 rfl (Nat.le_of_ble_eq_true rfl) dX9_loadMany_17 ⟨Nat.zero_le _, Nat.zero_le _⟩ (fun H locs hP hD hS => ?_)
    refine kz_ne (tgt := 25) hx hb dX9_loadMany_20 (by decide) (fun h_18 => ?_) (fun h_18 => ?_)
    · have hf := hf.trans (if_pos h_18)
      refine lv_iload_n hx hb dX9_loadMany_25 rfl (lv_at hl 1 rfl) ?_
      refine lv_bipush (v := 16) hx hb dX9_loadMany_26 (by decide) ?_
      refine kp_Si (rest := []) (cx_Bits_four l v0 16) ⟨hx, hb, hml, hown, hts⟩ (va_cwS 2 hts (gi_S kw_517 kw_345 kw_346 kw_347) rfl rfl rfl mdX2_four ⟨by decide, by decide⟩) rfl hl.1 rfl (Nat.le_of_ble_eq_true rfl) dX9_loadMany_28 ⟨Nat.zero_le _, Nat.zero_le _⟩ ?_
      refine lv_istore (lv' := [(5, .int (x_Bits_four v0 16)), (0, .ref (gA G 12)), (1, .int v0), (2, .int v1), (3, .int v2), (4, .int v3)]) hx hb dX9_loadMany_31 hl (by decide) rfl (fun ls hl => ?_)
      refine lv_iload hx hb dX9_loadMany_33 (lv_at hl 0 rfl) ?_
      refine lv_bipush (v := 15) hx hb dX9_loadMany_35 (by decide) ?_
      refine lv_icmp_eq (tgt := 66) hx hb dX9_loadMany_37 (by decide) (fun h_19 => ?_) (fun h_19 => ?_)
      · have hf := hf.trans (if_pos h_19)
        exact J66 σ _ _ _ hP hD hS (lv_sub hl [1, 2, 3] rfl) hf
      · have hf := hf.trans (if_neg h_19)
        refine lv_iload_n hx hb dX9_loadMany_40 rfl (lv_at hl 2 rfl) ?_
        refine lv_bipush (v := 21) hx hb dX9_loadMany_41 (by decide) ?_
        refine kp_Si (rest := []) (cx_Bits_on l v0 21) ⟨hx, hb, hml, hown, hts⟩ (va_cwS 2 hts (gi_S kw_525 kw_356 kw_346 kw_357) rfl rfl rfl mdX2_on ⟨by decide, by decide⟩) rfl hl.1 rfl (Nat.le_of_ble_eq_true rfl) dX9_loadMany_43 ⟨Nat.zero_le _, Nat.zero_le _⟩ ?_
        refine kz_eq (tgt := 66) hx hb dX9_loadMany_46 (by decide) (fun h_20 => ?_) (fun h_20 => ?_)
        · have hf := hf.trans (if_neg h_20)
          exact J66 σ _ _ _ hP hD hS (lv_sub hl [1, 2, 3] rfl) hf
        · have hf := hf.trans (if_pos h_20)
          refine lv_aload_n hx hb dX9_loadMany_49 rfl (lv_at hl 1 rfl) ?_
          refine va_get (D := gD G) (ci := 7) hx hb hts ku_9 hown hK hP 12 rfl rfl 1 (by decide) (hts _ kw_84) (fun _ h9 => h9) rfl dX9_loadMany_50 ?_
          refine lv_aload_n hx hb dX9_loadMany_53 rfl (lv_at hl 1 rfl) ?_
          refine va_get (D := gD G) (ci := 7) hx hb hts ku_9 hown hK hP 12 rfl rfl 1 (by decide) (hts _ kw_84) (fun _ h9 => h9) rfl dX9_loadMany_54 ?_
          refine kc_Vr (rest := [.ref (gA G 3)]) (cx_Registers_bank l G σ) ⟨hx, hb, hml, hown, hts⟩ (cwV 0 hts (gi_V kw_530 kw_531 kw_532 kw_19 kw_533) rfl rfl rfl ⟨rfl, mdX6_bank⟩ ⟨by decide, by decide⟩) (va_recv hK hP (ci := 4) (q0 := 3) rfl rfl) cZ_ok hK hP hD hS hA hZ rfl hl.1 rfl (Nat.le_of_ble_eq_true rfl) dX9_loadMany_57 ⟨Nat.zero_le _, Nat.zero_le _⟩ (fun H locs hP hD hS => ?_)
          refine lv_iload hx hb dX9_loadMany_60 (lv_at hl 0 rfl) ?_
          refine lv_iload_n hx hb dX9_loadMany_62 rfl (lv_at hl 4 rfl) ?_
          refine kc_Vv (rest := []) (cx_Registers_hold l G σ (x_Registers_bank σ) (x_Bits_four v0 16) v2 (c_bank_in _) (bt4_16 _ _)) ⟨hx, hb, hml, hown, hts⟩ (cwV 3 hts (gi_V kw_534 kw_195 kw_196 kw_19 kw_197) rfl rfl rfl ⟨rfl, mdX6_hold⟩ ⟨by decide, by decide⟩) (va_recv hK hP (ci := 4) (q0 := 3) rfl rfl) cZ_ok hK hP hD hS hA hZ rfl hl.1 rfl (Nat.le_of_ble_eq_true rfl) dX9_loadMany_63 ⟨Nat.zero_le _, Nat.zero_le _⟩ (fun H locs hP hD hS => ?_)
          exact J66 (x_Registers_hold σ (x_Registers_bank σ) (x_Bits_four v0 16) v2) _ _ _ hP hD hS (lv_sub hl [1, 2, 3] rfl) hf
    · have hf := hf.trans (if_neg h_18)
      refine lv_iconst (v := 3) hx hb dX9_loadMany_23 (by decide) ?_
      exact hret 3 σ _ _ _ _ hf hP hD hS dX9_loadMany_24
def x_Transfers_storeMany_28 (σ : CS) (v0 : Int32) (v1 : Int32) (v2 : Int32) : Nat → Int32 → Int32 → Int32 → CS → Int32 × CS
  | 0, _, _, _, _ => (0, σ)
  | n + 1, k0_20, n5_28, n6_28, τ_28 => (if 15 < n6_28 then (if (x_Bits_four v0 16) = 15 then ((-1), τ_28) else (if (x_Bits_on v0 21) = true then ((-1), x_Registers_hold τ_28 (x_Registers_bank τ_28) (x_Bits_four v0 16) v2) else ((-1), τ_28))) else (if (x_Bits_on v0 n6_28) = true then (if (x_Memory_holds τ_28 n5_28) = true then x_Transfers_storeMany_28 σ v0 v1 v2 n k0_20 (n5_28 + 4) (n6_28 + 1) (x_Memory_putWord τ_28 n5_28 (x_Registers_readLateIn τ_28 k0_20 n6_28)) else (3, τ_28)) else x_Transfers_storeMany_28 σ v0 v1 v2 n k0_20 n5_28 (n6_28 + 1) τ_28))
def x_Transfers_storeMany_20 (σ : CS) (v0 : Int32) (v1 : Int32) (v2 : Int32) (k0_20 : Int32) : Int32 × CS := x_Transfers_storeMany_28 σ v0 v1 v2 17 k0_20 v1 0 σ
def x_Transfers_storeMany (σ : CS) (v0 : Int32) (v1 : Int32) (v2 : Int32) : Int32 × CS := (if (x_Bits_on v0 22) = true then x_Transfers_storeMany_20 σ v0 v1 v2 0 else x_Transfers_storeMany_20 σ v0 v1 v2 (x_Registers_bank σ))
set_option maxRecDepth 20000 in
set_option maxHeartbeats 4000000 in
theorem cx_Transfers_storeMany (l : Launch) (G : KG) (σ : CS) (v0 : Int32) (v1 : Int32) (v2 : Int32) : KB l yX9_storeMany (Cond.code yX9_storeMany cX9_storeMany 7 (some .int) :: lw_all) (kr 1) (gD G) vwCl (gT G) (cZ G) (cW G) [.ref (gA G 12), .int v0, .int v1, .int v2] σ (x_Transfers_storeMany σ v0 v1 v2) := by
  refine kc_in_b (q := x_Transfers_storeMany σ v0 v1 v2) (by decide) rfl (Nat.le_of_ble_eq_true rfl) ?_
  intro p e s m args below meth c A Q ls hx hb hml hown hts hK hP hD hA hS hZ hl hret
  have hts := fun w h => hts w (List.mem_cons_of_mem _ h)
  have hl : lv_has ls 7 [(0, .ref (gA G 12)), (1, .int v0), (2, .int v1), (3, .int v2)] := hl
  have hf : x_Transfers_storeMany σ v0 v1 v2 = x_Transfers_storeMany σ v0 v1 v2 := rfl
  have J28 : ∀ (n : Nat), ∀ (k0_20 : Int32) (n5_28 : Int32) (n6_28 : Int32) (τ_28 : CS) (hk0_20 : vp_in k0_20 6) (H : Heap) (locs : List Loc) (ls : Array Slot), va_P (gD G) vwCl (cW G (τ_28)) H → va_D A (cW G (τ_28)) → va_S A s.heap H locs → lv_has ls 7 [(0, .ref (gA G 12)), (1, .int v0), (3, .int v2), (4, .int k0_20), (5, .int n5_28), (6, .int n6_28)] → x_Transfers_storeMany σ v0 v1 v2 = x_Transfers_storeMany_28 σ v0 v1 v2 n k0_20 n5_28 n6_28 τ_28 → lpI 16 n n6_28 → W p l e (kr 1) s m args below meth c H locs 0 0 Q (F0 m 28 ls []) := by
    intro n
    induction n with
    | zero =>
      intro k0_20 n5_28 n6_28 τ_28 hk0_20 H locs ls hP hD hS hl hf hinv
      exact absurd hinv lpI_0
    | succ n ih =>
      intro k0_20 n5_28 n6_28 τ_28 hk0_20 H locs ls hP hD hS hl hf hinv
      refine lv_iload hx hb dX9_storeMany_28 (lv_at hl 5 rfl) ?_
      refine lv_bipush (v := 15) hx hb dX9_storeMany_30 (by decide) ?_
      refine lv_icmp_gt (tgt := 87) hx hb dX9_storeMany_32 (by decide) (fun h_7 => ?_) (fun h_7 => ?_)
      · have hf := hf.trans (if_pos h_7)
        refine lv_iload_n hx hb dX9_storeMany_87 rfl (lv_at hl 1 rfl) ?_
        refine lv_bipush (v := 16) hx hb dX9_storeMany_88 (by decide) ?_
        refine kp_Si (rest := []) (cx_Bits_four l v0 16) ⟨hx, hb, hml, hown, hts⟩ (va_cwS 2 hts (gi_S kw_517 kw_345 kw_346 kw_347) rfl rfl rfl mdX2_four ⟨by decide, by decide⟩) rfl hl.1 rfl (Nat.le_of_ble_eq_true rfl) dX9_storeMany_90 ⟨Nat.zero_le _, Nat.zero_le _⟩ ?_
        refine lv_istore (lv' := [(6, .int (x_Bits_four v0 16)), (0, .ref (gA G 12)), (1, .int v0), (3, .int v2), (4, .int k0_20), (5, .int n5_28)]) hx hb dX9_storeMany_93 hl (by decide) rfl (fun ls hl => ?_)
        refine lv_iload hx hb dX9_storeMany_95 (lv_at hl 0 rfl) ?_
        refine lv_bipush (v := 15) hx hb dX9_storeMany_97 (by decide) ?_
        refine lv_icmp_eq (tgt := 128) hx hb dX9_storeMany_99 (by decide) (fun h_8 => ?_) (fun h_8 => ?_)
        · have hf := hf.trans (if_pos h_8)
          refine lv_iconst (v := (-1)) hx hb dX9_storeMany_128 (by decide) ?_
          exact hret (-1) τ_28 _ _ _ _ hf hP hD hS dX9_storeMany_129
        · have hf := hf.trans (if_neg h_8)
          refine lv_iload_n hx hb dX9_storeMany_102 rfl (lv_at hl 2 rfl) ?_
          refine lv_bipush (v := 21) hx hb dX9_storeMany_103 (by decide) ?_
          refine kp_Si (rest := []) (cx_Bits_on l v0 21) ⟨hx, hb, hml, hown, hts⟩ (va_cwS 2 hts (gi_S kw_525 kw_356 kw_346 kw_357) rfl rfl rfl mdX2_on ⟨by decide, by decide⟩) rfl hl.1 rfl (Nat.le_of_ble_eq_true rfl) dX9_storeMany_105 ⟨Nat.zero_le _, Nat.zero_le _⟩ ?_
          refine kz_eq (tgt := 128) hx hb dX9_storeMany_108 (by decide) (fun h_9 => ?_) (fun h_9 => ?_)
          · have hf := hf.trans (if_neg h_9)
            refine lv_iconst (v := (-1)) hx hb dX9_storeMany_128 (by decide) ?_
            exact hret (-1) τ_28 _ _ _ _ hf hP hD hS dX9_storeMany_129
          · have hf := hf.trans (if_pos h_9)
            refine lv_aload_n hx hb dX9_storeMany_111 rfl (lv_at hl 1 rfl) ?_
            refine va_get (D := gD G) (ci := 7) hx hb hts ku_9 hown hK hP 12 rfl rfl 1 (by decide) (hts _ kw_84) (fun _ h9 => h9) rfl dX9_storeMany_112 ?_
            refine lv_aload_n hx hb dX9_storeMany_115 rfl (lv_at hl 1 rfl) ?_
            refine va_get (D := gD G) (ci := 7) hx hb hts ku_9 hown hK hP 12 rfl rfl 1 (by decide) (hts _ kw_84) (fun _ h9 => h9) rfl dX9_storeMany_116 ?_
            refine kc_Vr (rest := [.ref (gA G 3)]) (cx_Registers_bank l G τ_28) ⟨hx, hb, hml, hown, hts⟩ (cwV 0 hts (gi_V kw_530 kw_531 kw_532 kw_19 kw_533) rfl rfl rfl ⟨rfl, mdX6_bank⟩ ⟨by decide, by decide⟩) (va_recv hK hP (ci := 4) (q0 := 3) rfl rfl) cZ_ok hK hP hD hS hA hZ rfl hl.1 rfl (Nat.le_of_ble_eq_true rfl) dX9_storeMany_119 ⟨Nat.zero_le _, Nat.zero_le _⟩ (fun H locs hP hD hS => ?_)
            refine lv_iload hx hb dX9_storeMany_122 (lv_at hl 0 rfl) ?_
            refine lv_iload_n hx hb dX9_storeMany_124 rfl (lv_at hl 3 rfl) ?_
            refine kc_Vv (rest := []) (cx_Registers_hold l G τ_28 (x_Registers_bank τ_28) (x_Bits_four v0 16) v2 (c_bank_in _) (bt4_16 _ _)) ⟨hx, hb, hml, hown, hts⟩ (cwV 3 hts (gi_V kw_534 kw_195 kw_196 kw_19 kw_197) rfl rfl rfl ⟨rfl, mdX6_hold⟩ ⟨by decide, by decide⟩) (va_recv hK hP (ci := 4) (q0 := 3) rfl rfl) cZ_ok hK hP hD hS hA hZ rfl hl.1 rfl (Nat.le_of_ble_eq_true rfl) dX9_storeMany_125 ⟨Nat.zero_le _, Nat.zero_le _⟩ (fun H locs hP hD hS => ?_)
            refine lv_iconst (v := (-1)) hx hb dX9_storeMany_128 (by decide) ?_
            exact hret (-1) (x_Registers_hold τ_28 (x_Registers_bank τ_28) (x_Bits_four v0 16) v2) _ _ _ _ hf hP hD hS dX9_storeMany_129
      · have hf := hf.trans (if_neg h_7)
        refine lv_iload_n hx hb dX9_storeMany_35 rfl (lv_at hl 1 rfl) ?_
        refine lv_iload hx hb dX9_storeMany_36 (lv_at hl 5 rfl) ?_
        refine kp_Si (rest := []) (cx_Bits_on l v0 n6_28) ⟨hx, hb, hml, hown, hts⟩ (va_cwS 2 hts (gi_S kw_525 kw_356 kw_346 kw_357) rfl rfl rfl mdX2_on ⟨by decide, by decide⟩) rfl hl.1 rfl (Nat.le_of_ble_eq_true rfl) dX9_storeMany_38 ⟨Nat.zero_le _, Nat.zero_le _⟩ ?_
        refine kz_eq (tgt := 81) hx hb dX9_storeMany_41 (by decide) (fun h_10 => ?_) (fun h_10 => ?_)
        · have hf := hf.trans (if_neg h_10)
          refine lv_iinc (v := n6_28 + 1) (lv' := [(6, .int (n6_28 + 1)), (0, .ref (gA G 12)), (1, .int v0), (3, .int v2), (4, .int k0_20), (5, .int n5_28)]) hx hb dX9_storeMany_81 hl (k := 5) rfl rfl (by decide) rfl (fun ls hl => ?_)
          refine lv_goto (tgt := 28) hx hb dX9_storeMany_84 (by decide) ?_
          exact ih k0_20 n5_28 (n6_28 + 1) τ_28 hk0_20 _ _ _ hP hD hS (lv_sub hl [1, 2, 3, 4, 5, 0] rfl) hf (lpI_s hinv (lp_c1 (by assumption)))
        · have hf := hf.trans (if_pos h_10)
          refine lv_aload_n hx hb dX9_storeMany_44 rfl (lv_at hl 0 rfl) ?_
          refine va_get (D := gD G) (ci := 7) hx hb hts ku_9 hown hK hP 12 rfl rfl 0 (by decide) (hts _ kw_83) (fun _ h9 => h9) rfl dX9_storeMany_45 ?_
          refine lv_iload hx hb dX9_storeMany_48 (lv_at hl 4 rfl) ?_
          refine kc_Vr (rest := []) (cx_Memory_holds l G τ_28 n5_28) ⟨hx, hb, hml, hown, hts⟩ (cwV 1 hts (gi_V kw_458 kw_132 kw_133 kw_15 kw_134) rfl rfl rfl ⟨rfl, mdX4_holds⟩ ⟨by decide, by decide⟩) (va_recv hK hP (ci := 2) (q0 := 1) rfl rfl) cZ_ok hK hP hD hS hA hZ rfl hl.1 rfl (Nat.le_of_ble_eq_true rfl) dX9_storeMany_50 ⟨Nat.zero_le _, Nat.zero_le _⟩ (fun H locs hP hD hS => ?_)
          refine kz_ne (tgt := 58) hx hb dX9_storeMany_53 (by decide) (fun h_11 => ?_) (fun h_11 => ?_)
          · have hf := hf.trans (if_pos h_11)
            refine lv_aload_n hx hb dX9_storeMany_58 rfl (lv_at hl 0 rfl) ?_
            refine va_get (D := gD G) (ci := 7) hx hb hts ku_9 hown hK hP 12 rfl rfl 0 (by decide) (hts _ kw_83) (fun _ h9 => h9) rfl dX9_storeMany_59 ?_
            refine lv_iload hx hb dX9_storeMany_62 (lv_at hl 4 rfl) ?_
            refine lv_aload_n hx hb dX9_storeMany_64 rfl (lv_at hl 0 rfl) ?_
            refine va_get (D := gD G) (ci := 7) hx hb hts ku_9 hown hK hP 12 rfl rfl 1 (by decide) (hts _ kw_84) (fun _ h9 => h9) rfl dX9_storeMany_65 ?_
            refine lv_iload hx hb dX9_storeMany_68 (lv_at hl 3 rfl) ?_
            refine lv_iload hx hb dX9_storeMany_70 (lv_at hl 5 rfl) ?_
            refine kc_Vr (rest := [.int n5_28, .ref (gA G 1)]) (cx_Registers_readLateIn l G τ_28 k0_20 n6_28 hk0_20 (lpI_in hinv (lp_c1 (by assumption)) (by decide))) ⟨hx, hb, hml, hown, hts⟩ (cwV 2 hts (gi_V kw_546 kw_547 kw_548 kw_19 kw_549) rfl rfl rfl ⟨rfl, mdX6_readLateIn⟩ ⟨by decide, by decide⟩) (va_recv hK hP (ci := 4) (q0 := 3) rfl rfl) cZ_ok hK hP hD hS hA hZ rfl hl.1 rfl (Nat.le_of_ble_eq_true rfl) dX9_storeMany_72 ⟨Nat.zero_le _, Nat.zero_le _⟩ (fun H locs hP hD hS => ?_)
            refine kc_Vv (rest := []) (cx_Memory_putWord l G τ_28 n5_28 (x_Registers_readLateIn τ_28 k0_20 n6_28)) ⟨hx, hb, hml, hown, hts⟩ (cwV 2 hts (gi_V kw_550 kw_142 kw_143 kw_15 kw_144) rfl rfl rfl ⟨rfl, mdX4_putWord⟩ ⟨by decide, by decide⟩) (va_recv hK hP (ci := 2) (q0 := 1) rfl rfl) cZ_ok hK hP hD hS hA hZ rfl hl.1 rfl (Nat.le_of_ble_eq_true rfl) dX9_storeMany_75 ⟨Nat.zero_le _, Nat.zero_le _⟩ (fun H locs hP hD hS => ?_)
            refine lv_iinc (v := n5_28 + 4) (lv' := [(5, .int (n5_28 + 4)), (0, .ref (gA G 12)), (1, .int v0), (3, .int v2), (4, .int k0_20), (6, .int n6_28)]) hx hb dX9_storeMany_78 hl (k := 4) rfl rfl (by decide) rfl (fun ls hl => ?_)
            refine lv_iinc (v := n6_28 + 1) (lv' := [(6, .int (n6_28 + 1)), (5, .int (n5_28 + 4)), (0, .ref (gA G 12)), (1, .int v0), (3, .int v2), (4, .int k0_20)]) hx hb dX9_storeMany_81 hl (k := 5) rfl rfl (by decide) rfl (fun ls hl => ?_)
            refine lv_goto (tgt := 28) hx hb dX9_storeMany_84 (by decide) ?_
            exact ih k0_20 (n5_28 + 4) (n6_28 + 1) (x_Memory_putWord τ_28 n5_28 (x_Registers_readLateIn τ_28 k0_20 n6_28)) hk0_20 _ _ _ hP hD hS (lv_sub hl [2, 3, 4, 5, 1, 0] rfl) hf (lpI_s hinv (lp_c1 (by assumption)))
          · have hf := hf.trans (if_neg h_11)
            refine lv_iconst (v := 3) hx hb dX9_storeMany_56 (by decide) ?_
            exact hret 3 τ_28 _ _ _ _ hf hP hD hS dX9_storeMany_57
  have J20 : ∀ (k0_20 : Int32) (hk0_20 : vp_in k0_20 6) (H : Heap) (locs : List Loc) (ls : Array Slot), va_P (gD G) vwCl (cW G (σ)) H → va_D A (cW G (σ)) → va_S A s.heap H locs → lv_has ls 7 [(0, .ref (gA G 12)), (1, .int v0), (2, .int v1), (3, .int v2)] → x_Transfers_storeMany σ v0 v1 v2 = x_Transfers_storeMany_20 σ v0 v1 v2 k0_20 → W p l e (kr 1) s m args below meth c H locs 0 0 Q (F0 m 20 ls [.int k0_20]) := by
    intro k0_20 hk0_20 H locs ls hP hD hS hl hf
    refine lv_istore (lv' := [(4, .int k0_20), (0, .ref (gA G 12)), (1, .int v0), (2, .int v1), (3, .int v2)]) hx hb dX9_storeMany_20 hl (by decide) rfl (fun ls hl => ?_)
    refine lv_iload_n hx hb dX9_storeMany_22 rfl (lv_at hl 3 rfl) ?_
    refine lv_istore (lv' := [(5, .int v1), (4, .int k0_20), (0, .ref (gA G 12)), (1, .int v0), (2, .int v1), (3, .int v2)]) hx hb dX9_storeMany_23 hl (by decide) rfl (fun ls hl => ?_)
    refine lv_iconst (v := 0) hx hb dX9_storeMany_25 (by decide) ?_
    refine lv_istore (lv' := [(6, .int 0), (5, .int v1), (4, .int k0_20), (0, .ref (gA G 12)), (1, .int v0), (2, .int v1), (3, .int v2)]) hx hb dX9_storeMany_26 hl (by decide) rfl (fun ls hl => ?_)
    exact J28 17 k0_20 v1 0 σ hk0_20 _ _ _ hP hD hS (lv_sub hl [3, 4, 6, 2, 1, 0] rfl) hf (lpI_start 16)
  refine lv_iload_n hx hb dX9_storeMany_0 rfl (lv_at hl 1 rfl) ?_
  refine lv_bipush (v := 22) hx hb dX9_storeMany_1 (by decide) ?_
  refine kp_Si (rest := []) (cx_Bits_on l v0 22) ⟨hx, hb, hml, hown, hts⟩ (va_cwS 2 hts (gi_S kw_525 kw_356 kw_346 kw_357) rfl rfl rfl mdX2_on ⟨by decide, by decide⟩) rfl hl.1 rfl (Nat.le_of_ble_eq_true rfl) dX9_storeMany_3 ⟨Nat.zero_le _, Nat.zero_le _⟩ ?_
  refine kz_eq (tgt := 13) hx hb dX9_storeMany_6 (by decide) (fun h_12 => ?_) (fun h_12 => ?_)
  · have hf := hf.trans (if_neg h_12)
    refine lv_aload_n hx hb dX9_storeMany_13 rfl (lv_at hl 0 rfl) ?_
    refine va_get (D := gD G) (ci := 7) hx hb hts ku_9 hown hK hP 12 rfl rfl 1 (by decide) (hts _ kw_84) (fun _ h9 => h9) rfl dX9_storeMany_14 ?_
    refine kc_Vr (rest := []) (cx_Registers_bank l G σ) ⟨hx, hb, hml, hown, hts⟩ (cwV 0 hts (gi_V kw_530 kw_531 kw_532 kw_19 kw_533) rfl rfl rfl ⟨rfl, mdX6_bank⟩ ⟨by decide, by decide⟩) (va_recv hK hP (ci := 4) (q0 := 3) rfl rfl) cZ_ok hK hP hD hS hA hZ rfl hl.1 rfl (Nat.le_of_ble_eq_true rfl) dX9_storeMany_17 ⟨Nat.zero_le _, Nat.zero_le _⟩ (fun H locs hP hD hS => ?_)
    exact J20 (x_Registers_bank σ) (c_bank_in _) _ _ _ hP hD hS (lv_sub hl [0, 1, 2, 3] rfl) hf
  · have hf := hf.trans (if_pos h_12)
    refine lv_iconst (v := 0) hx hb dX9_storeMany_9 (by decide) ?_
    refine lv_goto (tgt := 20) hx hb dX9_storeMany_10 (by decide) ?_
    exact J20 0 (by unfold vp_in; decide) _ _ _ hP hD hS (lv_sub hl [0, 1, 2, 3] rfl) hf
def x_Transfers_many_86 (σ : CS) (v0 : Int32) (k0_57 : Int32) (n7_86 : Int32) : Int32 × CS := (if (x_Bits_on v0 20) = true then (x_Transfers_loadMany σ v0 n7_86 k0_57 ((n7_86 + (4 * (x_Integer_bitCount (v0 &&& 65535)))) - 4)) else (x_Transfers_storeMany σ v0 n7_86 k0_57))
def x_Transfers_many_70 (σ : CS) (v0 : Int32) (k0_57 : Int32) (k0_70 : Int32) : Int32 × CS := (if (b01 (x_Bits_on v0 23)) = (b01 (x_Bits_on v0 24)) then x_Transfers_many_86 σ v0 k0_57 (k0_70 + 4) else x_Transfers_many_86 σ v0 k0_57 k0_70)
def x_Transfers_many_57 (σ : CS) (v0 : Int32) (k0_57 : Int32) : Int32 × CS := (if (x_Bits_on v0 23) = true then x_Transfers_many_70 σ v0 k0_57 (x_Registers_read σ (x_Bits_four v0 16)) else x_Transfers_many_70 σ v0 k0_57 k0_57)
def x_Transfers_many (σ : CS) (v0 : Int32) : Int32 × CS := (if (v0 &&& 65535) = 0 then ((-1), σ) else (if (x_Bits_on v0 23) = true then x_Transfers_many_57 σ v0 ((x_Registers_read σ (x_Bits_four v0 16)) + (4 * (x_Integer_bitCount (v0 &&& 65535)))) else x_Transfers_many_57 σ v0 ((x_Registers_read σ (x_Bits_four v0 16)) - (4 * (x_Integer_bitCount (v0 &&& 65535))))))
set_option maxRecDepth 20000 in
set_option maxHeartbeats 4000000 in
theorem cx_Transfers_many (l : Launch) (G : KG) (σ : CS) (v0 : Int32) : KB l yX9_many (Cond.code yX9_many cX9_many 8 (some .int) :: lw_all) (kr 3) (gD G) vwCl (gT G) (cZ G) (cW G) [.ref (gA G 12), .int v0] σ (x_Transfers_many σ v0) := by
  refine kc_in_b (q := x_Transfers_many σ v0) (by decide) rfl (Nat.le_of_ble_eq_true rfl) ?_
  intro p e s m args below meth c A Q ls hx hb hml hown hts hK hP hD hA hS hZ hl hret
  have hts := fun w h => hts w (List.mem_cons_of_mem _ h)
  have hl : lv_has ls 8 [(0, .ref (gA G 12)), (1, .int v0)] := hl
  have hf : x_Transfers_many σ v0 = x_Transfers_many σ v0 := rfl
  have J86 : ∀ (k0_57 : Int32) (n7_86 : Int32) (H : Heap) (locs : List Loc) (ls : Array Slot), va_P (gD G) vwCl (cW G (σ)) H → va_D A (cW G (σ)) → va_S A s.heap H locs → lv_has ls 8 [(0, .ref (gA G 12)), (1, .int v0), (4, .int (4 * (x_Integer_bitCount (v0 &&& 65535)))), (6, .int k0_57), (7, .int n7_86)] → x_Transfers_many σ v0 = x_Transfers_many_86 σ v0 k0_57 n7_86 → W p l e (kr 3) s m args below meth c H locs 0 0 Q (F0 m 86 ls []) := by
    intro k0_57 n7_86 H locs ls hP hD hS hl hf
    refine lv_iload_n hx hb dX9_many_86 rfl (lv_at hl 1 rfl) ?_
    refine lv_bipush (v := 20) hx hb dX9_many_87 (by decide) ?_
    refine kp_Si (rest := []) (cx_Bits_on l v0 20) ⟨hx, hb, hml, hown, hts⟩ (va_cwS 2 hts (gi_S kw_525 kw_356 kw_346 kw_357) rfl rfl rfl mdX2_on ⟨by decide, by decide⟩) rfl hl.1 rfl (Nat.le_of_ble_eq_true rfl) dX9_many_89 ⟨Nat.zero_le _, Nat.zero_le _⟩ ?_
    refine kz_eq (tgt := 112) hx hb dX9_many_92 (by decide) (fun h_6 => ?_) (fun h_6 => ?_)
    · have hf := hf.trans (if_neg h_6)
      refine lv_aload_n hx hb dX9_many_112 rfl (lv_at hl 0 rfl) ?_
      refine lv_iload_n hx hb dX9_many_113 rfl (lv_at hl 1 rfl) ?_
      refine lv_iload hx hb dX9_many_114 (lv_at hl 4 rfl) ?_
      refine lv_iload hx hb dX9_many_116 (lv_at hl 3 rfl) ?_
      refine kc_Vb (rest := []) (cx_Transfers_storeMany l G σ v0 n7_86 k0_57) ⟨hx, hb, hml, hown, hts⟩ (cwV 3 hts (gi_V kw_542 kw_543 kw_544 kw_55 kw_545) rfl rfl rfl ⟨rfl, mdX9_storeMany⟩ ⟨by decide, by decide⟩) (va_recv hK hP (ci := 7) (q0 := 12) rfl rfl) cZ_ok hK hP hD hS hA hZ rfl hl.1 rfl (Nat.le_of_ble_eq_true rfl) dX9_many_118 ⟨Nat.zero_le _, Nat.zero_le _⟩ (fun H locs hP hD hS => ?_)
      exact hret ((x_Transfers_storeMany σ v0 n7_86 k0_57).1) ((x_Transfers_storeMany σ v0 n7_86 k0_57).2) _ _ _ _ hf hP hD hS dX9_many_121
    · have hf := hf.trans (if_pos h_6)
      refine lv_aload_n hx hb dX9_many_95 rfl (lv_at hl 0 rfl) ?_
      refine lv_iload_n hx hb dX9_many_96 rfl (lv_at hl 1 rfl) ?_
      refine lv_iload hx hb dX9_many_97 (lv_at hl 4 rfl) ?_
      refine lv_iload hx hb dX9_many_99 (lv_at hl 3 rfl) ?_
      refine lv_iload hx hb dX9_many_101 (lv_at hl 4 rfl) ?_
      refine lv_iload hx hb dX9_many_103 (lv_at hl 2 rfl) ?_
      refine lv_iadd hx hb dX9_many_105 ?_
      refine lv_iconst (v := 4) hx hb dX9_many_106 (by decide) ?_
      refine lv_isub hx hb dX9_many_107 ?_
      refine kc_Vb (rest := []) (cx_Transfers_loadMany l G σ v0 n7_86 k0_57 ((n7_86 + (4 * (x_Integer_bitCount (v0 &&& 65535)))) - 4)) ⟨hx, hb, hml, hown, hts⟩ (cwV 4 hts (gi_V kw_526 kw_527 kw_528 kw_55 kw_529) rfl rfl rfl ⟨rfl, mdX9_loadMany⟩ ⟨by decide, by decide⟩) (va_recv hK hP (ci := 7) (q0 := 12) rfl rfl) cZ_ok hK hP hD hS hA hZ rfl hl.1 rfl (Nat.le_of_ble_eq_true rfl) dX9_many_108 ⟨Nat.zero_le _, Nat.zero_le _⟩ (fun H locs hP hD hS => ?_)
      exact hret ((x_Transfers_loadMany σ v0 n7_86 k0_57 ((n7_86 + (4 * (x_Integer_bitCount (v0 &&& 65535)))) - 4)).1) ((x_Transfers_loadMany σ v0 n7_86 k0_57 ((n7_86 + (4 * (x_Integer_bitCount (v0 &&& 65535)))) - 4)).2) _ _ _ _ hf hP hD hS dX9_many_111
  have J70 : ∀ (k0_57 : Int32) (k0_70 : Int32) (H : Heap) (locs : List Loc) (ls : Array Slot), va_P (gD G) vwCl (cW G (σ)) H → va_D A (cW G (σ)) → va_S A s.heap H locs → lv_has ls 8 [(0, .ref (gA G 12)), (1, .int v0), (4, .int (4 * (x_Integer_bitCount (v0 &&& 65535)))), (5, .int (b01 (x_Bits_on v0 23))), (6, .int k0_57)] → x_Transfers_many σ v0 = x_Transfers_many_70 σ v0 k0_57 k0_70 → W p l e (kr 3) s m args below meth c H locs 0 0 Q (F0 m 70 ls [.int k0_70]) := by
    intro k0_57 k0_70 H locs ls hP hD hS hl hf
    refine lv_istore (lv' := [(7, .int k0_70), (0, .ref (gA G 12)), (1, .int v0), (4, .int (4 * (x_Integer_bitCount (v0 &&& 65535)))), (5, .int (b01 (x_Bits_on v0 23))), (6, .int k0_57)]) hx hb dX9_many_70 hl (by decide) rfl (fun ls hl => ?_)
    refine lv_iload hx hb dX9_many_72 (lv_at hl 4 rfl) ?_
    refine lv_iload_n hx hb dX9_many_74 rfl (lv_at hl 2 rfl) ?_
    refine lv_bipush (v := 24) hx hb dX9_many_75 (by decide) ?_
    refine kp_Si (rest := [.int (b01 (x_Bits_on v0 23))]) (cx_Bits_on l v0 24) ⟨hx, hb, hml, hown, hts⟩ (va_cwS 2 hts (gi_S kw_525 kw_356 kw_346 kw_357) rfl rfl rfl mdX2_on ⟨by decide, by decide⟩) rfl hl.1 rfl (Nat.le_of_ble_eq_true rfl) dX9_many_77 ⟨Nat.zero_le _, Nat.zero_le _⟩ ?_
    refine lv_icmp_ne (tgt := 86) hx hb dX9_many_80 (by decide) (fun h_7 => ?_) (fun h_7 => ?_)
    · have hf := hf.trans (if_neg h_7)
      exact J86 k0_57 k0_70 _ _ _ hP hD hS (lv_sub hl [1, 2, 3, 5, 0] rfl) hf
    · have hf := hf.trans (if_pos h_7)
      refine lv_iinc (v := k0_70 + 4) (lv' := [(7, .int (k0_70 + 4)), (0, .ref (gA G 12)), (1, .int v0), (4, .int (4 * (x_Integer_bitCount (v0 &&& 65535)))), (5, .int (b01 (x_Bits_on v0 23))), (6, .int k0_57)]) hx hb dX9_many_83 hl (k := 0) rfl rfl (by decide) rfl (fun ls hl => ?_)
      exact J86 k0_57 (k0_70 + 4) _ _ _ hP hD hS (lv_sub hl [1, 2, 3, 5, 0] rfl) hf
  have J57 : ∀ (k0_57 : Int32) (H : Heap) (locs : List Loc) (ls : Array Slot), va_P (gD G) vwCl (cW G (σ)) H → va_D A (cW G (σ)) → va_S A s.heap H locs → lv_has ls 8 [(0, .ref (gA G 12)), (1, .int v0), (3, .int (x_Registers_read σ (x_Bits_four v0 16))), (4, .int (4 * (x_Integer_bitCount (v0 &&& 65535)))), (5, .int (b01 (x_Bits_on v0 23)))] → x_Transfers_many σ v0 = x_Transfers_many_57 σ v0 k0_57 → W p l e (kr 3) s m args below meth c H locs 0 0 Q (F0 m 57 ls [.int k0_57]) := by
    intro k0_57 H locs ls hP hD hS hl hf
    refine lv_istore (lv' := [(6, .int k0_57), (0, .ref (gA G 12)), (1, .int v0), (3, .int (x_Registers_read σ (x_Bits_four v0 16))), (4, .int (4 * (x_Integer_bitCount (v0 &&& 65535)))), (5, .int (b01 (x_Bits_on v0 23)))]) hx hb dX9_many_57 hl (by decide) rfl (fun ls hl => ?_)
    refine lv_iload hx hb dX9_many_59 (lv_at hl 5 rfl) ?_
    refine kz_eq (tgt := 68) hx hb dX9_many_61 (by decide) (fun h_8 => ?_) (fun h_8 => ?_)
    · have hf := hf.trans (if_neg h_8)
      refine lv_iload hx hb dX9_many_68 (lv_at hl 0 rfl) ?_
      exact J70 k0_57 k0_57 _ _ _ hP hD hS (lv_sub hl [1, 2, 4, 5, 0] rfl) hf
    · have hf := hf.trans (if_pos h_8)
      refine lv_iload_n hx hb dX9_many_64 rfl (lv_at hl 3 rfl) ?_
      refine lv_goto (tgt := 70) hx hb dX9_many_65 (by decide) ?_
      exact J70 k0_57 (x_Registers_read σ (x_Bits_four v0 16)) _ _ _ hP hD hS (lv_sub hl [1, 2, 4, 5, 0] rfl) hf
  refine lv_iload_n hx hb dX9_many_0 rfl (lv_at hl 1 rfl) ?_
  refine lv_ldc (v := 65535) hx hb hown (hts _ kw_516) dX9_many_1 ?_
  refine lv_iand hx hb dX9_many_3 ?_
  refine lv_istore_n (lv' := [(2, .int (v0 &&& 65535)), (0, .ref (gA G 12)), (1, .int v0)]) hx hb dX9_many_4 rfl hl (by decide) rfl (fun ls hl => ?_)
  refine lv_iload_n hx hb dX9_many_5 rfl (lv_at hl 0 rfl) ?_
  refine lv_if_ne (tgt := 11) hx hb dX9_many_6 (by decide) (fun h_9 => ?_) (fun h_9 => ?_)
  · have hf := hf.trans (if_neg h_9)
    refine lv_aload_n hx hb dX9_many_11 rfl (lv_at hl 1 rfl) ?_
    refine va_get (D := gD G) (ci := 7) hx hb hts ku_9 hown hK hP 12 rfl rfl 1 (by decide) (hts _ kw_84) (fun _ h9 => h9) rfl dX9_many_12 ?_
    refine lv_iload_n hx hb dX9_many_15 rfl (lv_at hl 2 rfl) ?_
    refine lv_bipush (v := 16) hx hb dX9_many_16 (by decide) ?_
    refine kp_Si (rest := [.ref (gA G 3)]) (cx_Bits_four l v0 16) ⟨hx, hb, hml, hown, hts⟩ (va_cwS 2 hts (gi_S kw_517 kw_345 kw_346 kw_347) rfl rfl rfl mdX2_four ⟨by decide, by decide⟩) rfl hl.1 rfl (Nat.le_of_ble_eq_true rfl) dX9_many_18 ⟨Nat.zero_le _, Nat.zero_le _⟩ ?_
    refine kc_Vr (rest := []) (cx_Registers_read l G σ (x_Bits_four v0 16) (bt4_16 _ _)) ⟨hx, hb, hml, hown, hts⟩ (cwV 1 hts (gi_V kw_465 kw_359 kw_360 kw_19 kw_361) rfl rfl rfl ⟨rfl, mdX6_read⟩ ⟨by decide, by decide⟩) (va_recv hK hP (ci := 4) (q0 := 3) rfl rfl) cZ_ok hK hP hD hS hA hZ rfl hl.1 rfl (Nat.le_of_ble_eq_true rfl) dX9_many_21 ⟨Nat.zero_le _, Nat.zero_le _⟩ (fun H locs hP hD hS => ?_)
    refine lv_istore_n (lv' := [(3, .int (x_Registers_read σ (x_Bits_four v0 16))), (2, .int (v0 &&& 65535)), (0, .ref (gA G 12)), (1, .int v0)]) hx hb dX9_many_24 rfl hl (by decide) rfl (fun ls hl => ?_)
    refine lv_iconst (v := 4) hx hb dX9_many_25 (by decide) ?_
    refine lv_iload_n hx hb dX9_many_26 rfl (lv_at hl 1 rfl) ?_
    refine kp_Si (rest := [.int 4]) (cx_Integer_bitCount l (v0 &&& 65535)) ⟨hx, hb, hml, hown, hts⟩ (va_cwS 1 hts (gi_S kw_518 kw_519 kw_520 kw_521) rfl rfl rfl mdJ6_bitCount_0f7a4 ⟨by decide, by decide⟩) rfl hl.1 rfl (Nat.le_of_ble_eq_true rfl) dX9_many_27 ⟨Nat.zero_le _, Nat.zero_le _⟩ ?_
    refine lv_imul hx hb dX9_many_30 ?_
    refine lv_istore (lv' := [(4, .int (4 * (x_Integer_bitCount (v0 &&& 65535)))), (3, .int (x_Registers_read σ (x_Bits_four v0 16))), (2, .int (v0 &&& 65535)), (0, .ref (gA G 12)), (1, .int v0)]) hx hb dX9_many_31 hl (by decide) rfl (fun ls hl => ?_)
    refine lv_iload_n hx hb dX9_many_33 rfl (lv_at hl 4 rfl) ?_
    refine lv_bipush (v := 23) hx hb dX9_many_34 (by decide) ?_
    refine kp_Si (rest := []) (cx_Bits_on l v0 23) ⟨hx, hb, hml, hown, hts⟩ (va_cwS 2 hts (gi_S kw_525 kw_356 kw_346 kw_357) rfl rfl rfl mdX2_on ⟨by decide, by decide⟩) rfl hl.1 rfl (Nat.le_of_ble_eq_true rfl) dX9_many_36 ⟨Nat.zero_le _, Nat.zero_le _⟩ ?_
    refine lv_istore (lv' := [(5, .int (b01 (x_Bits_on v0 23))), (4, .int (4 * (x_Integer_bitCount (v0 &&& 65535)))), (3, .int (x_Registers_read σ (x_Bits_four v0 16))), (2, .int (v0 &&& 65535)), (0, .ref (gA G 12)), (1, .int v0)]) hx hb dX9_many_39 hl (by decide) rfl (fun ls hl => ?_)
    refine lv_iload hx hb dX9_many_41 (lv_at hl 0 rfl) ?_
    refine kz_eq (tgt := 53) hx hb dX9_many_43 (by decide) (fun h_10 => ?_) (fun h_10 => ?_)
    · have hf := hf.trans (if_neg h_10)
      refine lv_iload_n hx hb dX9_many_53 rfl (lv_at hl 2 rfl) ?_
      refine lv_iload hx hb dX9_many_54 (lv_at hl 1 rfl) ?_
      refine lv_isub hx hb dX9_many_56 ?_
      exact J57 ((x_Registers_read σ (x_Bits_four v0 16)) - (4 * (x_Integer_bitCount (v0 &&& 65535)))) _ _ _ hP hD hS (lv_sub hl [4, 5, 2, 1, 0] rfl) hf
    · have hf := hf.trans (if_pos h_10)
      refine lv_iload_n hx hb dX9_many_46 rfl (lv_at hl 2 rfl) ?_
      refine lv_iload hx hb dX9_many_47 (lv_at hl 1 rfl) ?_
      refine lv_iadd hx hb dX9_many_49 ?_
      refine lv_goto (tgt := 57) hx hb dX9_many_50 (by decide) ?_
      exact J57 ((x_Registers_read σ (x_Bits_four v0 16)) + (4 * (x_Integer_bitCount (v0 &&& 65535)))) _ _ _ hP hD hS (lv_sub hl [4, 5, 2, 1, 0] rfl) hf
  · have hf := hf.trans (if_pos h_9)
    refine lv_iconst (v := (-1)) hx hb dX9_many_9 (by decide) ?_
    exact hret (-1) σ _ _ _ _ hf hP hD hS dX9_many_10
