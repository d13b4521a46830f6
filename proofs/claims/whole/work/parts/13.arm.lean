def x_Transfers_indexed_154 (σ : CS) (v0 : Int32) (v1 : Int32) (v2 : Int32) (k0_61 : Int32) (k0_120 : Int32) (τ_154 : CS) : Int32 × CS := (if (x_Bits_on v0 20) = true then ((-1), x_Registers_write τ_154 (x_Bits_four v0 12) k0_120) else ((-1), x_Memory_store τ_154 v1 k0_61 k0_120))
def x_Transfers_indexed_143 (σ : CS) (v0 : Int32) (v1 : Int32) (v2 : Int32) (k0_39 : Int32) (k0_61 : Int32) (k0_120 : Int32) : Int32 × CS := x_Transfers_indexed_154 σ v0 v1 v2 k0_61 k0_120 (x_Registers_write σ (x_Bits_four v0 16) k0_39)
def x_Transfers_indexed_120 (σ : CS) (v0 : Int32) (v1 : Int32) (v2 : Int32) (k0_39 : Int32) (k0_61 : Int32) (k0_120 : Int32) : Int32 × CS := (if (x_Bits_four v0 16) = 15 then x_Transfers_indexed_154 σ v0 v1 v2 k0_61 k0_120 σ else (if (x_Bits_on v0 24) = true then (if (x_Bits_on v0 21) = true then x_Transfers_indexed_143 σ v0 v1 v2 k0_39 k0_61 k0_120 else x_Transfers_indexed_154 σ v0 v1 v2 k0_61 k0_120 σ) else x_Transfers_indexed_143 σ v0 v1 v2 k0_39 k0_61 k0_120))
def x_Transfers_indexed_61 (σ : CS) (v0 : Int32) (v1 : Int32) (v2 : Int32) (k0_39 : Int32) (k0_61 : Int32) : Int32 × CS := (if (x_Memory_holds σ k0_61) = true then (if (x_Bits_on v0 20) = true then x_Transfers_indexed_120 σ v0 v1 v2 k0_39 k0_61 (x_Memory_load σ v1 k0_61) else x_Transfers_indexed_120 σ v0 v1 v2 k0_39 k0_61 (x_Registers_readLate σ (x_Bits_four v0 12))) else (3, σ))
def x_Transfers_indexed_39 (σ : CS) (v0 : Int32) (v1 : Int32) (v2 : Int32) (k0_39 : Int32) : Int32 × CS := (if (x_Bits_on v0 24) = true then x_Transfers_indexed_61 σ v0 v1 v2 k0_39 k0_39 else x_Transfers_indexed_61 σ v0 v1 v2 k0_39 (x_Registers_read σ (x_Bits_four v0 16)))
def x_Transfers_indexed (σ : CS) (v0 : Int32) (v1 : Int32) (v2 : Int32) : Int32 × CS := (if (x_Bits_on v0 23) = true then x_Transfers_indexed_39 σ v0 v1 v2 ((x_Registers_read σ (x_Bits_four v0 16)) + v2) else x_Transfers_indexed_39 σ v0 v1 v2 ((x_Registers_read σ (x_Bits_four v0 16)) - v2))
set_option maxRecDepth 20000 in
set_option maxHeartbeats 4000000 in
theorem cx_Transfers_indexed (l : Launch) (G : KG) (σ : CS) (v0 : Int32) (v1 : Int32) (v2 : Int32) : KB l yX9_indexed (Cond.code yX9_indexed cX9_indexed 12 (some .int) :: lw_all) (kr 3) (gD G) vwCl (gT G) (cZ G) (cW G) [.ref (gA G 12), .int v0, .int v1, .int v2] σ (x_Transfers_indexed σ v0 v1 v2) := by
  refine kc_in_b (q := x_Transfers_indexed σ v0 v1 v2) (by decide) rfl (Nat.le_of_ble_eq_true rfl) ?_
  intro p e s m args below meth c A Q ls hx hb hml hown hts hK hP hD hA hS hZ hl hret
  have hts := fun w h => hts w (List.mem_cons_of_mem _ h)
  have hl : lv_has ls 12 [(0, .ref (gA G 12)), (1, .int v0), (2, .int v1), (3, .int v2)] := hl
  have hf : x_Transfers_indexed σ v0 v1 v2 = x_Transfers_indexed σ v0 v1 v2 := rfl
  have J154 : ∀ (k0_61 : Int32) (k0_120 : Int32) (τ_154 : CS) (H : Heap) (locs : List Loc) (ls : Array Slot), va_P (gD G) vwCl (cW G (τ_154)) H → va_D A (cW G (τ_154)) → va_S A s.heap H locs → lv_has ls 12 [(0, .ref (gA G 12)), (2, .int v1), (8, .int k0_61), (9, .int (x_Bits_four v0 12)), (10, .int (b01 (x_Bits_on v0 20))), (11, .int k0_120)] → x_Transfers_indexed σ v0 v1 v2 = x_Transfers_indexed_154 σ v0 v1 v2 k0_61 k0_120 τ_154 → W p l e (kr 3) s m args below meth c H locs 0 0 Q (F0 m 154 ls []) := by
    intro k0_61 k0_120 τ_154 H locs ls hP hD hS hl hf
    refine lv_iload hx hb dX9_indexed_154 (lv_at hl 4 rfl) ?_
    refine kz_eq (tgt := 173) hx hb dX9_indexed_156 (by decide) (fun h_9 => ?_) (fun h_9 => ?_)
    · have hf := hf.trans (if_neg h_9)
      refine lv_aload_n hx hb dX9_indexed_173 rfl (lv_at hl 0 rfl) ?_
      refine va_get (D := gD G) (ci := 7) hx hb hts ku_9 hown hK hP 12 rfl rfl 0 (by decide) (hts _ kw_83) (fun _ h9 => h9) rfl dX9_indexed_174 ?_
      refine lv_iload_n hx hb dX9_indexed_177 rfl (lv_at hl 1 rfl) ?_
      refine lv_iload hx hb dX9_indexed_178 (lv_at hl 2 rfl) ?_
      refine lv_iload hx hb dX9_indexed_180 (lv_at hl 5 rfl) ?_
      refine kc_Vv (rest := []) (cx_Memory_store l G τ_154 v1 k0_61 k0_120) ⟨hx, hb, hml, hown, hts⟩ (cwV 3 hts (gi_V kw_466 kw_467 kw_468 kw_15 kw_469) rfl rfl rfl ⟨rfl, mdX4_store⟩ ⟨by decide, by decide⟩) (va_recv hK hP (ci := 2) (q0 := 1) rfl rfl) cZ_ok hK hP hD hS hA hZ rfl hl.1 rfl (Nat.le_of_ble_eq_true rfl) dX9_indexed_182 ⟨Nat.zero_le _, Nat.zero_le _⟩ (fun H locs hP hD hS => ?_)
      refine lv_iconst (v := (-1)) hx hb dX9_indexed_185 (by decide) ?_
      exact hret (-1) (x_Memory_store τ_154 v1 k0_61 k0_120) _ _ _ _ hf hP hD hS dX9_indexed_186
    · have hf := hf.trans (if_pos h_9)
      refine lv_aload_n hx hb dX9_indexed_159 rfl (lv_at hl 0 rfl) ?_
      refine va_get (D := gD G) (ci := 7) hx hb hts ku_9 hown hK hP 12 rfl rfl 1 (by decide) (hts _ kw_84) (fun _ h9 => h9) rfl dX9_indexed_160 ?_
      refine lv_iload hx hb dX9_indexed_163 (lv_at hl 3 rfl) ?_
      refine lv_iload hx hb dX9_indexed_165 (lv_at hl 5 rfl) ?_
      refine kc_Vv (rest := []) (cx_Registers_write l G τ_154 (x_Bits_four v0 12) k0_120 (bt4_16 _ _)) ⟨hx, hb, hml, hown, hts⟩ (cwV 2 hts (gi_V kw_464 kw_403 kw_404 kw_19 kw_405) rfl rfl rfl ⟨rfl, mdX6_write⟩ ⟨by decide, by decide⟩) (va_recv hK hP (ci := 4) (q0 := 3) rfl rfl) cZ_ok hK hP hD hS hA hZ rfl hl.1 rfl (Nat.le_of_ble_eq_true rfl) dX9_indexed_167 ⟨Nat.zero_le _, Nat.zero_le _⟩ (fun H locs hP hD hS => ?_)
      refine lv_goto (tgt := 185) hx hb dX9_indexed_170 (by decide) ?_
      refine lv_iconst (v := (-1)) hx hb dX9_indexed_185 (by decide) ?_
      exact hret (-1) (x_Registers_write τ_154 (x_Bits_four v0 12) k0_120) _ _ _ _ hf hP hD hS dX9_indexed_186
  have J143 : ∀ (k0_39 : Int32) (k0_61 : Int32) (k0_120 : Int32) (H : Heap) (locs : List Loc) (ls : Array Slot), va_P (gD G) vwCl (cW G (σ)) H → va_D A (cW G (σ)) → va_S A s.heap H locs → lv_has ls 12 [(0, .ref (gA G 12)), (2, .int v1), (4, .int (x_Bits_four v0 16)), (6, .int k0_39), (8, .int k0_61), (9, .int (x_Bits_four v0 12)), (10, .int (b01 (x_Bits_on v0 20))), (11, .int k0_120)] → x_Transfers_indexed σ v0 v1 v2 = x_Transfers_indexed_143 σ v0 v1 v2 k0_39 k0_61 k0_120 → W p l e (kr 3) s m args below meth c H locs 0 0 Q (F0 m 143 ls []) := by
    intro k0_39 k0_61 k0_120 H locs ls hP hD hS hl hf
    refine lv_aload_n hx hb dX9_indexed_143 rfl (lv_at hl 0 rfl) ?_
    refine va_get (D := gD G) (ci := 7) hx hb hts ku_9 hown hK hP 12 rfl rfl 1 (by decide) (hts _ kw_84) (fun _ h9 => h9) rfl dX9_indexed_144 ?_
    refine lv_iload hx hb dX9_indexed_147 (lv_at hl 2 rfl) ?_
    refine lv_iload hx hb dX9_indexed_149 (lv_at hl 3 rfl) ?_
    refine kc_Vv (rest := []) (cx_Registers_write l G σ (x_Bits_four v0 16) k0_39 (bt4_16 _ _)) ⟨hx, hb, hml, hown, hts⟩ (cwV 2 hts (gi_V kw_464 kw_403 kw_404 kw_19 kw_405) rfl rfl rfl ⟨rfl, mdX6_write⟩ ⟨by decide, by decide⟩) (va_recv hK hP (ci := 4) (q0 := 3) rfl rfl) cZ_ok hK hP hD hS hA hZ rfl hl.1 rfl (Nat.le_of_ble_eq_true rfl) dX9_indexed_151 ⟨Nat.zero_le _, Nat.zero_le _⟩ (fun H locs hP hD hS => ?_)
    exact J154 k0_61 k0_120 (x_Registers_write σ (x_Bits_four v0 16) k0_39) _ _ _ hP hD hS (lv_sub hl [0, 1, 4, 5, 6, 7] rfl) hf
  have J120 : ∀ (k0_39 : Int32) (k0_61 : Int32) (k0_120 : Int32) (H : Heap) (locs : List Loc) (ls : Array Slot), va_P (gD G) vwCl (cW G (σ)) H → va_D A (cW G (σ)) → va_S A s.heap H locs → lv_has ls 12 [(0, .ref (gA G 12)), (1, .int v0), (2, .int v1), (4, .int (x_Bits_four v0 16)), (6, .int k0_39), (7, .int (b01 (x_Bits_on v0 24))), (8, .int k0_61), (9, .int (x_Bits_four v0 12)), (10, .int (b01 (x_Bits_on v0 20)))] → x_Transfers_indexed σ v0 v1 v2 = x_Transfers_indexed_120 σ v0 v1 v2 k0_39 k0_61 k0_120 → W p l e (kr 3) s m args below meth c H locs 0 0 Q (F0 m 120 ls [.int k0_120]) := by
    intro k0_39 k0_61 k0_120 H locs ls hP hD hS hl hf
    refine lv_istore (lv' := [(11, .int k0_120), (0, .ref (gA G 12)), (1, .int v0), (2, .int v1), (4, .int (x_Bits_four v0 16)), (6, .int k0_39), (7, .int (b01 (x_Bits_on v0 24))), (8, .int k0_61), (9, .int (x_Bits_four v0 12)), (10, .int (b01 (x_Bits_on v0 20)))]) hx hb dX9_indexed_120 hl (by decide) rfl (fun ls hl => ?_)
    refine lv_iload hx hb dX9_indexed_122 (lv_at hl 4 rfl) ?_
    refine lv_bipush (v := 15) hx hb dX9_indexed_124 (by decide) ?_
    refine lv_icmp_eq (tgt := 154) hx hb dX9_indexed_126 (by decide) (fun h_10 => ?_) (fun h_10 => ?_)
    · have hf := hf.trans (if_pos h_10)
      exact J154 k0_61 k0_120 σ _ _ _ hP hD hS (lv_sub hl [1, 3, 7, 8, 9, 0] rfl) hf
    · have hf := hf.trans (if_neg h_10)
      refine lv_iload hx hb dX9_indexed_129 (lv_at hl 6 rfl) ?_
      refine kz_eq (tgt := 143) hx hb dX9_indexed_131 (by decide) (fun h_11 => ?_) (fun h_11 => ?_)
      · have hf := hf.trans (if_neg h_11)
        exact J143 k0_39 k0_61 k0_120 _ _ _ hP hD hS (lv_sub hl [1, 3, 4, 5, 7, 8, 9, 0] rfl) hf
      · have hf := hf.trans (if_pos h_11)
        refine lv_iload_n hx hb dX9_indexed_134 rfl (lv_at hl 2 rfl) ?_
        refine lv_bipush (v := 21) hx hb dX9_indexed_135 (by decide) ?_
        refine kp_Si (rest := []) (cx_Bits_on l v0 21) ⟨hx, hb, hml, hown, hts⟩ (va_cwS 2 hts (gi_S kw_525 kw_356 kw_346 kw_357) rfl rfl rfl mdX2_on ⟨by decide, by decide⟩) rfl hl.1 rfl (Nat.le_of_ble_eq_true rfl) dX9_indexed_137 ⟨Nat.zero_le _, Nat.zero_le _⟩ ?_
        refine kz_eq (tgt := 154) hx hb dX9_indexed_140 (by decide) (fun h_12 => ?_) (fun h_12 => ?_)
        · have hf := hf.trans (if_neg h_12)
          exact J154 k0_61 k0_120 σ _ _ _ hP hD hS (lv_sub hl [1, 3, 7, 8, 9, 0] rfl) hf
        · have hf := hf.trans (if_pos h_12)
          exact J143 k0_39 k0_61 k0_120 _ _ _ hP hD hS (lv_sub hl [1, 3, 4, 5, 7, 8, 9, 0] rfl) hf
  have J61 : ∀ (k0_39 : Int32) (k0_61 : Int32) (H : Heap) (locs : List Loc) (ls : Array Slot), va_P (gD G) vwCl (cW G (σ)) H → va_D A (cW G (σ)) → va_S A s.heap H locs → lv_has ls 12 [(0, .ref (gA G 12)), (1, .int v0), (2, .int v1), (4, .int (x_Bits_four v0 16)), (6, .int k0_39), (7, .int (b01 (x_Bits_on v0 24)))] → x_Transfers_indexed σ v0 v1 v2 = x_Transfers_indexed_61 σ v0 v1 v2 k0_39 k0_61 → W p l e (kr 3) s m args below meth c H locs 0 0 Q (F0 m 61 ls [.int k0_61]) := by
    intro k0_39 k0_61 H locs ls hP hD hS hl hf
    refine lv_istore (lv' := [(8, .int k0_61), (0, .ref (gA G 12)), (1, .int v0), (2, .int v1), (4, .int (x_Bits_four v0 16)), (6, .int k0_39), (7, .int (b01 (x_Bits_on v0 24)))]) hx hb dX9_indexed_61 hl (by decide) rfl (fun ls hl => ?_)
    refine lv_aload_n hx hb dX9_indexed_63 rfl (lv_at hl 1 rfl) ?_
    refine va_get (D := gD G) (ci := 7) hx hb hts ku_9 hown hK hP 12 rfl rfl 0 (by decide) (hts _ kw_83) (fun _ h9 => h9) rfl dX9_indexed_64 ?_
    refine lv_iload hx hb dX9_indexed_67 (lv_at hl 0 rfl) ?_
    refine kc_Vr (rest := []) (cx_Memory_holds l G σ k0_61) ⟨hx, hb, hml, hown, hts⟩ (cwV 1 hts (gi_V kw_458 kw_132 kw_133 kw_15 kw_134) rfl rfl rfl ⟨rfl, mdX4_holds⟩ ⟨by decide, by decide⟩) (va_recv hK hP (ci := 2) (q0 := 1) rfl rfl) cZ_ok hK hP hD hS hA hZ rfl hl.1 rfl (Nat.le_of_ble_eq_true rfl) dX9_indexed_69 ⟨Nat.zero_le _, Nat.zero_le _⟩ (fun H locs hP hD hS => ?_)
    refine kz_ne (tgt := 77) hx hb dX9_indexed_72 (by decide) (fun h_13 => ?_) (fun h_13 => ?_)
    · have hf := hf.trans (if_pos h_13)
      refine lv_iload_n hx hb dX9_indexed_77 rfl (lv_at hl 2 rfl) ?_
      refine lv_bipush (v := 12) hx hb dX9_indexed_78 (by decide) ?_
      refine kp_Si (rest := []) (cx_Bits_four l v0 12) ⟨hx, hb, hml, hown, hts⟩ (va_cwS 2 hts (gi_S kw_517 kw_345 kw_346 kw_347) rfl rfl rfl mdX2_four ⟨by decide, by decide⟩) rfl hl.1 rfl (Nat.le_of_ble_eq_true rfl) dX9_indexed_80 ⟨Nat.zero_le _, Nat.zero_le _⟩ ?_
      refine lv_istore (lv' := [(9, .int (x_Bits_four v0 12)), (8, .int k0_61), (0, .ref (gA G 12)), (1, .int v0), (2, .int v1), (4, .int (x_Bits_four v0 16)), (6, .int k0_39), (7, .int (b01 (x_Bits_on v0 24)))]) hx hb dX9_indexed_83 hl (by decide) rfl (fun ls hl => ?_)
      refine lv_iload_n hx hb dX9_indexed_85 rfl (lv_at hl 3 rfl) ?_
      refine lv_bipush (v := 20) hx hb dX9_indexed_86 (by decide) ?_
      refine kp_Si (rest := []) (cx_Bits_on l v0 20) ⟨hx, hb, hml, hown, hts⟩ (va_cwS 2 hts (gi_S kw_525 kw_356 kw_346 kw_357) rfl rfl rfl mdX2_on ⟨by decide, by decide⟩) rfl hl.1 rfl (Nat.le_of_ble_eq_true rfl) dX9_indexed_88 ⟨Nat.zero_le _, Nat.zero_le _⟩ ?_
      refine lv_istore (lv' := [(10, .int (b01 (x_Bits_on v0 20))), (9, .int (x_Bits_four v0 12)), (8, .int k0_61), (0, .ref (gA G 12)), (1, .int v0), (2, .int v1), (4, .int (x_Bits_four v0 16)), (6, .int k0_39), (7, .int (b01 (x_Bits_on v0 24)))]) hx hb dX9_indexed_91 hl (by decide) rfl (fun ls hl => ?_)
      refine lv_iload hx hb dX9_indexed_93 (lv_at hl 0 rfl) ?_
      refine kz_eq (tgt := 111) hx hb dX9_indexed_95 (by decide) (fun h_14 => ?_) (fun h_14 => ?_)
      · have hf := hf.trans (if_neg h_14)
        refine lv_aload_n hx hb dX9_indexed_111 rfl (lv_at hl 3 rfl) ?_
        refine va_get (D := gD G) (ci := 7) hx hb hts ku_9 hown hK hP 12 rfl rfl 1 (by decide) (hts _ kw_84) (fun _ h9 => h9) rfl dX9_indexed_112 ?_
        refine lv_iload hx hb dX9_indexed_115 (lv_at hl 1 rfl) ?_
        refine kc_Vr (rest := []) (cx_Registers_readLate l G σ (x_Bits_four v0 12) (bt4_16 _ _)) ⟨hx, hb, hml, hown, hts⟩ (cwV 1 hts (gi_V kw_623 kw_624 kw_625 kw_19 kw_626) rfl rfl rfl ⟨rfl, mdX6_readLate⟩ ⟨by decide, by decide⟩) (va_recv hK hP (ci := 4) (q0 := 3) rfl rfl) cZ_ok hK hP hD hS hA hZ rfl hl.1 rfl (Nat.le_of_ble_eq_true rfl) dX9_indexed_117 ⟨Nat.zero_le _, Nat.zero_le _⟩ (fun H locs hP hD hS => ?_)
        exact J120 k0_39 k0_61 (x_Registers_readLate σ (x_Bits_four v0 12)) _ _ _ hP hD hS (lv_sub hl [3, 4, 5, 6, 7, 8, 2, 1, 0] rfl) hf
      · have hf := hf.trans (if_pos h_14)
        refine lv_aload_n hx hb dX9_indexed_98 rfl (lv_at hl 3 rfl) ?_
        refine va_get (D := gD G) (ci := 7) hx hb hts ku_9 hown hK hP 12 rfl rfl 0 (by decide) (hts _ kw_83) (fun _ h9 => h9) rfl dX9_indexed_99 ?_
        refine lv_iload_n hx hb dX9_indexed_102 rfl (lv_at hl 5 rfl) ?_
        refine lv_iload hx hb dX9_indexed_103 (lv_at hl 2 rfl) ?_
        refine kc_Vr (rest := []) (cx_Memory_load l G σ v1 k0_61) ⟨hx, hb, hml, hown, hts⟩ (cwV 2 hts (gi_V kw_459 kw_460 kw_461 kw_15 kw_462) rfl rfl rfl ⟨rfl, mdX4_load⟩ ⟨by decide, by decide⟩) (va_recv hK hP (ci := 2) (q0 := 1) rfl rfl) cZ_ok hK hP hD hS hA hZ rfl hl.1 rfl (Nat.le_of_ble_eq_true rfl) dX9_indexed_105 ⟨Nat.zero_le _, Nat.zero_le _⟩ (fun H locs hP hD hS => ?_)
        refine lv_goto (tgt := 120) hx hb dX9_indexed_108 (by decide) ?_
        exact J120 k0_39 k0_61 (x_Memory_load σ v1 k0_61) _ _ _ hP hD hS (lv_sub hl [3, 4, 5, 6, 7, 8, 2, 1, 0] rfl) hf
    · have hf := hf.trans (if_neg h_13)
      refine lv_iconst (v := 3) hx hb dX9_indexed_75 (by decide) ?_
      exact hret 3 σ _ _ _ _ hf hP hD hS dX9_indexed_76
  have J39 : ∀ (k0_39 : Int32) (H : Heap) (locs : List Loc) (ls : Array Slot), va_P (gD G) vwCl (cW G (σ)) H → va_D A (cW G (σ)) → va_S A s.heap H locs → lv_has ls 12 [(0, .ref (gA G 12)), (1, .int v0), (2, .int v1), (4, .int (x_Bits_four v0 16)), (5, .int (x_Registers_read σ (x_Bits_four v0 16)))] → x_Transfers_indexed σ v0 v1 v2 = x_Transfers_indexed_39 σ v0 v1 v2 k0_39 → W p l e (kr 3) s m args below meth c H locs 0 0 Q (F0 m 39 ls [.int k0_39]) := by
    intro k0_39 H locs ls hP hD hS hl hf
    refine lv_istore (lv' := [(6, .int k0_39), (0, .ref (gA G 12)), (1, .int v0), (2, .int v1), (4, .int (x_Bits_four v0 16)), (5, .int (x_Registers_read σ (x_Bits_four v0 16)))]) hx hb dX9_indexed_39 hl (by decide) rfl (fun ls hl => ?_)
    refine lv_iload_n hx hb dX9_indexed_41 rfl (lv_at hl 2 rfl) ?_
    refine lv_bipush (v := 24) hx hb dX9_indexed_42 (by decide) ?_
    refine kp_Si (rest := []) (cx_Bits_on l v0 24) ⟨hx, hb, hml, hown, hts⟩ (va_cwS 2 hts (gi_S kw_525 kw_356 kw_346 kw_357) rfl rfl rfl mdX2_on ⟨by decide, by decide⟩) rfl hl.1 rfl (Nat.le_of_ble_eq_true rfl) dX9_indexed_44 ⟨Nat.zero_le _, Nat.zero_le _⟩ ?_
    refine lv_istore (lv' := [(7, .int (b01 (x_Bits_on v0 24))), (6, .int k0_39), (0, .ref (gA G 12)), (1, .int v0), (2, .int v1), (4, .int (x_Bits_four v0 16)), (5, .int (x_Registers_read σ (x_Bits_four v0 16)))]) hx hb dX9_indexed_47 hl (by decide) rfl (fun ls hl => ?_)
    refine lv_iload hx hb dX9_indexed_49 (lv_at hl 0 rfl) ?_
    refine kz_eq (tgt := 59) hx hb dX9_indexed_51 (by decide) (fun h_15 => ?_) (fun h_15 => ?_)
    · have hf := hf.trans (if_neg h_15)
      refine lv_iload hx hb dX9_indexed_59 (lv_at hl 6 rfl) ?_
      exact J61 k0_39 (x_Registers_read σ (x_Bits_four v0 16)) _ _ _ hP hD hS (lv_sub hl [2, 3, 4, 5, 1, 0] rfl) hf
    · have hf := hf.trans (if_pos h_15)
      refine lv_iload hx hb dX9_indexed_54 (lv_at hl 1 rfl) ?_
      refine lv_goto (tgt := 61) hx hb dX9_indexed_56 (by decide) ?_
      exact J61 k0_39 k0_39 _ _ _ hP hD hS (lv_sub hl [2, 3, 4, 5, 1, 0] rfl) hf
  refine lv_iload_n hx hb dX9_indexed_0 rfl (lv_at hl 1 rfl) ?_
  refine lv_bipush (v := 16) hx hb dX9_indexed_1 (by decide) ?_
  refine kp_Si (rest := []) (cx_Bits_four l v0 16) ⟨hx, hb, hml, hown, hts⟩ (va_cwS 2 hts (gi_S kw_517 kw_345 kw_346 kw_347) rfl rfl rfl mdX2_four ⟨by decide, by decide⟩) rfl hl.1 rfl (Nat.le_of_ble_eq_true rfl) dX9_indexed_3 ⟨Nat.zero_le _, Nat.zero_le _⟩ ?_
  refine lv_istore (lv' := [(4, .int (x_Bits_four v0 16)), (0, .ref (gA G 12)), (1, .int v0), (2, .int v1), (3, .int v2)]) hx hb dX9_indexed_6 hl (by decide) rfl (fun ls hl => ?_)
  refine lv_aload_n hx hb dX9_indexed_8 rfl (lv_at hl 1 rfl) ?_
  refine va_get (D := gD G) (ci := 7) hx hb hts ku_9 hown hK hP 12 rfl rfl 1 (by decide) (hts _ kw_84) (fun _ h9 => h9) rfl dX9_indexed_9 ?_
  refine lv_iload hx hb dX9_indexed_12 (lv_at hl 0 rfl) ?_
  refine kc_Vr (rest := []) (cx_Registers_read l G σ (x_Bits_four v0 16) (bt4_16 _ _)) ⟨hx, hb, hml, hown, hts⟩ (cwV 1 hts (gi_V kw_465 kw_359 kw_360 kw_19 kw_361) rfl rfl rfl ⟨rfl, mdX6_read⟩ ⟨by decide, by decide⟩) (va_recv hK hP (ci := 4) (q0 := 3) rfl rfl) cZ_ok hK hP hD hS hA hZ rfl hl.1 rfl (Nat.le_of_ble_eq_true rfl) dX9_indexed_14 ⟨Nat.zero_le _, Nat.zero_le _⟩ (fun H locs hP hD hS => ?_)
  refine lv_istore (lv' := [(5, .int (x_Registers_read σ (x_Bits_four v0 16))), (4, .int (x_Bits_four v0 16)), (0, .ref (gA G 12)), (1, .int v0), (2, .int v1), (3, .int v2)]) hx hb dX9_indexed_17 hl (by decide) rfl (fun ls hl => ?_)
  refine lv_iload_n hx hb dX9_indexed_19 rfl (lv_at hl 3 rfl) ?_
  refine lv_bipush (v := 23) hx hb dX9_indexed_20 (by decide) ?_
  refine kp_Si (rest := []) (cx_Bits_on l v0 23) ⟨hx, hb, hml, hown, hts⟩ (va_cwS 2 hts (gi_S kw_525 kw_356 kw_346 kw_357) rfl rfl rfl mdX2_on ⟨by decide, by decide⟩) rfl hl.1 rfl (Nat.le_of_ble_eq_true rfl) dX9_indexed_22 ⟨Nat.zero_le _, Nat.zero_le _⟩ ?_
  refine kz_eq (tgt := 35) hx hb dX9_indexed_25 (by decide) (fun h_16 => ?_) (fun h_16 => ?_)
  · have hf := hf.trans (if_neg h_16)
    refine lv_iload hx hb dX9_indexed_35 (lv_at hl 0 rfl) ?_
    refine lv_iload_n hx hb dX9_indexed_37 rfl (lv_at hl 5 rfl) ?_
    refine lv_isub hx hb dX9_indexed_38 ?_
    exact J39 ((x_Registers_read σ (x_Bits_four v0 16)) - v2) _ _ _ hP hD hS (lv_sub hl [2, 3, 4, 1, 0] rfl) hf
  · have hf := hf.trans (if_pos h_16)
    refine lv_iload hx hb dX9_indexed_28 (lv_at hl 0 rfl) ?_
    refine lv_iload_n hx hb dX9_indexed_30 rfl (lv_at hl 5 rfl) ?_
    refine lv_iadd hx hb dX9_indexed_31 ?_
    refine lv_goto (tgt := 39) hx hb dX9_indexed_32 (by decide) ?_
    exact J39 ((x_Registers_read σ (x_Bits_four v0 16)) + v2) _ _ _ hP hD hS (lv_sub hl [2, 3, 4, 1, 0] rfl) hf
def x_Transfers_plain (σ : CS) (v0 : Bool) (v1 : Int32) (v2 : Int32) (v3 : Int32) : Int32 × CS := (if (x_Memory_holds σ v3) = true then (if v0 = true then ((-1), x_Registers_write σ v2 (x_Memory_load σ v1 v3)) else ((-1), x_Memory_store σ v1 v3 (x_Registers_read σ v2))) else (3, σ))
set_option maxRecDepth 20000 in
set_option maxHeartbeats 4000000 in
theorem cx_Transfers_plain (l : Launch) (G : KG) (σ : CS) (v0 : Bool) (v1 : Int32) (v2 : Int32) (v3 : Int32) (hv2 : vp_in v2 16) : KB l yX9_plain (Cond.code yX9_plain cX9_plain 5 (some .int) :: lw_all) (kr 3) (gD G) vwCl (gT G) (cZ G) (cW G) [.ref (gA G 12), .int (b01 v0), .int v1, .int v2, .int v3] σ (x_Transfers_plain σ v0 v1 v2 v3) := by
  refine kc_in_b (q := x_Transfers_plain σ v0 v1 v2 v3) (by decide) rfl (Nat.le_of_ble_eq_true rfl) ?_
  intro p e s m args below meth c A Q ls hx hb hml hown hts hK hP hD hA hS hZ hl hret
  have hts := fun w h => hts w (List.mem_cons_of_mem _ h)
  have hl : lv_has ls 5 [(0, .ref (gA G 12)), (1, .int (b01 v0)), (2, .int v1), (3, .int v2), (4, .int v3)] := hl
  have hf : x_Transfers_plain σ v0 v1 v2 v3 = x_Transfers_plain σ v0 v1 v2 v3 := rfl
  refine lv_aload_n hx hb dX9_plain_0 rfl (lv_at hl 0 rfl) ?_
  refine va_get (D := gD G) (ci := 7) hx hb hts ku_9 hown hK hP 12 rfl rfl 0 (by decide) (hts _ kw_83) (fun _ h9 => h9) rfl dX9_plain_1 ?_
  refine lv_iload hx hb dX9_plain_4 (lv_at hl 4 rfl) ?_
  refine kc_Vr (rest := []) (cx_Memory_holds l G σ v3) ⟨hx, hb, hml, hown, hts⟩ (cwV 1 hts (gi_V kw_458 kw_132 kw_133 kw_15 kw_134) rfl rfl rfl ⟨rfl, mdX4_holds⟩ ⟨by decide, by decide⟩) (va_recv hK hP (ci := 2) (q0 := 1) rfl rfl) cZ_ok hK hP hD hS hA hZ rfl hl.1 rfl (Nat.le_of_ble_eq_true rfl) dX9_plain_6 ⟨Nat.zero_le _, Nat.zero_le _⟩ (fun H locs hP hD hS => ?_)
  refine kz_ne (tgt := 14) hx hb dX9_plain_9 (by decide) (fun h_3 => ?_) (fun h_3 => ?_)
  · have hf := hf.trans (if_pos h_3)
    refine lv_iload_n hx hb dX9_plain_14 rfl (lv_at hl 1 rfl) ?_
    refine kz_eq (tgt := 39) hx hb dX9_plain_15 (by decide) (fun h_4 => ?_) (fun h_4 => ?_)
    · have hf := hf.trans (if_neg h_4)
      refine lv_aload_n hx hb dX9_plain_39 rfl (lv_at hl 0 rfl) ?_
      refine va_get (D := gD G) (ci := 7) hx hb hts ku_9 hown hK hP 12 rfl rfl 0 (by decide) (hts _ kw_83) (fun _ h9 => h9) rfl dX9_plain_40 ?_
      refine lv_iload_n hx hb dX9_plain_43 rfl (lv_at hl 2 rfl) ?_
      refine lv_iload hx hb dX9_plain_44 (lv_at hl 4 rfl) ?_
      refine lv_aload_n hx hb dX9_plain_46 rfl (lv_at hl 0 rfl) ?_
      refine va_get (D := gD G) (ci := 7) hx hb hts ku_9 hown hK hP 12 rfl rfl 1 (by decide) (hts _ kw_84) (fun _ h9 => h9) rfl dX9_plain_47 ?_
      refine lv_iload_n hx hb dX9_plain_50 rfl (lv_at hl 3 rfl) ?_
      refine kc_Vr (rest := [.int v3, .int v1, .ref (gA G 1)]) (cx_Registers_read l G σ v2 hv2) ⟨hx, hb, hml, hown, hts⟩ (cwV 1 hts (gi_V kw_465 kw_359 kw_360 kw_19 kw_361) rfl rfl rfl ⟨rfl, mdX6_read⟩ ⟨by decide, by decide⟩) (va_recv hK hP (ci := 4) (q0 := 3) rfl rfl) cZ_ok hK hP hD hS hA hZ rfl hl.1 rfl (Nat.le_of_ble_eq_true rfl) dX9_plain_51 ⟨Nat.zero_le _, Nat.zero_le _⟩ (fun H locs hP hD hS => ?_)
      refine kc_Vv (rest := []) (cx_Memory_store l G σ v1 v3 (x_Registers_read σ v2)) ⟨hx, hb, hml, hown, hts⟩ (cwV 3 hts (gi_V kw_466 kw_467 kw_468 kw_15 kw_469) rfl rfl rfl ⟨rfl, mdX4_store⟩ ⟨by decide, by decide⟩) (va_recv hK hP (ci := 2) (q0 := 1) rfl rfl) cZ_ok hK hP hD hS hA hZ rfl hl.1 rfl (Nat.le_of_ble_eq_true rfl) dX9_plain_54 ⟨Nat.zero_le _, Nat.zero_le _⟩ (fun H locs hP hD hS => ?_)
      refine lv_iconst (v := (-1)) hx hb dX9_plain_57 (by decide) ?_
      exact hret (-1) (x_Memory_store σ v1 v3 (x_Registers_read σ v2)) _ _ _ _ hf hP hD hS dX9_plain_58
    · have hf := hf.trans (if_pos h_4)
      refine lv_aload_n hx hb dX9_plain_18 rfl (lv_at hl 0 rfl) ?_
      refine va_get (D := gD G) (ci := 7) hx hb hts ku_9 hown hK hP 12 rfl rfl 1 (by decide) (hts _ kw_84) (fun _ h9 => h9) rfl dX9_plain_19 ?_
      refine lv_iload_n hx hb dX9_plain_22 rfl (lv_at hl 3 rfl) ?_
      refine lv_aload_n hx hb dX9_plain_23 rfl (lv_at hl 0 rfl) ?_
      refine va_get (D := gD G) (ci := 7) hx hb hts ku_9 hown hK hP 12 rfl rfl 0 (by decide) (hts _ kw_83) (fun _ h9 => h9) rfl dX9_plain_24 ?_
      refine lv_iload_n hx hb dX9_plain_27 rfl (lv_at hl 2 rfl) ?_
      refine lv_iload hx hb dX9_plain_28 (lv_at hl 4 rfl) ?_
      refine kc_Vr (rest := [.int v2, .ref (gA G 3)]) (cx_Memory_load l G σ v1 v3) ⟨hx, hb, hml, hown, hts⟩ (cwV 2 hts (gi_V kw_459 kw_460 kw_461 kw_15 kw_462) rfl rfl rfl ⟨rfl, mdX4_load⟩ ⟨by decide, by decide⟩) (va_recv hK hP (ci := 2) (q0 := 1) rfl rfl) cZ_ok hK hP hD hS hA hZ rfl hl.1 rfl (Nat.le_of_ble_eq_true rfl) dX9_plain_30 ⟨Nat.zero_le _, Nat.zero_le _⟩ (fun H locs hP hD hS => ?_)
      refine kc_Vv (rest := []) (cx_Registers_write l G σ v2 (x_Memory_load σ v1 v3) hv2) ⟨hx, hb, hml, hown, hts⟩ (cwV 2 hts (gi_V kw_464 kw_403 kw_404 kw_19 kw_405) rfl rfl rfl ⟨rfl, mdX6_write⟩ ⟨by decide, by decide⟩) (va_recv hK hP (ci := 4) (q0 := 3) rfl rfl) cZ_ok hK hP hD hS hA hZ rfl hl.1 rfl (Nat.le_of_ble_eq_true rfl) dX9_plain_33 ⟨Nat.zero_le _, Nat.zero_le _⟩ (fun H locs hP hD hS => ?_)
      refine lv_goto (tgt := 57) hx hb dX9_plain_36 (by decide) ?_
      refine lv_iconst (v := (-1)) hx hb dX9_plain_57 (by decide) ?_
      exact hret (-1) (x_Registers_write σ v2 (x_Memory_load σ v1 v3)) _ _ _ _ hf hP hD hS dX9_plain_58
  · have hf := hf.trans (if_neg h_3)
    refine lv_iconst (v := 3) hx hb dX9_plain_12 (by decide) ?_
    exact hret 3 σ _ _ _ _ hf hP hD hS dX9_plain_13
def x_Transfers_swap (σ : CS) (v0 : Int32) (v1 : Int32) (v2 : Int32) (v3 : Int32) : Int32 × CS := (if (x_Memory_holds σ (x_Registers_read σ v1)) = true then ((-1), x_Registers_write (x_Memory_store σ v0 (x_Registers_read σ v1) (x_Registers_read σ v3)) v2 (x_Memory_load σ v0 (x_Registers_read σ v1))) else (3, σ))
set_option maxRecDepth 20000 in
set_option maxHeartbeats 4000000 in
theorem cx_Transfers_swap (l : Launch) (G : KG) (σ : CS) (v0 : Int32) (v1 : Int32) (v2 : Int32) (v3 : Int32) (hv1 : vp_in v1 16) (hv2 : vp_in v2 16) (hv3 : vp_in v3 16) : KB l yX9_swap (Cond.code yX9_swap cX9_swap 7 (some .int) :: lw_all) (kr 3) (gD G) vwCl (gT G) (cZ G) (cW G) [.ref (gA G 12), .int v0, .int v1, .int v2, .int v3] σ (x_Transfers_swap σ v0 v1 v2 v3) := by
  refine kc_in_b (q := x_Transfers_swap σ v0 v1 v2 v3) (by decide) rfl (Nat.le_of_ble_eq_true rfl) ?_
  intro p e s m args below meth c A Q ls hx hb hml hown hts hK hP hD hA hS hZ hl hret
  have hts := fun w h => hts w (List.mem_cons_of_mem _ h)
  have hl : lv_has ls 7 [(0, .ref (gA G 12)), (1, .int v0), (2, .int v1), (3, .int v2), (4, .int v3)] := hl
  have hf : x_Transfers_swap σ v0 v1 v2 v3 = x_Transfers_swap σ v0 v1 v2 v3 := rfl
  refine lv_aload_n hx hb dX9_swap_0 rfl (lv_at hl 0 rfl) ?_
  refine va_get (D := gD G) (ci := 7) hx hb hts ku_9 hown hK hP 12 rfl rfl 1 (by decide) (hts _ kw_84) (fun _ h9 => h9) rfl dX9_swap_1 ?_
  refine lv_iload_n hx hb dX9_swap_4 rfl (lv_at hl 2 rfl) ?_
  refine kc_Vr (rest := []) (cx_Registers_read l G σ v1 hv1) ⟨hx, hb, hml, hown, hts⟩ (cwV 1 hts (gi_V kw_465 kw_359 kw_360 kw_19 kw_361) rfl rfl rfl ⟨rfl, mdX6_read⟩ ⟨by decide, by decide⟩) (va_recv hK hP (ci := 4) (q0 := 3) rfl rfl) cZ_ok hK hP hD hS hA hZ rfl hl.1 rfl (Nat.le_of_ble_eq_true rfl) dX9_swap_5 ⟨Nat.zero_le _, Nat.zero_le _⟩ (fun H locs hP hD hS => ?_)
  refine lv_istore (lv' := [(5, .int (x_Registers_read σ v1)), (0, .ref (gA G 12)), (1, .int v0), (2, .int v1), (3, .int v2), (4, .int v3)]) hx hb dX9_swap_8 hl (by decide) rfl (fun ls hl => ?_)
  refine lv_aload_n hx hb dX9_swap_10 rfl (lv_at hl 1 rfl) ?_
  refine va_get (D := gD G) (ci := 7) hx hb hts ku_9 hown hK hP 12 rfl rfl 0 (by decide) (hts _ kw_83) (fun _ h9 => h9) rfl dX9_swap_11 ?_
  refine lv_iload hx hb dX9_swap_14 (lv_at hl 0 rfl) ?_
  refine kc_Vr (rest := []) (cx_Memory_holds l G σ (x_Registers_read σ v1)) ⟨hx, hb, hml, hown, hts⟩ (cwV 1 hts (gi_V kw_458 kw_132 kw_133 kw_15 kw_134) rfl rfl rfl ⟨rfl, mdX4_holds⟩ ⟨by decide, by decide⟩) (va_recv hK hP (ci := 2) (q0 := 1) rfl rfl) cZ_ok hK hP hD hS hA hZ rfl hl.1 rfl (Nat.le_of_ble_eq_true rfl) dX9_swap_16 ⟨Nat.zero_le _, Nat.zero_le _⟩ (fun H locs hP hD hS => ?_)
  refine kz_ne (tgt := 24) hx hb dX9_swap_19 (by decide) (fun h_2 => ?_) (fun h_2 => ?_)
  · have hf := hf.trans (if_pos h_2)
    refine lv_aload_n hx hb dX9_swap_24 rfl (lv_at hl 1 rfl) ?_
    refine va_get (D := gD G) (ci := 7) hx hb hts ku_9 hown hK hP 12 rfl rfl 0 (by decide) (hts _ kw_83) (fun _ h9 => h9) rfl dX9_swap_25 ?_
    refine lv_iload_n hx hb dX9_swap_28 rfl (lv_at hl 2 rfl) ?_
    refine lv_iload hx hb dX9_swap_29 (lv_at hl 0 rfl) ?_
    refine kc_Vr (rest := []) (cx_Memory_load l G σ v0 (x_Registers_read σ v1)) ⟨hx, hb, hml, hown, hts⟩ (cwV 2 hts (gi_V kw_459 kw_460 kw_461 kw_15 kw_462) rfl rfl rfl ⟨rfl, mdX4_load⟩ ⟨by decide, by decide⟩) (va_recv hK hP (ci := 2) (q0 := 1) rfl rfl) cZ_ok hK hP hD hS hA hZ rfl hl.1 rfl (Nat.le_of_ble_eq_true rfl) dX9_swap_31 ⟨Nat.zero_le _, Nat.zero_le _⟩ (fun H locs hP hD hS => ?_)
    refine lv_istore (lv' := [(6, .int (x_Memory_load σ v0 (x_Registers_read σ v1))), (5, .int (x_Registers_read σ v1)), (0, .ref (gA G 12)), (1, .int v0), (2, .int v1), (3, .int v2), (4, .int v3)]) hx hb dX9_swap_34 hl (by decide) rfl (fun ls hl => ?_)
    refine lv_aload_n hx hb dX9_swap_36 rfl (lv_at hl 2 rfl) ?_
    refine va_get (D := gD G) (ci := 7) hx hb hts ku_9 hown hK hP 12 rfl rfl 0 (by decide) (hts _ kw_83) (fun _ h9 => h9) rfl dX9_swap_37 ?_
    refine lv_iload_n hx hb dX9_swap_40 rfl (lv_at hl 3 rfl) ?_
    refine lv_iload hx hb dX9_swap_41 (lv_at hl 1 rfl) ?_
    refine lv_aload_n hx hb dX9_swap_43 rfl (lv_at hl 2 rfl) ?_
    refine va_get (D := gD G) (ci := 7) hx hb hts ku_9 hown hK hP 12 rfl rfl 1 (by decide) (hts _ kw_84) (fun _ h9 => h9) rfl dX9_swap_44 ?_
    refine lv_iload hx hb dX9_swap_47 (lv_at hl 6 rfl) ?_
    refine kc_Vr (rest := [.int (x_Registers_read σ v1), .int v0, .ref (gA G 1)]) (cx_Registers_read l G σ v3 hv3) ⟨hx, hb, hml, hown, hts⟩ (cwV 1 hts (gi_V kw_465 kw_359 kw_360 kw_19 kw_361) rfl rfl rfl ⟨rfl, mdX6_read⟩ ⟨by decide, by decide⟩) (va_recv hK hP (ci := 4) (q0 := 3) rfl rfl) cZ_ok hK hP hD hS hA hZ rfl hl.1 rfl (Nat.le_of_ble_eq_true rfl) dX9_swap_49 ⟨Nat.zero_le _, Nat.zero_le _⟩ (fun H locs hP hD hS => ?_)
    refine kc_Vv (rest := []) (cx_Memory_store l G σ v0 (x_Registers_read σ v1) (x_Registers_read σ v3)) ⟨hx, hb, hml, hown, hts⟩ (cwV 3 hts (gi_V kw_466 kw_467 kw_468 kw_15 kw_469) rfl rfl rfl ⟨rfl, mdX4_store⟩ ⟨by decide, by decide⟩) (va_recv hK hP (ci := 2) (q0 := 1) rfl rfl) cZ_ok hK hP hD hS hA hZ rfl hl.1 rfl (Nat.le_of_ble_eq_true rfl) dX9_swap_52 ⟨Nat.zero_le _, Nat.zero_le _⟩ (fun H locs hP hD hS => ?_)
    refine lv_aload_n hx hb dX9_swap_55 rfl (lv_at hl 2 rfl) ?_
    refine va_get (D := gD G) (ci := 7) hx hb hts ku_9 hown hK hP 12 rfl rfl 1 (by decide) (hts _ kw_84) (fun _ h9 => h9) rfl dX9_swap_56 ?_
    refine lv_iload_n hx hb dX9_swap_59 rfl (lv_at hl 5 rfl) ?_
    refine lv_iload hx hb dX9_swap_60 (lv_at hl 0 rfl) ?_
    refine kc_Vv (rest := []) (cx_Registers_write l G (x_Memory_store σ v0 (x_Registers_read σ v1) (x_Registers_read σ v3)) v2 (x_Memory_load σ v0 (x_Registers_read σ v1)) hv2) ⟨hx, hb, hml, hown, hts⟩ (cwV 2 hts (gi_V kw_464 kw_403 kw_404 kw_19 kw_405) rfl rfl rfl ⟨rfl, mdX6_write⟩ ⟨by decide, by decide⟩) (va_recv hK hP (ci := 4) (q0 := 3) rfl rfl) cZ_ok hK hP hD hS hA hZ rfl hl.1 rfl (Nat.le_of_ble_eq_true rfl) dX9_swap_62 ⟨Nat.zero_le _, Nat.zero_le _⟩ (fun H locs hP hD hS => ?_)
    refine lv_iconst (v := (-1)) hx hb dX9_swap_65 (by decide) ?_
    exact hret (-1) (x_Registers_write (x_Memory_store σ v0 (x_Registers_read σ v1) (x_Registers_read σ v3)) v2 (x_Memory_load σ v0 (x_Registers_read σ v1))) _ _ _ _ hf hP hD hS dX9_swap_66
  · have hf := hf.trans (if_neg h_2)
    refine lv_iconst (v := 3) hx hb dX9_swap_22 (by decide) ?_
    exact hret 3 σ _ _ _ _ hf hP hD hS dX9_swap_23
def x_ArmSet_longProduct (v0 : Int32) (v1 : Int32) (v2 : Bool) : Int64 := (if v2 = true then v0.toInt64 * v1.toInt64 else (v0.toInt64 &&& 4294967295) * (v1.toInt64 &&& 4294967295))
set_option maxRecDepth 20000 in
set_option maxHeartbeats 4000000 in
theorem cx_ArmSet_longProduct (l : Launch) (v0 : Int32) (v1 : Int32) (v2 : Bool) : KPl l yX1_longProduct (Cond.code yX1_longProduct cX1_longProduct 3 (some .long) :: lw_all) (kr 0) [.int v0, .int v1, .int (b01 v2)] (x_ArmSet_longProduct v0 v1 v2) := by
  refine kp_in_l (q := x_ArmSet_longProduct v0 v1 v2) (by decide) rfl (Nat.le_of_ble_eq_true rfl) ?_
  intro p e s m args below meth c Q ls hx hb hml hown hts hl hret
  have hts := fun w h => hts w (List.mem_cons_of_mem _ h)
  have hl : lv_has ls 3 [(0, .int v0), (1, .int v1), (2, .int (b01 v2))] := hl
  have hf : x_ArmSet_longProduct v0 v1 v2 = x_ArmSet_longProduct v0 v1 v2 := rfl
  refine lv_iload_n hx hb dX1_longProduct_0 rfl (lv_at hl 2 rfl) ?_
  refine kz_eq (tgt := 12) hx hb dX1_longProduct_1 (by decide) (fun h_2 => ?_) (fun h_2 => ?_)
  · have hf := hf.trans (if_neg h_2)
    refine lv_iload_n hx hb dX1_longProduct_12 rfl (lv_at hl 0 rfl) ?_
    refine lv_i2l (v := v0.toInt64) hx hb dX1_longProduct_13 rfl ?_
    refine lv_ldc2 (v := 4294967295) hx hb hown (hts _ kw_601) dX1_longProduct_14 ?_
    refine lv_land hx hb dX1_longProduct_17 ?_
    refine lv_iload_n hx hb dX1_longProduct_18 rfl (lv_at hl 1 rfl) ?_
    refine lv_i2l (v := v1.toInt64) hx hb dX1_longProduct_19 rfl ?_
    refine lv_ldc2 (v := 4294967295) hx hb hown (hts _ kw_601) dX1_longProduct_20 ?_
    refine lv_land hx hb dX1_longProduct_23 ?_
    refine lv_lmul hx hb dX1_longProduct_24 ?_
    exact hret ((v0.toInt64 &&& 4294967295) * (v1.toInt64 &&& 4294967295)) _ _ hf dX1_longProduct_25
  · have hf := hf.trans (if_pos h_2)
    refine lv_iload_n hx hb dX1_longProduct_4 rfl (lv_at hl 0 rfl) ?_
    refine lv_i2l (v := v0.toInt64) hx hb dX1_longProduct_5 rfl ?_
    refine lv_iload_n hx hb dX1_longProduct_6 rfl (lv_at hl 1 rfl) ?_
    refine lv_i2l (v := v1.toInt64) hx hb dX1_longProduct_7 rfl ?_
    refine lv_lmul hx hb dX1_longProduct_8 ?_
    refine lv_goto (tgt := 25) hx hb dX1_longProduct_9 (by decide) ?_
    exact hret (v0.toInt64 * v1.toInt64) _ _ hf dX1_longProduct_25
def x_ArmSet_pair (v0 : Int32) (v1 : Int32) : Int64 := (lsl v0.toInt64 32) ||| (v1.toInt64 &&& 4294967295)
set_option maxRecDepth 20000 in
set_option maxHeartbeats 4000000 in
theorem cx_ArmSet_pair (l : Launch) (v0 : Int32) (v1 : Int32) : KPl l yX1_pair (Cond.code yX1_pair cX1_pair 2 (some .long) :: lw_all) (kr 0) [.int v0, .int v1] (x_ArmSet_pair v0 v1) := by
  refine kp_in_l (q := x_ArmSet_pair v0 v1) (by decide) rfl (Nat.le_of_ble_eq_true rfl) ?_
  intro p e s m args below meth c Q ls hx hb hml hown hts hl hret
  have hts := fun w h => hts w (List.mem_cons_of_mem _ h)
  have hl : lv_has ls 2 [(0, .int v0), (1, .int v1)] := hl
  have hf : x_ArmSet_pair v0 v1 = x_ArmSet_pair v0 v1 := rfl
  refine lv_iload_n hx hb dX1_pair_0 rfl (lv_at hl 0 rfl) ?_
  refine lv_i2l (v := v0.toInt64) hx hb dX1_pair_1 rfl ?_
  refine lv_bipush (v := 32) hx hb dX1_pair_2 (by decide) ?_
  refine lv_lshl (v := lsl v0.toInt64 32) hx hb dX1_pair_4 rfl ?_
  refine lv_iload_n hx hb dX1_pair_5 rfl (lv_at hl 1 rfl) ?_
  refine lv_i2l (v := v1.toInt64) hx hb dX1_pair_6 rfl ?_
  refine lv_ldc2 (v := 4294967295) hx hb hown (hts _ kw_601) dX1_pair_7 ?_
  refine lv_land hx hb dX1_pair_10 ?_
  refine lv_lor hx hb dX1_pair_11 ?_
  exact hret ((lsl v0.toInt64 32) ||| (v1.toInt64 &&& 4294967295)) _ _ hf dX1_pair_12
def x_ArmSet_multiply_246 (σ : CS) (v0 : Int32) (n9_246 : Int64) (τ_246 : CS) : Int32 × CS := (if (x_Bits_on v0 20) = true then ((-1), x_Alu_flagsOfProduct τ_246 n9_246) else ((-1), τ_246))
def x_ArmSet_multiply_228 (σ : CS) (v0 : Int32) (k0_228 : Int32) : Int32 × CS := x_ArmSet_multiply_246 σ v0 ((((x_Registers_read σ (x_Bits_four v0 0)) * (x_Registers_read σ (x_Bits_four v0 8))) + k0_228).toInt64) (x_Registers_write σ (x_Bits_four v0 16) (((x_Registers_read σ (x_Bits_four v0 0)) * (x_Registers_read σ (x_Bits_four v0 8))) + k0_228))
def x_ArmSet_multiply_161 (σ : CS) (v0 : Int32) (k0_161 : Int64) : Int32 × CS := x_ArmSet_multiply_246 σ v0 ((x_ArmSet_longProduct (x_Registers_read σ (x_Bits_four v0 0)) (x_Registers_read σ (x_Bits_four v0 8)) (x_Bits_on v0 22)) + k0_161) (x_Registers_write (x_Registers_write σ (x_Bits_four v0 12) (((x_ArmSet_longProduct (x_Registers_read σ (x_Bits_four v0 0)) (x_Registers_read σ (x_Bits_four v0 8)) (x_Bits_on v0 22)) + k0_161).toInt32)) (x_Bits_four v0 16) ((lu ((x_ArmSet_longProduct (x_Registers_read σ (x_Bits_four v0 0)) (x_Registers_read σ (x_Bits_four v0 8)) (x_Bits_on v0 22)) + k0_161) 32).toInt32))
def x_ArmSet_multiply_93 (σ : CS) (v0 : Int32) : Int32 × CS := (if (x_Bits_on v0 23) = true then (if (x_Bits_on v0 21) = true then x_ArmSet_multiply_161 σ v0 (x_ArmSet_pair (x_Registers_read σ (x_Bits_four v0 16)) (x_Registers_read σ (x_Bits_four v0 12))) else x_ArmSet_multiply_161 σ v0 0) else (if (x_Bits_on v0 21) = true then x_ArmSet_multiply_228 σ v0 (x_Registers_read σ (x_Bits_four v0 12)) else x_ArmSet_multiply_228 σ v0 0))
def x_ArmSet_multiply (σ : CS) (v0 : Int32) : Int32 × CS := (if (x_Bits_four v0 16) = 15 then (0, σ) else (if (x_Bits_four v0 12) = 15 then (0, σ) else (if (x_Bits_four v0 8) = 15 then (0, σ) else (if (x_Bits_four v0 0) = 15 then (0, σ) else (if (x_Bits_on v0 23) = true then (if (x_Bits_four v0 12) = (x_Bits_four v0 16) then (0, σ) else x_ArmSet_multiply_93 σ v0) else (if (x_Bits_on v0 22) = true then (0, σ) else x_ArmSet_multiply_93 σ v0))))))
set_option maxRecDepth 20000 in
set_option maxHeartbeats 4000000 in
theorem cx_ArmSet_multiply (l : Launch) (G : KG) (σ : CS) (v0 : Int32) : KB l yX1_multiply (Cond.code yX1_multiply cX1_multiply 12 (some .int) :: lw_all) (kr 3) (gD G) vwCl (gT G) (cZ G) (cW G) [.ref (gA G 7), .int v0] σ (x_ArmSet_multiply σ v0) := by
  refine kc_in_b (q := x_ArmSet_multiply σ v0) (by decide) rfl (Nat.le_of_ble_eq_true rfl) ?_
  intro p e s m args below meth c A Q ls hx hb hml hown hts hK hP hD hA hS hZ hl hret
  have hts := fun w h => hts w (List.mem_cons_of_mem _ h)
  have hl : lv_has ls 12 [(0, .ref (gA G 7)), (1, .int v0)] := hl
  have hf : x_ArmSet_multiply σ v0 = x_ArmSet_multiply σ v0 := rfl
  have J246 : ∀ (n9_246 : Int64) (τ_246 : CS) (H : Heap) (locs : List Loc) (ls : Array Slot), va_P (gD G) vwCl (cW G (τ_246)) H → va_D A (cW G (τ_246)) → va_S A s.heap H locs → lv_has ls 12 [(0, .ref (gA G 7)), (1, .int v0), (9, .long n9_246)] → x_ArmSet_multiply σ v0 = x_ArmSet_multiply_246 σ v0 n9_246 τ_246 → W p l e (kr 3) s m args below meth c H locs 0 0 Q (F0 m 246 ls []) := by
    intro n9_246 τ_246 H locs ls hP hD hS hl hf
    refine lv_iload_n hx hb dX1_multiply_246 rfl (lv_at hl 1 rfl) ?_
    refine lv_bipush (v := 20) hx hb dX1_multiply_247 (by decide) ?_
    refine kp_Si (rest := []) (cx_Bits_on l v0 20) ⟨hx, hb, hml, hown, hts⟩ (va_cwS 2 hts (gi_S kw_597 kw_356 kw_346 kw_357) rfl rfl rfl mdX2_on ⟨by decide, by decide⟩) rfl hl.1 rfl (Nat.le_of_ble_eq_true rfl) dX1_multiply_249 ⟨Nat.zero_le _, Nat.zero_le _⟩ ?_
    refine kz_eq (tgt := 264) hx hb dX1_multiply_252 (by decide) (fun h_12 => ?_) (fun h_12 => ?_)
    · have hf := hf.trans (if_neg h_12)
      refine lv_iconst (v := (-1)) hx hb dX1_multiply_264 (by decide) ?_
      exact hret (-1) τ_246 _ _ _ _ hf hP hD hS dX1_multiply_265
    · have hf := hf.trans (if_pos h_12)
      refine lv_aload_n hx hb dX1_multiply_255 rfl (lv_at hl 0 rfl) ?_
      refine va_get (D := gD G) (ci := 1) hx hb hts ku_1 hown hK hP 7 rfl rfl 2 (by decide) (hts _ kw_91) (fun _ h9 => h9) rfl dX1_multiply_256 ?_
      refine lv_lload hx hb dX1_multiply_259 (lv_at hl 2 rfl) ?_
      refine kc_Vv (rest := []) (cx_Alu_flagsOfProduct l G τ_246 n9_246) ⟨hx, hb, hml, hown, hts⟩ (cwV 1 hts (gi_V kw_606 kw_485 kw_486 kw_52 kw_487) rfl rfl rfl ⟨rfl, mdX0_flagsOfProduct⟩ ⟨by decide, by decide⟩) (va_recv hK hP (ci := 0) (q0 := 11) rfl rfl) cZ_ok hK hP hD hS hA hZ rfl hl.1 rfl (Nat.le_of_ble_eq_true rfl) dX1_multiply_261 ⟨Nat.zero_le _, Nat.zero_le _⟩ (fun H locs hP hD hS => ?_)
      refine lv_iconst (v := (-1)) hx hb dX1_multiply_264 (by decide) ?_
      exact hret (-1) (x_Alu_flagsOfProduct τ_246 n9_246) _ _ _ _ hf hP hD hS dX1_multiply_265
  have J228 : ∀ (k0_228 : Int32) (H : Heap) (locs : List Loc) (ls : Array Slot), va_P (gD G) vwCl (cW G (σ)) H → va_D A (cW G (σ)) → va_S A s.heap H locs → lv_has ls 12 [(0, .ref (gA G 7)), (1, .int v0), (2, .int (x_Bits_four v0 16))] → x_ArmSet_multiply σ v0 = x_ArmSet_multiply_228 σ v0 k0_228 → W p l e (kr 3) s m args below meth c H locs 0 0 Q (F0 m 228 ls [.int k0_228, .int ((x_Registers_read σ (x_Bits_four v0 0)) * (x_Registers_read σ (x_Bits_four v0 8)))]) := by
    intro k0_228 H locs ls hP hD hS hl hf
    refine lv_iadd hx hb dX1_multiply_228 ?_
    refine lv_istore (lv' := [(11, .int (((x_Registers_read σ (x_Bits_four v0 0)) * (x_Registers_read σ (x_Bits_four v0 8))) + k0_228)), (0, .ref (gA G 7)), (1, .int v0), (2, .int (x_Bits_four v0 16))]) hx hb dX1_multiply_229 hl (by decide) rfl (fun ls hl => ?_)
    refine lv_aload_n hx hb dX1_multiply_231 rfl (lv_at hl 1 rfl) ?_
    refine va_get (D := gD G) (ci := 1) hx hb hts ku_1 hown hK hP 7 rfl rfl 0 (by decide) (hts _ kw_89) (fun _ h9 => h9) rfl dX1_multiply_232 ?_
    refine lv_iload_n hx hb dX1_multiply_235 rfl (lv_at hl 3 rfl) ?_
    refine lv_iload hx hb dX1_multiply_236 (lv_at hl 0 rfl) ?_
    refine kc_Vv (rest := []) (cx_Registers_write l G σ (x_Bits_four v0 16) (((x_Registers_read σ (x_Bits_four v0 0)) * (x_Registers_read σ (x_Bits_four v0 8))) + k0_228) (bt4_16 _ _)) ⟨hx, hb, hml, hown, hts⟩ (cwV 2 hts (gi_V kw_605 kw_403 kw_404 kw_19 kw_405) rfl rfl rfl ⟨rfl, mdX6_write⟩ ⟨by decide, by decide⟩) (va_recv hK hP (ci := 4) (q0 := 3) rfl rfl) cZ_ok hK hP hD hS hA hZ rfl hl.1 rfl (Nat.le_of_ble_eq_true rfl) dX1_multiply_238 ⟨Nat.zero_le _, Nat.zero_le _⟩ (fun H locs hP hD hS => ?_)
    refine lv_iload hx hb dX1_multiply_241 (lv_at hl 0 rfl) ?_
    refine lv_i2l (v := (((x_Registers_read σ (x_Bits_four v0 0)) * (x_Registers_read σ (x_Bits_four v0 8))) + k0_228).toInt64) hx hb dX1_multiply_243 rfl ?_
    refine lv_lstore (lv' := [(9, .long ((((x_Registers_read σ (x_Bits_four v0 0)) * (x_Registers_read σ (x_Bits_four v0 8))) + k0_228).toInt64)), (11, .int (((x_Registers_read σ (x_Bits_four v0 0)) * (x_Registers_read σ (x_Bits_four v0 8))) + k0_228)), (0, .ref (gA G 7)), (1, .int v0), (2, .int (x_Bits_four v0 16))]) hx hb dX1_multiply_244 hl (by decide) rfl (fun ls hl => ?_)
    exact J246 ((((x_Registers_read σ (x_Bits_four v0 0)) * (x_Registers_read σ (x_Bits_four v0 8))) + k0_228).toInt64) (x_Registers_write σ (x_Bits_four v0 16) (((x_Registers_read σ (x_Bits_four v0 0)) * (x_Registers_read σ (x_Bits_four v0 8))) + k0_228)) _ _ _ hP hD hS (lv_sub hl [2, 3, 0] rfl) hf
  have J161 : ∀ (k0_161 : Int64) (H : Heap) (locs : List Loc) (ls : Array Slot), va_P (gD G) vwCl (cW G (σ)) H → va_D A (cW G (σ)) → va_S A s.heap H locs → lv_has ls 12 [(0, .ref (gA G 7)), (1, .int v0), (2, .int (x_Bits_four v0 16)), (3, .int (x_Bits_four v0 12))] → x_ArmSet_multiply σ v0 = x_ArmSet_multiply_161 σ v0 k0_161 → W p l e (kr 3) s m args below meth c H locs 0 0 Q (F0 m 161 ls [.long k0_161, .long (x_ArmSet_longProduct (x_Registers_read σ (x_Bits_four v0 0)) (x_Registers_read σ (x_Bits_four v0 8)) (x_Bits_on v0 22))]) := by
    intro k0_161 H locs ls hP hD hS hl hf
    refine lv_ladd hx hb dX1_multiply_161 ?_
    refine lv_lstore (lv' := [(9, .long ((x_ArmSet_longProduct (x_Registers_read σ (x_Bits_four v0 0)) (x_Registers_read σ (x_Bits_four v0 8)) (x_Bits_on v0 22)) + k0_161)), (0, .ref (gA G 7)), (1, .int v0), (2, .int (x_Bits_four v0 16)), (3, .int (x_Bits_four v0 12))]) hx hb dX1_multiply_162 hl (by decide) rfl (fun ls hl => ?_)
    refine lv_aload_n hx hb dX1_multiply_164 rfl (lv_at hl 1 rfl) ?_
    refine va_get (D := gD G) (ci := 1) hx hb hts ku_1 hown hK hP 7 rfl rfl 0 (by decide) (hts _ kw_89) (fun _ h9 => h9) rfl dX1_multiply_165 ?_
    refine lv_iload_n hx hb dX1_multiply_168 rfl (lv_at hl 4 rfl) ?_
    refine lv_lload hx hb dX1_multiply_169 (lv_at hl 0 rfl) ?_
    refine lv_l2i (v := ((x_ArmSet_longProduct (x_Registers_read σ (x_Bits_four v0 0)) (x_Registers_read σ (x_Bits_four v0 8)) (x_Bits_on v0 22)) + k0_161).toInt32) hx hb dX1_multiply_171 rfl ?_
    refine kc_Vv (rest := []) (cx_Registers_write l G σ (x_Bits_four v0 12) (((x_ArmSet_longProduct (x_Registers_read σ (x_Bits_four v0 0)) (x_Registers_read σ (x_Bits_four v0 8)) (x_Bits_on v0 22)) + k0_161).toInt32) (bt4_16 _ _)) ⟨hx, hb, hml, hown, hts⟩ (cwV 2 hts (gi_V kw_605 kw_403 kw_404 kw_19 kw_405) rfl rfl rfl ⟨rfl, mdX6_write⟩ ⟨by decide, by decide⟩) (va_recv hK hP (ci := 4) (q0 := 3) rfl rfl) cZ_ok hK hP hD hS hA hZ rfl hl.1 rfl (Nat.le_of_ble_eq_true rfl) dX1_multiply_172 ⟨Nat.zero_le _, Nat.zero_le _⟩ (fun H locs hP hD hS => ?_)
    refine lv_aload_n hx hb dX1_multiply_175 rfl (lv_at hl 1 rfl) ?_
    refine va_get (D := gD G) (ci := 1) hx hb hts ku_1 hown hK hP 7 rfl rfl 0 (by decide) (hts _ kw_89) (fun _ h9 => h9) rfl dX1_multiply_176 ?_
    refine lv_iload_n hx hb dX1_multiply_179 rfl (lv_at hl 3 rfl) ?_
    refine lv_lload hx hb dX1_multiply_180 (lv_at hl 0 rfl) ?_
    refine lv_bipush (v := 32) hx hb dX1_multiply_182 (by decide) ?_
    refine lv_lushr (v := lu ((x_ArmSet_longProduct (x_Registers_read σ (x_Bits_four v0 0)) (x_Registers_read σ (x_Bits_four v0 8)) (x_Bits_on v0 22)) + k0_161) 32) hx hb dX1_multiply_184 rfl ?_
    refine lv_l2i (v := (lu ((x_ArmSet_longProduct (x_Registers_read σ (x_Bits_four v0 0)) (x_Registers_read σ (x_Bits_four v0 8)) (x_Bits_on v0 22)) + k0_161) 32).toInt32) hx hb dX1_multiply_185 rfl ?_
    refine kc_Vv (rest := []) (cx_Registers_write l G (x_Registers_write σ (x_Bits_four v0 12) (((x_ArmSet_longProduct (x_Registers_read σ (x_Bits_four v0 0)) (x_Registers_read σ (x_Bits_four v0 8)) (x_Bits_on v0 22)) + k0_161).toInt32)) (x_Bits_four v0 16) ((lu ((x_ArmSet_longProduct (x_Registers_read σ (x_Bits_four v0 0)) (x_Registers_read σ (x_Bits_four v0 8)) (x_Bits_on v0 22)) + k0_161) 32).toInt32) (bt4_16 _ _)) ⟨hx, hb, hml, hown, hts⟩ (cwV 2 hts (gi_V kw_605 kw_403 kw_404 kw_19 kw_405) rfl rfl rfl ⟨rfl, mdX6_write⟩ ⟨by decide, by decide⟩) (va_recv hK hP (ci := 4) (q0 := 3) rfl rfl) cZ_ok hK hP hD hS hA hZ rfl hl.1 rfl (Nat.le_of_ble_eq_true rfl) dX1_multiply_186 ⟨Nat.zero_le _, Nat.zero_le _⟩ (fun H locs hP hD hS => ?_)
    refine lv_goto (tgt := 246) hx hb dX1_multiply_189 (by decide) ?_
    exact J246 ((x_ArmSet_longProduct (x_Registers_read σ (x_Bits_four v0 0)) (x_Registers_read σ (x_Bits_four v0 8)) (x_Bits_on v0 22)) + k0_161) (x_Registers_write (x_Registers_write σ (x_Bits_four v0 12) (((x_ArmSet_longProduct (x_Registers_read σ (x_Bits_four v0 0)) (x_Registers_read σ (x_Bits_four v0 8)) (x_Bits_on v0 22)) + k0_161).toInt32)) (x_Bits_four v0 16) ((lu ((x_ArmSet_longProduct (x_Registers_read σ (x_Bits_four v0 0)) (x_Registers_read σ (x_Bits_four v0 8)) (x_Bits_on v0 22)) + k0_161) 32).toInt32)) _ _ _ hP hD hS (lv_sub hl [1, 2, 0] rfl) hf
  have J93 : ∀ (H : Heap) (locs : List Loc) (ls : Array Slot), va_P (gD G) vwCl (cW G (σ)) H → va_D A (cW G (σ)) → va_S A s.heap H locs → lv_has ls 12 [(0, .ref (gA G 7)), (1, .int v0), (2, .int (x_Bits_four v0 16)), (3, .int (x_Bits_four v0 12)), (4, .int (x_Bits_four v0 8)), (5, .int (x_Bits_four v0 0)), (6, .int (b01 (x_Bits_on v0 23))), (7, .int (b01 (x_Bits_on v0 22)))] → x_ArmSet_multiply σ v0 = x_ArmSet_multiply_93 σ v0 → W p l e (kr 3) s m args below meth c H locs 0 0 Q (F0 m 93 ls []) := by
    intro H locs ls hP hD hS hl hf
    refine lv_iload_n hx hb dX1_multiply_93 rfl (lv_at hl 1 rfl) ?_
    refine lv_bipush (v := 21) hx hb dX1_multiply_94 (by decide) ?_
    refine kp_Si (rest := []) (cx_Bits_on l v0 21) ⟨hx, hb, hml, hown, hts⟩ (va_cwS 2 hts (gi_S kw_597 kw_356 kw_346 kw_357) rfl rfl rfl mdX2_on ⟨by decide, by decide⟩) rfl hl.1 rfl (Nat.le_of_ble_eq_true rfl) dX1_multiply_96 ⟨Nat.zero_le _, Nat.zero_le _⟩ ?_
    refine lv_istore (lv' := [(8, .int (b01 (x_Bits_on v0 21))), (0, .ref (gA G 7)), (1, .int v0), (2, .int (x_Bits_four v0 16)), (3, .int (x_Bits_four v0 12)), (4, .int (x_Bits_four v0 8)), (5, .int (x_Bits_four v0 0)), (6, .int (b01 (x_Bits_on v0 23))), (7, .int (b01 (x_Bits_on v0 22)))]) hx hb dX1_multiply_99 hl (by decide) rfl (fun ls hl => ?_)
    refine lv_iload hx hb dX1_multiply_101 (lv_at hl 7 rfl) ?_
    refine kz_eq (tgt := 192) hx hb dX1_multiply_103 (by decide) (fun h_13 => ?_) (fun h_13 => ?_)
    · have hf := hf.trans (if_neg h_13)
      refine lv_aload_n hx hb dX1_multiply_192 rfl (lv_at hl 1 rfl) ?_
      refine va_get (D := gD G) (ci := 1) hx hb hts ku_1 hown hK hP 7 rfl rfl 0 (by decide) (hts _ kw_89) (fun _ h9 => h9) rfl dX1_multiply_193 ?_
      refine lv_iload hx hb dX1_multiply_196 (lv_at hl 6 rfl) ?_
      refine kc_Vr (rest := []) (cx_Registers_read l G σ (x_Bits_four v0 0) (bt4_16 _ _)) ⟨hx, hb, hml, hown, hts⟩ (cwV 1 hts (gi_V kw_591 kw_359 kw_360 kw_19 kw_361) rfl rfl rfl ⟨rfl, mdX6_read⟩ ⟨by decide, by decide⟩) (va_recv hK hP (ci := 4) (q0 := 3) rfl rfl) cZ_ok hK hP hD hS hA hZ rfl hl.1 rfl (Nat.le_of_ble_eq_true rfl) dX1_multiply_198 ⟨Nat.zero_le _, Nat.zero_le _⟩ (fun H locs hP hD hS => ?_)
      refine lv_aload_n hx hb dX1_multiply_201 rfl (lv_at hl 1 rfl) ?_
      refine va_get (D := gD G) (ci := 1) hx hb hts ku_1 hown hK hP 7 rfl rfl 0 (by decide) (hts _ kw_89) (fun _ h9 => h9) rfl dX1_multiply_202 ?_
      refine lv_iload hx hb dX1_multiply_205 (lv_at hl 5 rfl) ?_
      refine kc_Vr (rest := [.int (x_Registers_read σ (x_Bits_four v0 0))]) (cx_Registers_read l G σ (x_Bits_four v0 8) (bt4_16 _ _)) ⟨hx, hb, hml, hown, hts⟩ (cwV 1 hts (gi_V kw_591 kw_359 kw_360 kw_19 kw_361) rfl rfl rfl ⟨rfl, mdX6_read⟩ ⟨by decide, by decide⟩) (va_recv hK hP (ci := 4) (q0 := 3) rfl rfl) cZ_ok hK hP hD hS hA hZ rfl hl.1 rfl (Nat.le_of_ble_eq_true rfl) dX1_multiply_207 ⟨Nat.zero_le _, Nat.zero_le _⟩ (fun H locs hP hD hS => ?_)
      refine lv_imul hx hb dX1_multiply_210 ?_
      refine lv_iload hx hb dX1_multiply_211 (lv_at hl 0 rfl) ?_
      refine kz_eq (tgt := 227) hx hb dX1_multiply_213 (by decide) (fun h_14 => ?_) (fun h_14 => ?_)
      · have hf := hf.trans (if_neg h_14)
        refine lv_iconst (v := 0) hx hb dX1_multiply_227 (by decide) ?_
        exact J228 0 _ _ _ hP hD hS (lv_sub hl [1, 2, 3] rfl) hf
      · have hf := hf.trans (if_pos h_14)
        refine lv_aload_n hx hb dX1_multiply_216 rfl (lv_at hl 1 rfl) ?_
        refine va_get (D := gD G) (ci := 1) hx hb hts ku_1 hown hK hP 7 rfl rfl 0 (by decide) (hts _ kw_89) (fun _ h9 => h9) rfl dX1_multiply_217 ?_
        refine lv_iload_n hx hb dX1_multiply_220 rfl (lv_at hl 4 rfl) ?_
        refine kc_Vr (rest := [.int ((x_Registers_read σ (x_Bits_four v0 0)) * (x_Registers_read σ (x_Bits_four v0 8)))]) (cx_Registers_read l G σ (x_Bits_four v0 12) (bt4_16 _ _)) ⟨hx, hb, hml, hown, hts⟩ (cwV 1 hts (gi_V kw_591 kw_359 kw_360 kw_19 kw_361) rfl rfl rfl ⟨rfl, mdX6_read⟩ ⟨by decide, by decide⟩) (va_recv hK hP (ci := 4) (q0 := 3) rfl rfl) cZ_ok hK hP hD hS hA hZ rfl hl.1 rfl (Nat.le_of_ble_eq_true rfl) dX1_multiply_221 ⟨Nat.zero_le _, Nat.zero_le _⟩ (fun H locs hP hD hS => ?_)
        refine lv_goto (tgt := 228) hx hb dX1_multiply_224 (by decide) ?_
        exact J228 (x_Registers_read σ (x_Bits_four v0 12)) _ _ _ hP hD hS (lv_sub hl [1, 2, 3] rfl) hf
    · have hf := hf.trans (if_pos h_13)
      refine lv_aload_n hx hb dX1_multiply_106 rfl (lv_at hl 1 rfl) ?_
      refine va_get (D := gD G) (ci := 1) hx hb hts ku_1 hown hK hP 7 rfl rfl 0 (by decide) (hts _ kw_89) (fun _ h9 => h9) rfl dX1_multiply_107 ?_
      refine lv_iload hx hb dX1_multiply_110 (lv_at hl 6 rfl) ?_
      refine kc_Vr (rest := []) (cx_Registers_read l G σ (x_Bits_four v0 0) (bt4_16 _ _)) ⟨hx, hb, hml, hown, hts⟩ (cwV 1 hts (gi_V kw_591 kw_359 kw_360 kw_19 kw_361) rfl rfl rfl ⟨rfl, mdX6_read⟩ ⟨by decide, by decide⟩) (va_recv hK hP (ci := 4) (q0 := 3) rfl rfl) cZ_ok hK hP hD hS hA hZ rfl hl.1 rfl (Nat.le_of_ble_eq_true rfl) dX1_multiply_112 ⟨Nat.zero_le _, Nat.zero_le _⟩ (fun H locs hP hD hS => ?_)
      refine lv_aload_n hx hb dX1_multiply_115 rfl (lv_at hl 1 rfl) ?_
      refine va_get (D := gD G) (ci := 1) hx hb hts ku_1 hown hK hP 7 rfl rfl 0 (by decide) (hts _ kw_89) (fun _ h9 => h9) rfl dX1_multiply_116 ?_
      refine lv_iload hx hb dX1_multiply_119 (lv_at hl 5 rfl) ?_
      refine kc_Vr (rest := [.int (x_Registers_read σ (x_Bits_four v0 0))]) (cx_Registers_read l G σ (x_Bits_four v0 8) (bt4_16 _ _)) ⟨hx, hb, hml, hown, hts⟩ (cwV 1 hts (gi_V kw_591 kw_359 kw_360 kw_19 kw_361) rfl rfl rfl ⟨rfl, mdX6_read⟩ ⟨by decide, by decide⟩) (va_recv hK hP (ci := 4) (q0 := 3) rfl rfl) cZ_ok hK hP hD hS hA hZ rfl hl.1 rfl (Nat.le_of_ble_eq_true rfl) dX1_multiply_121 ⟨Nat.zero_le _, Nat.zero_le _⟩ (fun H locs hP hD hS => ?_)
      refine lv_iload hx hb dX1_multiply_124 (lv_at hl 8 rfl) ?_
      refine kp_Sl (rest := []) (cx_ArmSet_longProduct l (x_Registers_read σ (x_Bits_four v0 0)) (x_Registers_read σ (x_Bits_four v0 8)) (x_Bits_on v0 22)) ⟨hx, hb, hml, hown, hts⟩ (va_cwS 3 hts (gi_S kw_598 kw_599 kw_58 kw_600) rfl rfl rfl mdX1_longProduct ⟨by decide, by decide⟩) rfl hl.1 rfl (Nat.le_of_ble_eq_true rfl) dX1_multiply_126 ⟨Nat.zero_le _, Nat.zero_le _⟩ ?_
      refine lv_lstore (lv' := [(9, .long (x_ArmSet_longProduct (x_Registers_read σ (x_Bits_four v0 0)) (x_Registers_read σ (x_Bits_four v0 8)) (x_Bits_on v0 22))), (8, .int (b01 (x_Bits_on v0 21))), (0, .ref (gA G 7)), (1, .int v0), (2, .int (x_Bits_four v0 16)), (3, .int (x_Bits_four v0 12)), (4, .int (x_Bits_four v0 8)), (5, .int (x_Bits_four v0 0)), (6, .int (b01 (x_Bits_on v0 23))), (7, .int (b01 (x_Bits_on v0 22)))]) hx hb dX1_multiply_129 hl (by decide) rfl (fun ls hl => ?_)
      refine lv_lload hx hb dX1_multiply_131 (lv_at hl 0 rfl) ?_
      refine lv_iload hx hb dX1_multiply_133 (lv_at hl 1 rfl) ?_
      refine kz_eq (tgt := 160) hx hb dX1_multiply_135 (by decide) (fun h_15 => ?_) (fun h_15 => ?_)
      · have hf := hf.trans (if_neg h_15)
        refine lv_lconst (v := 0) hx hb dX1_multiply_160 (by decide) ?_
        exact J161 0 _ _ _ hP hD hS (lv_sub hl [2, 3, 4, 5] rfl) hf
      · have hf := hf.trans (if_pos h_15)
        refine lv_aload_n hx hb dX1_multiply_138 rfl (lv_at hl 2 rfl) ?_
        refine va_get (D := gD G) (ci := 1) hx hb hts ku_1 hown hK hP 7 rfl rfl 0 (by decide) (hts _ kw_89) (fun _ h9 => h9) rfl dX1_multiply_139 ?_
        refine lv_iload_n hx hb dX1_multiply_142 rfl (lv_at hl 4 rfl) ?_
        refine kc_Vr (rest := [.long (x_ArmSet_longProduct (x_Registers_read σ (x_Bits_four v0 0)) (x_Registers_read σ (x_Bits_four v0 8)) (x_Bits_on v0 22))]) (cx_Registers_read l G σ (x_Bits_four v0 16) (bt4_16 _ _)) ⟨hx, hb, hml, hown, hts⟩ (cwV 1 hts (gi_V kw_591 kw_359 kw_360 kw_19 kw_361) rfl rfl rfl ⟨rfl, mdX6_read⟩ ⟨by decide, by decide⟩) (va_recv hK hP (ci := 4) (q0 := 3) rfl rfl) cZ_ok hK hP hD hS hA hZ rfl hl.1 rfl (Nat.le_of_ble_eq_true rfl) dX1_multiply_143 ⟨Nat.zero_le _, Nat.zero_le _⟩ (fun H locs hP hD hS => ?_)
        refine lv_aload_n hx hb dX1_multiply_146 rfl (lv_at hl 2 rfl) ?_
        refine va_get (D := gD G) (ci := 1) hx hb hts ku_1 hown hK hP 7 rfl rfl 0 (by decide) (hts _ kw_89) (fun _ h9 => h9) rfl dX1_multiply_147 ?_
        refine lv_iload_n hx hb dX1_multiply_150 rfl (lv_at hl 5 rfl) ?_
        refine kc_Vr (rest := [.int (x_Registers_read σ (x_Bits_four v0 16)), .long (x_ArmSet_longProduct (x_Registers_read σ (x_Bits_four v0 0)) (x_Registers_read σ (x_Bits_four v0 8)) (x_Bits_on v0 22))]) (cx_Registers_read l G σ (x_Bits_four v0 12) (bt4_16 _ _)) ⟨hx, hb, hml, hown, hts⟩ (cwV 1 hts (gi_V kw_591 kw_359 kw_360 kw_19 kw_361) rfl rfl rfl ⟨rfl, mdX6_read⟩ ⟨by decide, by decide⟩) (va_recv hK hP (ci := 4) (q0 := 3) rfl rfl) cZ_ok hK hP hD hS hA hZ rfl hl.1 rfl (Nat.le_of_ble_eq_true rfl) dX1_multiply_151 ⟨Nat.zero_le _, Nat.zero_le _⟩ (fun H locs hP hD hS => ?_)
        refine kp_Sl (rest := [.long (x_ArmSet_longProduct (x_Registers_read σ (x_Bits_four v0 0)) (x_Registers_read σ (x_Bits_four v0 8)) (x_Bits_on v0 22))]) (cx_ArmSet_pair l (x_Registers_read σ (x_Bits_four v0 16)) (x_Registers_read σ (x_Bits_four v0 12))) ⟨hx, hb, hml, hown, hts⟩ (va_cwS 2 hts (gi_S kw_602 kw_603 kw_58 kw_604) rfl rfl rfl mdX1_pair ⟨by decide, by decide⟩) rfl hl.1 rfl (Nat.le_of_ble_eq_true rfl) dX1_multiply_154 ⟨Nat.zero_le _, Nat.zero_le _⟩ ?_
        refine lv_goto (tgt := 161) hx hb dX1_multiply_157 (by decide) ?_
        exact J161 (x_ArmSet_pair (x_Registers_read σ (x_Bits_four v0 16)) (x_Registers_read σ (x_Bits_four v0 12))) _ _ _ hP hD hS (lv_sub hl [2, 3, 4, 5] rfl) hf
  refine lv_iload_n hx hb dX1_multiply_0 rfl (lv_at hl 1 rfl) ?_
  refine lv_bipush (v := 16) hx hb dX1_multiply_1 (by decide) ?_
  refine kp_Si (rest := []) (cx_Bits_four l v0 16) ⟨hx, hb, hml, hown, hts⟩ (va_cwS 2 hts (gi_S kw_590 kw_345 kw_346 kw_347) rfl rfl rfl mdX2_four ⟨by decide, by decide⟩) rfl hl.1 rfl (Nat.le_of_ble_eq_true rfl) dX1_multiply_3 ⟨Nat.zero_le _, Nat.zero_le _⟩ ?_
  refine lv_istore_n (lv' := [(2, .int (x_Bits_four v0 16)), (0, .ref (gA G 7)), (1, .int v0)]) hx hb dX1_multiply_6 rfl hl (by decide) rfl (fun ls hl => ?_)
  refine lv_iload_n hx hb dX1_multiply_7 rfl (lv_at hl 2 rfl) ?_
  refine lv_bipush (v := 12) hx hb dX1_multiply_8 (by decide) ?_
  refine kp_Si (rest := []) (cx_Bits_four l v0 12) ⟨hx, hb, hml, hown, hts⟩ (va_cwS 2 hts (gi_S kw_590 kw_345 kw_346 kw_347) rfl rfl rfl mdX2_four ⟨by decide, by decide⟩) rfl hl.1 rfl (Nat.le_of_ble_eq_true rfl) dX1_multiply_10 ⟨Nat.zero_le _, Nat.zero_le _⟩ ?_
  refine lv_istore_n (lv' := [(3, .int (x_Bits_four v0 12)), (2, .int (x_Bits_four v0 16)), (0, .ref (gA G 7)), (1, .int v0)]) hx hb dX1_multiply_13 rfl hl (by decide) rfl (fun ls hl => ?_)
  refine lv_iload_n hx hb dX1_multiply_14 rfl (lv_at hl 3 rfl) ?_
  refine lv_bipush (v := 8) hx hb dX1_multiply_15 (by decide) ?_
  refine kp_Si (rest := []) (cx_Bits_four l v0 8) ⟨hx, hb, hml, hown, hts⟩ (va_cwS 2 hts (gi_S kw_590 kw_345 kw_346 kw_347) rfl rfl rfl mdX2_four ⟨by decide, by decide⟩) rfl hl.1 rfl (Nat.le_of_ble_eq_true rfl) dX1_multiply_17 ⟨Nat.zero_le _, Nat.zero_le _⟩ ?_
  refine lv_istore (lv' := [(4, .int (x_Bits_four v0 8)), (3, .int (x_Bits_four v0 12)), (2, .int (x_Bits_four v0 16)), (0, .ref (gA G 7)), (1, .int v0)]) hx hb dX1_multiply_20 hl (by decide) rfl (fun ls hl => ?_)
  refine lv_iload_n hx hb dX1_multiply_22 rfl (lv_at hl 4 rfl) ?_
  refine lv_iconst (v := 0) hx hb dX1_multiply_23 (by decide) ?_
  refine kp_Si (rest := []) (cx_Bits_four l v0 0) ⟨hx, hb, hml, hown, hts⟩ (va_cwS 2 hts (gi_S kw_590 kw_345 kw_346 kw_347) rfl rfl rfl mdX2_four ⟨by decide, by decide⟩) rfl hl.1 rfl (Nat.le_of_ble_eq_true rfl) dX1_multiply_24 ⟨Nat.zero_le _, Nat.zero_le _⟩ ?_
  refine lv_istore (lv' := [(5, .int (x_Bits_four v0 0)), (4, .int (x_Bits_four v0 8)), (3, .int (x_Bits_four v0 12)), (2, .int (x_Bits_four v0 16)), (0, .ref (gA G 7)), (1, .int v0)]) hx hb dX1_multiply_27 hl (by decide) rfl (fun ls hl => ?_)
  refine lv_iload_n hx hb dX1_multiply_29 rfl (lv_at hl 3 rfl) ?_
  refine lv_bipush (v := 15) hx hb dX1_multiply_30 (by decide) ?_
  refine lv_icmp_eq (tgt := 55) hx hb dX1_multiply_32 (by decide) (fun h_16 => ?_) (fun h_16 => ?_)
  · have hf := hf.trans (if_pos h_16)
    refine lv_iconst (v := 0) hx hb dX1_multiply_55 (by decide) ?_
    exact hret 0 σ _ _ _ _ hf hP hD hS dX1_multiply_56
  · have hf := hf.trans (if_neg h_16)
    refine lv_iload_n hx hb dX1_multiply_35 rfl (lv_at hl 2 rfl) ?_
    refine lv_bipush (v := 15) hx hb dX1_multiply_36 (by decide) ?_
    refine lv_icmp_eq (tgt := 55) hx hb dX1_multiply_38 (by decide) (fun h_17 => ?_) (fun h_17 => ?_)
    · have hf := hf.trans (if_pos h_17)
      refine lv_iconst (v := 0) hx hb dX1_multiply_55 (by decide) ?_
      exact hret 0 σ _ _ _ _ hf hP hD hS dX1_multiply_56
    · have hf := hf.trans (if_neg h_17)
      refine lv_iload hx hb dX1_multiply_41 (lv_at hl 1 rfl) ?_
      refine lv_bipush (v := 15) hx hb dX1_multiply_43 (by decide) ?_
      refine lv_icmp_eq (tgt := 55) hx hb dX1_multiply_45 (by decide) (fun h_18 => ?_) (fun h_18 => ?_)
      · have hf := hf.trans (if_pos h_18)
        refine lv_iconst (v := 0) hx hb dX1_multiply_55 (by decide) ?_
        exact hret 0 σ _ _ _ _ hf hP hD hS dX1_multiply_56
      · have hf := hf.trans (if_neg h_18)
        refine lv_iload hx hb dX1_multiply_48 (lv_at hl 0 rfl) ?_
        refine lv_bipush (v := 15) hx hb dX1_multiply_50 (by decide) ?_
        refine lv_icmp_ne (tgt := 57) hx hb dX1_multiply_52 (by decide) (fun h_19 => ?_) (fun h_19 => ?_)
        · have hf := hf.trans (if_neg h_19)
          refine lv_iload_n hx hb dX1_multiply_57 rfl (lv_at hl 5 rfl) ?_
          refine lv_bipush (v := 23) hx hb dX1_multiply_58 (by decide) ?_
          refine kp_Si (rest := []) (cx_Bits_on l v0 23) ⟨hx, hb, hml, hown, hts⟩ (va_cwS 2 hts (gi_S kw_597 kw_356 kw_346 kw_357) rfl rfl rfl mdX2_on ⟨by decide, by decide⟩) rfl hl.1 rfl (Nat.le_of_ble_eq_true rfl) dX1_multiply_60 ⟨Nat.zero_le _, Nat.zero_le _⟩ ?_
          refine lv_istore (lv' := [(6, .int (b01 (x_Bits_on v0 23))), (5, .int (x_Bits_four v0 0)), (4, .int (x_Bits_four v0 8)), (3, .int (x_Bits_four v0 12)), (2, .int (x_Bits_four v0 16)), (0, .ref (gA G 7)), (1, .int v0)]) hx hb dX1_multiply_63 hl (by decide) rfl (fun ls hl => ?_)
          refine lv_iload_n hx hb dX1_multiply_65 rfl (lv_at hl 6 rfl) ?_
          refine lv_bipush (v := 22) hx hb dX1_multiply_66 (by decide) ?_
          refine kp_Si (rest := []) (cx_Bits_on l v0 22) ⟨hx, hb, hml, hown, hts⟩ (va_cwS 2 hts (gi_S kw_597 kw_356 kw_346 kw_357) rfl rfl rfl mdX2_on ⟨by decide, by decide⟩) rfl hl.1 rfl (Nat.le_of_ble_eq_true rfl) dX1_multiply_68 ⟨Nat.zero_le _, Nat.zero_le _⟩ ?_
          refine lv_istore (lv' := [(7, .int (b01 (x_Bits_on v0 22))), (6, .int (b01 (x_Bits_on v0 23))), (5, .int (x_Bits_four v0 0)), (4, .int (x_Bits_four v0 8)), (3, .int (x_Bits_four v0 12)), (2, .int (x_Bits_four v0 16)), (0, .ref (gA G 7)), (1, .int v0)]) hx hb dX1_multiply_71 hl (by decide) rfl (fun ls hl => ?_)
          refine lv_iload hx hb dX1_multiply_73 (lv_at hl 1 rfl) ?_
          refine kz_eq (tgt := 86) hx hb dX1_multiply_75 (by decide) (fun h_20 => ?_) (fun h_20 => ?_)
          · have hf := hf.trans (if_neg h_20)
            refine lv_iload hx hb dX1_multiply_86 (lv_at hl 0 rfl) ?_
            refine kz_eq (tgt := 93) hx hb dX1_multiply_88 (by decide) (fun h_21 => ?_) (fun h_21 => ?_)
            · have hf := hf.trans (if_neg h_21)
              exact J93 _ _ _ hP hD hS (lv_sub hl [6, 7, 5, 4, 3, 2, 1, 0] rfl) hf
            · have hf := hf.trans (if_pos h_21)
              refine lv_iconst (v := 0) hx hb dX1_multiply_91 (by decide) ?_
              exact hret 0 σ _ _ _ _ hf hP hD hS dX1_multiply_92
          · have hf := hf.trans (if_pos h_20)
            refine lv_iload_n hx hb dX1_multiply_78 rfl (lv_at hl 4 rfl) ?_
            refine lv_iload_n hx hb dX1_multiply_79 rfl (lv_at hl 5 rfl) ?_
            refine lv_icmp_ne (tgt := 93) hx hb dX1_multiply_80 (by decide) (fun h_22 => ?_) (fun h_22 => ?_)
            · have hf := hf.trans (if_neg h_22)
              exact J93 _ _ _ hP hD hS (lv_sub hl [6, 7, 5, 4, 3, 2, 1, 0] rfl) hf
            · have hf := hf.trans (if_pos h_22)
              refine lv_goto (tgt := 91) hx hb dX1_multiply_83 (by decide) ?_
              refine lv_iconst (v := 0) hx hb dX1_multiply_91 (by decide) ?_
              exact hret 0 σ _ _ _ _ hf hP hD hS dX1_multiply_92
        · have hf := hf.trans (if_pos h_19)
          refine lv_iconst (v := 0) hx hb dX1_multiply_55 (by decide) ?_
          exact hret 0 σ _ _ _ _ hf hP hD hS dX1_multiply_56
def x_ArmSet_swap (σ : CS) (v0 : Int32) : Int32 × CS := (if (x_Bits_four v0 16) = 15 then (0, σ) else (if (x_Bits_four v0 12) = 15 then (0, σ) else (if (x_Bits_four v0 0) = 15 then (0, σ) else (x_Transfers_swap σ (b01 (decide ((x_Bits_on v0 22) = true))) (x_Bits_four v0 16) (x_Bits_four v0 12) (x_Bits_four v0 0)))))
set_option maxRecDepth 20000 in
set_option maxHeartbeats 4000000 in
theorem cx_ArmSet_swap (l : Launch) (G : KG) (σ : CS) (v0 : Int32) : KB l yX1_swap (Cond.code yX1_swap cX1_swap 5 (some .int) :: lw_all) (kr 4) (gD G) vwCl (gT G) (cZ G) (cW G) [.ref (gA G 7), .int v0] σ (x_ArmSet_swap σ v0) := by
  refine kc_in_b (q := x_ArmSet_swap σ v0) (by decide) rfl (Nat.le_of_ble_eq_true rfl) ?_
  intro p e s m args below meth c A Q ls hx hb hml hown hts hK hP hD hA hS hZ hl hret
  have hts := fun w h => hts w (List.mem_cons_of_mem _ h)
  have hl : lv_has ls 5 [(0, .ref (gA G 7)), (1, .int v0)] := hl
  have hf : x_ArmSet_swap σ v0 = x_ArmSet_swap σ v0 := rfl
  refine lv_iload_n hx hb dX1_swap_0 rfl (lv_at hl 1 rfl) ?_
  refine lv_bipush (v := 16) hx hb dX1_swap_1 (by decide) ?_
  refine kp_Si (rest := []) (cx_Bits_four l v0 16) ⟨hx, hb, hml, hown, hts⟩ (va_cwS 2 hts (gi_S kw_590 kw_345 kw_346 kw_347) rfl rfl rfl mdX2_four ⟨by decide, by decide⟩) rfl hl.1 rfl (Nat.le_of_ble_eq_true rfl) dX1_swap_3 ⟨Nat.zero_le _, Nat.zero_le _⟩ ?_
  refine lv_istore_n (lv' := [(2, .int (x_Bits_four v0 16)), (0, .ref (gA G 7)), (1, .int v0)]) hx hb dX1_swap_6 rfl hl (by decide) rfl (fun ls hl => ?_)
  refine lv_iload_n hx hb dX1_swap_7 rfl (lv_at hl 2 rfl) ?_
  refine lv_bipush (v := 12) hx hb dX1_swap_8 (by decide) ?_
  refine kp_Si (rest := []) (cx_Bits_four l v0 12) ⟨hx, hb, hml, hown, hts⟩ (va_cwS 2 hts (gi_S kw_590 kw_345 kw_346 kw_347) rfl rfl rfl mdX2_four ⟨by decide, by decide⟩) rfl hl.1 rfl (Nat.le_of_ble_eq_true rfl) dX1_swap_10 ⟨Nat.zero_le _, Nat.zero_le _⟩ ?_
  refine lv_istore_n (lv' := [(3, .int (x_Bits_four v0 12)), (2, .int (x_Bits_four v0 16)), (0, .ref (gA G 7)), (1, .int v0)]) hx hb dX1_swap_13 rfl hl (by decide) rfl (fun ls hl => ?_)
  refine lv_iload_n hx hb dX1_swap_14 rfl (lv_at hl 3 rfl) ?_
  refine lv_iconst (v := 0) hx hb dX1_swap_15 (by decide) ?_
  refine kp_Si (rest := []) (cx_Bits_four l v0 0) ⟨hx, hb, hml, hown, hts⟩ (va_cwS 2 hts (gi_S kw_590 kw_345 kw_346 kw_347) rfl rfl rfl mdX2_four ⟨by decide, by decide⟩) rfl hl.1 rfl (Nat.le_of_ble_eq_true rfl) dX1_swap_16 ⟨Nat.zero_le _, Nat.zero_le _⟩ ?_
  refine lv_istore (lv' := [(4, .int (x_Bits_four v0 0)), (3, .int (x_Bits_four v0 12)), (2, .int (x_Bits_four v0 16)), (0, .ref (gA G 7)), (1, .int v0)]) hx hb dX1_swap_19 hl (by decide) rfl (fun ls hl => ?_)
  refine lv_iload_n hx hb dX1_swap_21 rfl (lv_at hl 2 rfl) ?_
  refine lv_bipush (v := 15) hx hb dX1_swap_22 (by decide) ?_
  refine lv_icmp_eq (tgt := 40) hx hb dX1_swap_24 (by decide) (fun h_5 => ?_) (fun h_5 => ?_)
  · have hf := hf.trans (if_pos h_5)
    refine lv_iconst (v := 0) hx hb dX1_swap_40 (by decide) ?_
    exact hret 0 σ _ _ _ _ hf hP hD hS dX1_swap_41
  · have hf := hf.trans (if_neg h_5)
    refine lv_iload_n hx hb dX1_swap_27 rfl (lv_at hl 1 rfl) ?_
    refine lv_bipush (v := 15) hx hb dX1_swap_28 (by decide) ?_
    refine lv_icmp_eq (tgt := 40) hx hb dX1_swap_30 (by decide) (fun h_6 => ?_) (fun h_6 => ?_)
    · have hf := hf.trans (if_pos h_6)
      refine lv_iconst (v := 0) hx hb dX1_swap_40 (by decide) ?_
      exact hret 0 σ _ _ _ _ hf hP hD hS dX1_swap_41
    · have hf := hf.trans (if_neg h_6)
      refine lv_iload hx hb dX1_swap_33 (lv_at hl 0 rfl) ?_
      refine lv_bipush (v := 15) hx hb dX1_swap_35 (by decide) ?_
      refine lv_icmp_ne (tgt := 42) hx hb dX1_swap_37 (by decide) (fun h_7 => ?_) (fun h_7 => ?_)
      · have hf := hf.trans (if_neg h_7)
        refine lv_aload_n hx hb dX1_swap_42 rfl (lv_at hl 3 rfl) ?_
        refine va_get (D := gD G) (ci := 1) hx hb hts ku_1 hown hK hP 7 rfl rfl 3 (by decide) (hts _ kw_92) (fun _ h9 => h9) rfl dX1_swap_43 ?_
        refine lv_iload_n hx hb dX1_swap_46 rfl (lv_at hl 4 rfl) ?_
        refine lv_bipush (v := 22) hx hb dX1_swap_47 (by decide) ?_
        refine kp_Si (rest := [.ref (gA G 12)]) (cx_Bits_on l v0 22) ⟨hx, hb, hml, hown, hts⟩ (va_cwS 2 hts (gi_S kw_597 kw_356 kw_346 kw_357) rfl rfl rfl mdX2_on ⟨by decide, by decide⟩) rfl hl.1 rfl (Nat.le_of_ble_eq_true rfl) dX1_swap_49 ⟨Nat.zero_le _, Nat.zero_le _⟩ ?_
        refine kz_dN0 (P := (x_Bits_on v0 22) = true) (tgt := 59) (M := 60) (fun a b => kz_eq (tgt := 59) hx hb dX1_swap_52 (by decide) a b) hx hb dX1_swap_55 dX1_swap_56 (by decide) dX1_swap_59 rfl ?_
        refine lv_iload_n hx hb dX1_swap_60 rfl (lv_at hl 2 rfl) ?_
        refine lv_iload_n hx hb dX1_swap_61 rfl (lv_at hl 1 rfl) ?_
        refine lv_iload hx hb dX1_swap_62 (lv_at hl 0 rfl) ?_
        refine kc_Vb (rest := []) (cx_Transfers_swap l G σ (b01 (decide ((x_Bits_on v0 22) = true))) (x_Bits_four v0 16) (x_Bits_four v0 12) (x_Bits_four v0 0) (bt4_16 _ _) (bt4_16 _ _) (bt4_16 _ _)) ⟨hx, hb, hml, hown, hts⟩ (cwV 4 hts (gi_V kw_611 kw_612 kw_613 kw_55 kw_614) rfl rfl rfl ⟨rfl, mdX9_swap⟩ ⟨by decide, by decide⟩) (va_recv hK hP (ci := 7) (q0 := 12) rfl rfl) cZ_ok hK hP hD hS hA hZ rfl hl.1 rfl (Nat.le_of_ble_eq_true rfl) dX1_swap_64 ⟨Nat.zero_le _, Nat.zero_le _⟩ (fun H locs hP hD hS => ?_)
        exact hret ((x_Transfers_swap σ (b01 (decide ((x_Bits_on v0 22) = true))) (x_Bits_four v0 16) (x_Bits_four v0 12) (x_Bits_four v0 0)).1) ((x_Transfers_swap σ (b01 (decide ((x_Bits_on v0 22) = true))) (x_Bits_four v0 16) (x_Bits_four v0 12) (x_Bits_four v0 0)).2) _ _ _ _ hf hP hD hS dX1_swap_67
      · have hf := hf.trans (if_pos h_7)
        refine lv_iconst (v := 0) hx hb dX1_swap_40 (by decide) ?_
        exact hret 0 σ _ _ _ _ hf hP hD hS dX1_swap_41
def x_ArmSet_halves_86 (σ : CS) (v0 : Int32) (k0_41 : Int32) (k0_86 : Int32) : Int32 × CS := (x_Transfers_indexed σ v0 k0_41 k0_86)
def x_ArmSet_halves_41 (σ : CS) (v0 : Int32) (k0_41 : Int32) : Int32 × CS := (if (x_Bits_on v0 22) = true then x_ArmSet_halves_86 σ v0 k0_41 ((16 * (x_Bits_four v0 8)) + (x_Bits_four v0 0)) else x_ArmSet_halves_86 σ v0 k0_41 (x_Registers_read σ (x_Bits_four v0 0)))
def x_ArmSet_halves_22 (σ : CS) (v0 : Int32) : Int32 × CS := (if ((iu v0 5) &&& 3) = 1 then x_ArmSet_halves_41 σ v0 2 else (if ((iu v0 5) &&& 3) = 2 then x_ArmSet_halves_41 σ v0 3 else x_ArmSet_halves_41 σ v0 4))
def x_ArmSet_halves (σ : CS) (v0 : Int32) : Int32 × CS := (if ((iu v0 5) &&& 3) = 1 then x_ArmSet_halves_22 σ v0 else (if (x_Bits_on v0 20) = true then x_ArmSet_halves_22 σ v0 else (0, σ)))
set_option maxRecDepth 20000 in
set_option maxHeartbeats 4000000 in
theorem cx_ArmSet_halves (l : Launch) (G : KG) (σ : CS) (v0 : Int32) : KB l yX1_halves (Cond.code yX1_halves cX1_halves 7 (some .int) :: lw_all) (kr 4) (gD G) vwCl (gT G) (cZ G) (cW G) [.ref (gA G 7), .int v0] σ (x_ArmSet_halves σ v0) := by
  refine kc_in_b (q := x_ArmSet_halves σ v0) (by decide) rfl (Nat.le_of_ble_eq_true rfl) ?_
  intro p e s m args below meth c A Q ls hx hb hml hown hts hK hP hD hA hS hZ hl hret
  have hts := fun w h => hts w (List.mem_cons_of_mem _ h)
  have hl : lv_has ls 7 [(0, .ref (gA G 7)), (1, .int v0)] := hl
  have hf : x_ArmSet_halves σ v0 = x_ArmSet_halves σ v0 := rfl
  have J86 : ∀ (k0_41 : Int32) (k0_86 : Int32) (H : Heap) (locs : List Loc) (ls : Array Slot), va_P (gD G) vwCl (cW G (σ)) H → va_D A (cW G (σ)) → va_S A s.heap H locs → lv_has ls 7 [(0, .ref (gA G 7)), (1, .int v0), (3, .int k0_41)] → x_ArmSet_halves σ v0 = x_ArmSet_halves_86 σ v0 k0_41 k0_86 → W p l e (kr 4) s m args below meth c H locs 0 0 Q (F0 m 86 ls [.int k0_86]) := by
    intro k0_41 k0_86 H locs ls hP hD hS hl hf
    refine lv_istore (lv' := [(6, .int k0_86), (0, .ref (gA G 7)), (1, .int v0), (3, .int k0_41)]) hx hb dX1_halves_86 hl (by decide) rfl (fun ls hl => ?_)
    refine lv_aload_n hx hb dX1_halves_88 rfl (lv_at hl 1 rfl) ?_
    refine va_get (D := gD G) (ci := 1) hx hb hts ku_1 hown hK hP 7 rfl rfl 3 (by decide) (hts _ kw_92) (fun _ h9 => h9) rfl dX1_halves_89 ?_
    refine lv_iload_n hx hb dX1_halves_92 rfl (lv_at hl 2 rfl) ?_
    refine lv_iload_n hx hb dX1_halves_93 rfl (lv_at hl 3 rfl) ?_
    refine lv_iload hx hb dX1_halves_94 (lv_at hl 0 rfl) ?_
    refine kc_Vb (rest := []) (cx_Transfers_indexed l G σ v0 k0_41 k0_86) ⟨hx, hb, hml, hown, hts⟩ (cwV 3 hts (gi_V kw_619 kw_620 kw_621 kw_55 kw_622) rfl rfl rfl ⟨rfl, mdX9_indexed⟩ ⟨by decide, by decide⟩) (va_recv hK hP (ci := 7) (q0 := 12) rfl rfl) cZ_ok hK hP hD hS hA hZ rfl hl.1 rfl (Nat.le_of_ble_eq_true rfl) dX1_halves_96 ⟨Nat.zero_le _, Nat.zero_le _⟩ (fun H locs hP hD hS => ?_)
    exact hret ((x_Transfers_indexed σ v0 k0_41 k0_86).1) ((x_Transfers_indexed σ v0 k0_41 k0_86).2) _ _ _ _ hf hP hD hS dX1_halves_99
  have J41 : ∀ (k0_41 : Int32) (H : Heap) (locs : List Loc) (ls : Array Slot), va_P (gD G) vwCl (cW G (σ)) H → va_D A (cW G (σ)) → va_S A s.heap H locs → lv_has ls 7 [(0, .ref (gA G 7)), (1, .int v0)] → x_ArmSet_halves σ v0 = x_ArmSet_halves_41 σ v0 k0_41 → W p l e (kr 4) s m args below meth c H locs 0 0 Q (F0 m 41 ls [.int k0_41]) := by
    intro k0_41 H locs ls hP hD hS hl hf
    refine lv_istore_n (lv' := [(3, .int k0_41), (0, .ref (gA G 7)), (1, .int v0)]) hx hb dX1_halves_41 rfl hl (by decide) rfl (fun ls hl => ?_)
    refine lv_iload_n hx hb dX1_halves_42 rfl (lv_at hl 2 rfl) ?_
    refine lv_iconst (v := 0) hx hb dX1_halves_43 (by decide) ?_
    refine kp_Si (rest := []) (cx_Bits_four l v0 0) ⟨hx, hb, hml, hown, hts⟩ (va_cwS 2 hts (gi_S kw_590 kw_345 kw_346 kw_347) rfl rfl rfl mdX2_four ⟨by decide, by decide⟩) rfl hl.1 rfl (Nat.le_of_ble_eq_true rfl) dX1_halves_44 ⟨Nat.zero_le _, Nat.zero_le _⟩ ?_
    refine lv_istore (lv' := [(4, .int (x_Bits_four v0 0)), (3, .int k0_41), (0, .ref (gA G 7)), (1, .int v0)]) hx hb dX1_halves_47 hl (by decide) rfl (fun ls hl => ?_)
    refine lv_bipush (v := 16) hx hb dX1_halves_49 (by decide) ?_
    refine lv_iload_n hx hb dX1_halves_51 rfl (lv_at hl 3 rfl) ?_
    refine lv_bipush (v := 8) hx hb dX1_halves_52 (by decide) ?_
    refine kp_Si (rest := [.int 16]) (cx_Bits_four l v0 8) ⟨hx, hb, hml, hown, hts⟩ (va_cwS 2 hts (gi_S kw_590 kw_345 kw_346 kw_347) rfl rfl rfl mdX2_four ⟨by decide, by decide⟩) rfl hl.1 rfl (Nat.le_of_ble_eq_true rfl) dX1_halves_54 ⟨Nat.zero_le _, Nat.zero_le _⟩ ?_
    refine lv_imul hx hb dX1_halves_57 ?_
    refine lv_iload hx hb dX1_halves_58 (lv_at hl 0 rfl) ?_
    refine lv_iadd hx hb dX1_halves_60 ?_
    refine lv_istore (lv' := [(5, .int ((16 * (x_Bits_four v0 8)) + (x_Bits_four v0 0))), (4, .int (x_Bits_four v0 0)), (3, .int k0_41), (0, .ref (gA G 7)), (1, .int v0)]) hx hb dX1_halves_61 hl (by decide) rfl (fun ls hl => ?_)
    refine lv_iload_n hx hb dX1_halves_63 rfl (lv_at hl 4 rfl) ?_
    refine lv_bipush (v := 22) hx hb dX1_halves_64 (by decide) ?_
    refine kp_Si (rest := []) (cx_Bits_on l v0 22) ⟨hx, hb, hml, hown, hts⟩ (va_cwS 2 hts (gi_S kw_597 kw_356 kw_346 kw_357) rfl rfl rfl mdX2_on ⟨by decide, by decide⟩) rfl hl.1 rfl (Nat.le_of_ble_eq_true rfl) dX1_halves_66 ⟨Nat.zero_le _, Nat.zero_le _⟩ ?_
    refine kz_eq (tgt := 77) hx hb dX1_halves_69 (by decide) (fun h_6 => ?_) (fun h_6 => ?_)
    · have hf := hf.trans (if_neg h_6)
      refine lv_aload_n hx hb dX1_halves_77 rfl (lv_at hl 3 rfl) ?_
      refine va_get (D := gD G) (ci := 1) hx hb hts ku_1 hown hK hP 7 rfl rfl 0 (by decide) (hts _ kw_89) (fun _ h9 => h9) rfl dX1_halves_78 ?_
      refine lv_iload hx hb dX1_halves_81 (lv_at hl 1 rfl) ?_
      refine kc_Vr (rest := []) (cx_Registers_read l G σ (x_Bits_four v0 0) (bt4_16 _ _)) ⟨hx, hb, hml, hown, hts⟩ (cwV 1 hts (gi_V kw_591 kw_359 kw_360 kw_19 kw_361) rfl rfl rfl ⟨rfl, mdX6_read⟩ ⟨by decide, by decide⟩) (va_recv hK hP (ci := 4) (q0 := 3) rfl rfl) cZ_ok hK hP hD hS hA hZ rfl hl.1 rfl (Nat.le_of_ble_eq_true rfl) dX1_halves_83 ⟨Nat.zero_le _, Nat.zero_le _⟩ (fun H locs hP hD hS => ?_)
      exact J86 k0_41 (x_Registers_read σ (x_Bits_four v0 0)) _ _ _ hP hD hS (lv_sub hl [3, 4, 2] rfl) hf
    · have hf := hf.trans (if_pos h_6)
      refine lv_iload hx hb dX1_halves_72 (lv_at hl 0 rfl) ?_
      refine lv_goto (tgt := 86) hx hb dX1_halves_74 (by decide) ?_
      exact J86 k0_41 ((16 * (x_Bits_four v0 8)) + (x_Bits_four v0 0)) _ _ _ hP hD hS (lv_sub hl [3, 4, 2] rfl) hf
  have J22 : ∀ (H : Heap) (locs : List Loc) (ls : Array Slot), va_P (gD G) vwCl (cW G (σ)) H → va_D A (cW G (σ)) → va_S A s.heap H locs → lv_has ls 7 [(0, .ref (gA G 7)), (1, .int v0), (2, .int ((iu v0 5) &&& 3))] → x_ArmSet_halves σ v0 = x_ArmSet_halves_22 σ v0 → W p l e (kr 4) s m args below meth c H locs 0 0 Q (F0 m 22 ls []) := by
    intro H locs ls hP hD hS hl hf
    refine lv_iload_n hx hb dX1_halves_22 rfl (lv_at hl 2 rfl) ?_
    refine lv_iconst (v := 1) hx hb dX1_halves_23 (by decide) ?_
    refine lv_icmp_ne (tgt := 31) hx hb dX1_halves_24 (by decide) (fun h_7 => ?_) (fun h_7 => ?_)
    · have hf := hf.trans (if_neg h_7)
      refine lv_iload_n hx hb dX1_halves_31 rfl (lv_at hl 2 rfl) ?_
      refine lv_iconst (v := 2) hx hb dX1_halves_32 (by decide) ?_
      refine lv_icmp_ne (tgt := 40) hx hb dX1_halves_33 (by decide) (fun h_8 => ?_) (fun h_8 => ?_)
      · have hf := hf.trans (if_neg h_8)
        refine lv_iconst (v := 4) hx hb dX1_halves_40 (by decide) ?_
        exact J41 4 _ _ _ hP hD hS (lv_sub hl [0, 1] rfl) hf
      · have hf := hf.trans (if_pos h_8)
        refine lv_iconst (v := 3) hx hb dX1_halves_36 (by decide) ?_
        refine lv_goto (tgt := 41) hx hb dX1_halves_37 (by decide) ?_
        exact J41 3 _ _ _ hP hD hS (lv_sub hl [0, 1] rfl) hf
    · have hf := hf.trans (if_pos h_7)
      refine lv_iconst (v := 2) hx hb dX1_halves_27 (by decide) ?_
      refine lv_goto (tgt := 41) hx hb dX1_halves_28 (by decide) ?_
      exact J41 2 _ _ _ hP hD hS (lv_sub hl [0, 1] rfl) hf
  refine lv_iload_n hx hb dX1_halves_0 rfl (lv_at hl 1 rfl) ?_
  refine lv_iconst (v := 5) hx hb dX1_halves_1 (by decide) ?_
  refine lv_iushr (v := iu v0 5) hx hb dX1_halves_2 rfl ?_
  refine lv_iconst (v := 3) hx hb dX1_halves_3 (by decide) ?_
  refine lv_iand hx hb dX1_halves_4 ?_
  refine lv_istore_n (lv' := [(2, .int ((iu v0 5) &&& 3)), (0, .ref (gA G 7)), (1, .int v0)]) hx hb dX1_halves_5 rfl hl (by decide) rfl (fun ls hl => ?_)
  refine lv_iload_n hx hb dX1_halves_6 rfl (lv_at hl 0 rfl) ?_
  refine lv_iconst (v := 1) hx hb dX1_halves_7 (by decide) ?_
  refine lv_icmp_eq (tgt := 22) hx hb dX1_halves_8 (by decide) (fun h_9 => ?_) (fun h_9 => ?_)
  · have hf := hf.trans (if_pos h_9)
    exact J22 _ _ _ hP hD hS (lv_sub hl [1, 2, 0] rfl) hf
  · have hf := hf.trans (if_neg h_9)
    refine lv_iload_n hx hb dX1_halves_11 rfl (lv_at hl 2 rfl) ?_
    refine lv_bipush (v := 20) hx hb dX1_halves_12 (by decide) ?_
    refine kp_Si (rest := []) (cx_Bits_on l v0 20) ⟨hx, hb, hml, hown, hts⟩ (va_cwS 2 hts (gi_S kw_597 kw_356 kw_346 kw_357) rfl rfl rfl mdX2_on ⟨by decide, by decide⟩) rfl hl.1 rfl (Nat.le_of_ble_eq_true rfl) dX1_halves_14 ⟨Nat.zero_le _, Nat.zero_le _⟩ ?_
    refine kz_ne (tgt := 22) hx hb dX1_halves_17 (by decide) (fun h_10 => ?_) (fun h_10 => ?_)
    · have hf := hf.trans (if_pos h_10)
      exact J22 _ _ _ hP hD hS (lv_sub hl [1, 2, 0] rfl) hf
    · have hf := hf.trans (if_neg h_10)
      refine lv_iconst (v := 0) hx hb dX1_halves_20 (by decide) ?_
      exact hret 0 σ _ _ _ _ hf hP hD hS dX1_halves_21
def x_ArmSet_readStatus_26 (σ : CS) (v0 : Int32) (k0_26 : Int32) : Int32 × CS := ((-1), x_Registers_write σ (x_Bits_four v0 12) k0_26)
def x_ArmSet_readStatus (σ : CS) (v0 : Int32) : Int32 × CS := (if (x_Bits_on v0 22) = true then x_ArmSet_readStatus_26 σ v0 (x_Registers_spsrOrCpsr σ) else x_ArmSet_readStatus_26 σ v0 (x_Registers_cpsr σ))
set_option maxRecDepth 20000 in
set_option maxHeartbeats 4000000 in
theorem cx_ArmSet_readStatus (l : Launch) (G : KG) (σ : CS) (v0 : Int32) : KB l yX1_readStatus (Cond.code yX1_readStatus cX1_readStatus 3 (some .int) :: lw_all) (kr 3) (gD G) vwCl (gT G) (cZ G) (cW G) [.ref (gA G 7), .int v0] σ (x_ArmSet_readStatus σ v0) := by
  refine kc_in_b (q := x_ArmSet_readStatus σ v0) (by decide) rfl (Nat.le_of_ble_eq_true rfl) ?_
  intro p e s m args below meth c A Q ls hx hb hml hown hts hK hP hD hA hS hZ hl hret
  have hts := fun w h => hts w (List.mem_cons_of_mem _ h)
  have hl : lv_has ls 3 [(0, .ref (gA G 7)), (1, .int v0)] := hl
  have hf : x_ArmSet_readStatus σ v0 = x_ArmSet_readStatus σ v0 := rfl
  have J26 : ∀ (k0_26 : Int32) (H : Heap) (locs : List Loc) (ls : Array Slot), va_P (gD G) vwCl (cW G (σ)) H → va_D A (cW G (σ)) → va_S A s.heap H locs → lv_has ls 3 [(0, .ref (gA G 7)), (1, .int v0)] → x_ArmSet_readStatus σ v0 = x_ArmSet_readStatus_26 σ v0 k0_26 → W p l e (kr 3) s m args below meth c H locs 0 0 Q (F0 m 26 ls [.int k0_26]) := by
    intro k0_26 H locs ls hP hD hS hl hf
    refine lv_istore_n (lv' := [(2, .int k0_26), (0, .ref (gA G 7)), (1, .int v0)]) hx hb dX1_readStatus_26 rfl hl (by decide) rfl (fun ls hl => ?_)
    refine lv_aload_n hx hb dX1_readStatus_27 rfl (lv_at hl 1 rfl) ?_
    refine va_get (D := gD G) (ci := 1) hx hb hts ku_1 hown hK hP 7 rfl rfl 0 (by decide) (hts _ kw_89) (fun _ h9 => h9) rfl dX1_readStatus_28 ?_
    refine lv_iload_n hx hb dX1_readStatus_31 rfl (lv_at hl 2 rfl) ?_
    refine lv_bipush (v := 12) hx hb dX1_readStatus_32 (by decide) ?_
    refine kp_Si (rest := [.ref (gA G 3)]) (cx_Bits_four l v0 12) ⟨hx, hb, hml, hown, hts⟩ (va_cwS 2 hts (gi_S kw_590 kw_345 kw_346 kw_347) rfl rfl rfl mdX2_four ⟨by decide, by decide⟩) rfl hl.1 rfl (Nat.le_of_ble_eq_true rfl) dX1_readStatus_34 ⟨Nat.zero_le _, Nat.zero_le _⟩ ?_
    refine lv_iload_n hx hb dX1_readStatus_37 rfl (lv_at hl 0 rfl) ?_
    refine kc_Vv (rest := []) (cx_Registers_write l G σ (x_Bits_four v0 12) k0_26 (bt4_16 _ _)) ⟨hx, hb, hml, hown, hts⟩ (cwV 2 hts (gi_V kw_605 kw_403 kw_404 kw_19 kw_405) rfl rfl rfl ⟨rfl, mdX6_write⟩ ⟨by decide, by decide⟩) (va_recv hK hP (ci := 4) (q0 := 3) rfl rfl) cZ_ok hK hP hD hS hA hZ rfl hl.1 rfl (Nat.le_of_ble_eq_true rfl) dX1_readStatus_38 ⟨Nat.zero_le _, Nat.zero_le _⟩ (fun H locs hP hD hS => ?_)
    refine lv_iconst (v := (-1)) hx hb dX1_readStatus_41 (by decide) ?_
    exact hret (-1) (x_Registers_write σ (x_Bits_four v0 12) k0_26) _ _ _ _ hf hP hD hS dX1_readStatus_42
  refine lv_iload_n hx hb dX1_readStatus_0 rfl (lv_at hl 1 rfl) ?_
  refine lv_bipush (v := 22) hx hb dX1_readStatus_1 (by decide) ?_
  refine kp_Si (rest := []) (cx_Bits_on l v0 22) ⟨hx, hb, hml, hown, hts⟩ (va_cwS 2 hts (gi_S kw_597 kw_356 kw_346 kw_357) rfl rfl rfl mdX2_on ⟨by decide, by decide⟩) rfl hl.1 rfl (Nat.le_of_ble_eq_true rfl) dX1_readStatus_3 ⟨Nat.zero_le _, Nat.zero_le _⟩ ?_
  refine kz_eq (tgt := 19) hx hb dX1_readStatus_6 (by decide) (fun h_2 => ?_) (fun h_2 => ?_)
  · have hf := hf.trans (if_neg h_2)
    refine lv_aload_n hx hb dX1_readStatus_19 rfl (lv_at hl 0 rfl) ?_
    refine va_get (D := gD G) (ci := 1) hx hb hts ku_1 hown hK hP 7 rfl rfl 0 (by decide) (hts _ kw_89) (fun _ h9 => h9) rfl dX1_readStatus_20 ?_
    refine kc_Vr (rest := []) (cx_Registers_cpsr l G σ) ⟨hx, hb, hml, hown, hts⟩ (cwV 0 hts (gi_V kw_633 kw_237 kw_238 kw_19 kw_239) rfl rfl rfl ⟨rfl, mdX6_cpsr⟩ ⟨by decide, by decide⟩) (va_recv hK hP (ci := 4) (q0 := 3) rfl rfl) cZ_ok hK hP hD hS hA hZ rfl hl.1 rfl (Nat.le_of_ble_eq_true rfl) dX1_readStatus_23 ⟨Nat.zero_le _, Nat.zero_le _⟩ (fun H locs hP hD hS => ?_)
    exact J26 (x_Registers_cpsr σ) _ _ _ hP hD hS (lv_sub hl [0, 1] rfl) hf
  · have hf := hf.trans (if_pos h_2)
    refine lv_aload_n hx hb dX1_readStatus_9 rfl (lv_at hl 0 rfl) ?_
    refine va_get (D := gD G) (ci := 1) hx hb hts ku_1 hown hK hP 7 rfl rfl 0 (by decide) (hts _ kw_89) (fun _ h9 => h9) rfl dX1_readStatus_10 ?_
    refine kc_Vr (rest := []) (cx_Registers_spsrOrCpsr l G σ) ⟨hx, hb, hml, hown, hts⟩ (cwV 0 hts (gi_V kw_632 kw_537 kw_538 kw_19 kw_539) rfl rfl rfl ⟨rfl, mdX6_spsrOrCpsr⟩ ⟨by decide, by decide⟩) (va_recv hK hP (ci := 4) (q0 := 3) rfl rfl) cZ_ok hK hP hD hS hA hZ rfl hl.1 rfl (Nat.le_of_ble_eq_true rfl) dX1_readStatus_13 ⟨Nat.zero_le _, Nat.zero_le _⟩ (fun H locs hP hD hS => ?_)
    refine lv_goto (tgt := 26) hx hb dX1_readStatus_16 (by decide) ?_
    exact J26 (x_Registers_spsrOrCpsr σ) _ _ _ hP hD hS (lv_sub hl [0, 1] rfl) hf
def x_ArmSet_writeStatus_31 (σ : CS) (v0 : Int32) (v1 : Int32) (n3_31 : Int32) : Int32 × CS := (if (x_Bits_on v0 22) = true then ((-1), x_Registers_mixIntoSpsr σ v1 n3_31) else ((-1), x_Registers_mixIntoCpsr σ v1 n3_31))
def x_ArmSet_writeStatus_15 (σ : CS) (v0 : Int32) (v1 : Int32) (k0_15 : Int32) : Int32 × CS := (if (x_Bits_on v0 16) = true then x_ArmSet_writeStatus_31 σ v0 v1 (k0_15 ||| 255) else x_ArmSet_writeStatus_31 σ v0 v1 k0_15)
def x_ArmSet_writeStatus (σ : CS) (v0 : Int32) (v1 : Int32) : Int32 × CS := (if (x_Bits_on v0 19) = true then x_ArmSet_writeStatus_15 σ v0 v1 (-268435456) else x_ArmSet_writeStatus_15 σ v0 v1 0)
set_option maxRecDepth 20000 in
set_option maxHeartbeats 4000000 in
theorem cx_ArmSet_writeStatus (l : Launch) (G : KG) (σ : CS) (v0 : Int32) (v1 : Int32) : KB l yX1_writeStatus (Cond.code yX1_writeStatus cX1_writeStatus 4 (some .int) :: lw_all) (kr 3) (gD G) vwCl (gT G) (cZ G) (cW G) [.ref (gA G 7), .int v0, .int v1] σ (x_ArmSet_writeStatus σ v0 v1) := by
  refine kc_in_b (q := x_ArmSet_writeStatus σ v0 v1) (by decide) rfl (Nat.le_of_ble_eq_true rfl) ?_
  intro p e s m args below meth c A Q ls hx hb hml hown hts hK hP hD hA hS hZ hl hret
  have hts := fun w h => hts w (List.mem_cons_of_mem _ h)
  have hl : lv_has ls 4 [(0, .ref (gA G 7)), (1, .int v0), (2, .int v1)] := hl
  have hf : x_ArmSet_writeStatus σ v0 v1 = x_ArmSet_writeStatus σ v0 v1 := rfl
  have J31 : ∀ (n3_31 : Int32) (H : Heap) (locs : List Loc) (ls : Array Slot), va_P (gD G) vwCl (cW G (σ)) H → va_D A (cW G (σ)) → va_S A s.heap H locs → lv_has ls 4 [(0, .ref (gA G 7)), (1, .int v0), (2, .int v1), (3, .int n3_31)] → x_ArmSet_writeStatus σ v0 v1 = x_ArmSet_writeStatus_31 σ v0 v1 n3_31 → W p l e (kr 3) s m args below meth c H locs 0 0 Q (F0 m 31 ls []) := by
    intro n3_31 H locs ls hP hD hS hl hf
    refine lv_iload_n hx hb dX1_writeStatus_31 rfl (lv_at hl 1 rfl) ?_
    refine lv_bipush (v := 22) hx hb dX1_writeStatus_32 (by decide) ?_
    refine kp_Si (rest := []) (cx_Bits_on l v0 22) ⟨hx, hb, hml, hown, hts⟩ (va_cwS 2 hts (gi_S kw_597 kw_356 kw_346 kw_357) rfl rfl rfl mdX2_on ⟨by decide, by decide⟩) rfl hl.1 rfl (Nat.le_of_ble_eq_true rfl) dX1_writeStatus_34 ⟨Nat.zero_le _, Nat.zero_le _⟩ ?_
    refine kz_eq (tgt := 52) hx hb dX1_writeStatus_37 (by decide) (fun h_4 => ?_) (fun h_4 => ?_)
    · have hf := hf.trans (if_neg h_4)
      refine lv_aload_n hx hb dX1_writeStatus_52 rfl (lv_at hl 0 rfl) ?_
      refine va_get (D := gD G) (ci := 1) hx hb hts ku_1 hown hK hP 7 rfl rfl 0 (by decide) (hts _ kw_89) (fun _ h9 => h9) rfl dX1_writeStatus_53 ?_
      refine lv_iload_n hx hb dX1_writeStatus_56 rfl (lv_at hl 2 rfl) ?_
      refine lv_iload_n hx hb dX1_writeStatus_57 rfl (lv_at hl 3 rfl) ?_
      refine kc_Vv (rest := []) (cx_Registers_mixIntoCpsr l G σ v1 n3_31) ⟨hx, hb, hml, hown, hts⟩ (cwV 2 hts (gi_V kw_644 kw_645 kw_646 kw_19 kw_647) rfl rfl rfl ⟨rfl, mdX6_mixIntoCpsr⟩ ⟨by decide, by decide⟩) (va_recv hK hP (ci := 4) (q0 := 3) rfl rfl) cZ_ok hK hP hD hS hA hZ rfl hl.1 rfl (Nat.le_of_ble_eq_true rfl) dX1_writeStatus_58 ⟨Nat.zero_le _, Nat.zero_le _⟩ (fun H locs hP hD hS => ?_)
      refine lv_iconst (v := (-1)) hx hb dX1_writeStatus_61 (by decide) ?_
      exact hret (-1) (x_Registers_mixIntoCpsr σ v1 n3_31) _ _ _ _ hf hP hD hS dX1_writeStatus_62
    · have hf := hf.trans (if_pos h_4)
      refine lv_aload_n hx hb dX1_writeStatus_40 rfl (lv_at hl 0 rfl) ?_
      refine va_get (D := gD G) (ci := 1) hx hb hts ku_1 hown hK hP 7 rfl rfl 0 (by decide) (hts _ kw_89) (fun _ h9 => h9) rfl dX1_writeStatus_41 ?_
      refine lv_iload_n hx hb dX1_writeStatus_44 rfl (lv_at hl 2 rfl) ?_
      refine lv_iload_n hx hb dX1_writeStatus_45 rfl (lv_at hl 3 rfl) ?_
      refine kc_Vv (rest := []) (cx_Registers_mixIntoSpsr l G σ v1 n3_31) ⟨hx, hb, hml, hown, hts⟩ (cwV 2 hts (gi_V kw_639 kw_640 kw_641 kw_19 kw_642) rfl rfl rfl ⟨rfl, mdX6_mixIntoSpsr⟩ ⟨by decide, by decide⟩) (va_recv hK hP (ci := 4) (q0 := 3) rfl rfl) cZ_ok hK hP hD hS hA hZ rfl hl.1 rfl (Nat.le_of_ble_eq_true rfl) dX1_writeStatus_46 ⟨Nat.zero_le _, Nat.zero_le _⟩ (fun H locs hP hD hS => ?_)
      refine lv_goto (tgt := 61) hx hb dX1_writeStatus_49 (by decide) ?_
      refine lv_iconst (v := (-1)) hx hb dX1_writeStatus_61 (by decide) ?_
      exact hret (-1) (x_Registers_mixIntoSpsr σ v1 n3_31) _ _ _ _ hf hP hD hS dX1_writeStatus_62
  have J15 : ∀ (k0_15 : Int32) (H : Heap) (locs : List Loc) (ls : Array Slot), va_P (gD G) vwCl (cW G (σ)) H → va_D A (cW G (σ)) → va_S A s.heap H locs → lv_has ls 4 [(0, .ref (gA G 7)), (1, .int v0), (2, .int v1)] → x_ArmSet_writeStatus σ v0 v1 = x_ArmSet_writeStatus_15 σ v0 v1 k0_15 → W p l e (kr 3) s m args below meth c H locs 0 0 Q (F0 m 15 ls [.int k0_15]) := by
    intro k0_15 H locs ls hP hD hS hl hf
    refine lv_istore_n (lv' := [(3, .int k0_15), (0, .ref (gA G 7)), (1, .int v0), (2, .int v1)]) hx hb dX1_writeStatus_15 rfl hl (by decide) rfl (fun ls hl => ?_)
    refine lv_iload_n hx hb dX1_writeStatus_16 rfl (lv_at hl 2 rfl) ?_
    refine lv_bipush (v := 16) hx hb dX1_writeStatus_17 (by decide) ?_
    refine kp_Si (rest := []) (cx_Bits_on l v0 16) ⟨hx, hb, hml, hown, hts⟩ (va_cwS 2 hts (gi_S kw_597 kw_356 kw_346 kw_357) rfl rfl rfl mdX2_on ⟨by decide, by decide⟩) rfl hl.1 rfl (Nat.le_of_ble_eq_true rfl) dX1_writeStatus_19 ⟨Nat.zero_le _, Nat.zero_le _⟩ ?_
    refine kz_eq (tgt := 31) hx hb dX1_writeStatus_22 (by decide) (fun h_5 => ?_) (fun h_5 => ?_)
    · have hf := hf.trans (if_neg h_5)
      exact J31 k0_15 _ _ _ hP hD hS (lv_sub hl [1, 2, 3, 0] rfl) hf
    · have hf := hf.trans (if_pos h_5)
      refine lv_iload_n hx hb dX1_writeStatus_25 rfl (lv_at hl 0 rfl) ?_
      refine lv_sipush (v := 255) hx hb dX1_writeStatus_26 (by decide) ?_
      refine lv_ior hx hb dX1_writeStatus_29 ?_
      refine lv_istore_n (lv' := [(3, .int (k0_15 ||| 255)), (0, .ref (gA G 7)), (1, .int v0), (2, .int v1)]) hx hb dX1_writeStatus_30 rfl hl (by decide) rfl (fun ls hl => ?_)
      exact J31 (k0_15 ||| 255) _ _ _ hP hD hS (lv_sub hl [1, 2, 3, 0] rfl) hf
  refine lv_iload_n hx hb dX1_writeStatus_0 rfl (lv_at hl 1 rfl) ?_
  refine lv_bipush (v := 19) hx hb dX1_writeStatus_1 (by decide) ?_
  refine kp_Si (rest := []) (cx_Bits_on l v0 19) ⟨hx, hb, hml, hown, hts⟩ (va_cwS 2 hts (gi_S kw_597 kw_356 kw_346 kw_357) rfl rfl rfl mdX2_on ⟨by decide, by decide⟩) rfl hl.1 rfl (Nat.le_of_ble_eq_true rfl) dX1_writeStatus_3 ⟨Nat.zero_le _, Nat.zero_le _⟩ ?_
  refine kz_eq (tgt := 14) hx hb dX1_writeStatus_6 (by decide) (fun h_6 => ?_) (fun h_6 => ?_)
  · have hf := hf.trans (if_neg h_6)
    refine lv_iconst (v := 0) hx hb dX1_writeStatus_14 (by decide) ?_
    exact J15 0 _ _ _ hP hD hS (lv_sub hl [0, 1, 2] rfl) hf
  · have hf := hf.trans (if_pos h_6)
    refine lv_ldc (v := (-268435456)) hx hb hown (hts _ kw_638) dX1_writeStatus_9 ?_
    refine lv_goto (tgt := 15) hx hb dX1_writeStatus_11 (by decide) ?_
    exact J15 (-268435456) _ _ _ hP hD hS (lv_sub hl [0, 1, 2] rfl) hf
def x_ArmSet_shiftedByRegister (σ : CS) (v0 : Int32) : Int32 × CS := (x_Shifter_shift σ ((iu v0 5) &&& 3) (x_Registers_readLate σ (x_Bits_four v0 0)) ((x_Registers_readLate σ (x_Bits_four v0 8)) &&& 255) (x_Registers_carry σ))
set_option maxRecDepth 20000 in
set_option maxHeartbeats 4000000 in
theorem cx_ArmSet_shiftedByRegister (l : Launch) (G : KG) (σ : CS) (v0 : Int32) : KB l yX1_shiftedByRegister (Cond.code yX1_shiftedByRegister cX1_shiftedByRegister 4 (some .int) :: lw_all) (kr 2) (gD G) vwCl (gT G) (cZ G) (cW G) [.ref (gA G 7), .int v0] σ (x_ArmSet_shiftedByRegister σ v0) := by
  refine kc_in_b (q := x_ArmSet_shiftedByRegister σ v0) (by decide) rfl (Nat.le_of_ble_eq_true rfl) ?_
  intro p e s m args below meth c A Q ls hx hb hml hown hts hK hP hD hA hS hZ hl hret
  have hts := fun w h => hts w (List.mem_cons_of_mem _ h)
  have hl : lv_has ls 4 [(0, .ref (gA G 7)), (1, .int v0)] := hl
  have hf : x_ArmSet_shiftedByRegister σ v0 = x_ArmSet_shiftedByRegister σ v0 := rfl
  refine lv_aload_n hx hb dX1_shiftedByRegister_0 rfl (lv_at hl 0 rfl) ?_
  refine va_get (D := gD G) (ci := 1) hx hb hts ku_1 hown hK hP 7 rfl rfl 0 (by decide) (hts _ kw_89) (fun _ h9 => h9) rfl dX1_shiftedByRegister_1 ?_
  refine lv_iload_n hx hb dX1_shiftedByRegister_4 rfl (lv_at hl 1 rfl) ?_
  refine lv_iconst (v := 0) hx hb dX1_shiftedByRegister_5 (by decide) ?_
  refine kp_Si (rest := [.ref (gA G 3)]) (cx_Bits_four l v0 0) ⟨hx, hb, hml, hown, hts⟩ (va_cwS 2 hts (gi_S kw_590 kw_345 kw_346 kw_347) rfl rfl rfl mdX2_four ⟨by decide, by decide⟩) rfl hl.1 rfl (Nat.le_of_ble_eq_true rfl) dX1_shiftedByRegister_6 ⟨Nat.zero_le _, Nat.zero_le _⟩ ?_
  refine kc_Vr (rest := []) (cx_Registers_readLate l G σ (x_Bits_four v0 0) (bt4_16 _ _)) ⟨hx, hb, hml, hown, hts⟩ (cwV 1 hts (gi_V kw_666 kw_624 kw_625 kw_19 kw_626) rfl rfl rfl ⟨rfl, mdX6_readLate⟩ ⟨by decide, by decide⟩) (va_recv hK hP (ci := 4) (q0 := 3) rfl rfl) cZ_ok hK hP hD hS hA hZ rfl hl.1 rfl (Nat.le_of_ble_eq_true rfl) dX1_shiftedByRegister_9 ⟨Nat.zero_le _, Nat.zero_le _⟩ (fun H locs hP hD hS => ?_)
  refine lv_istore_n (lv' := [(2, .int (x_Registers_readLate σ (x_Bits_four v0 0))), (0, .ref (gA G 7)), (1, .int v0)]) hx hb dX1_shiftedByRegister_12 rfl hl (by decide) rfl (fun ls hl => ?_)
  refine lv_aload_n hx hb dX1_shiftedByRegister_13 rfl (lv_at hl 1 rfl) ?_
  refine va_get (D := gD G) (ci := 1) hx hb hts ku_1 hown hK hP 7 rfl rfl 0 (by decide) (hts _ kw_89) (fun _ h9 => h9) rfl dX1_shiftedByRegister_14 ?_
  refine lv_iload_n hx hb dX1_shiftedByRegister_17 rfl (lv_at hl 2 rfl) ?_
  refine lv_bipush (v := 8) hx hb dX1_shiftedByRegister_18 (by decide) ?_
  refine kp_Si (rest := [.ref (gA G 3)]) (cx_Bits_four l v0 8) ⟨hx, hb, hml, hown, hts⟩ (va_cwS 2 hts (gi_S kw_590 kw_345 kw_346 kw_347) rfl rfl rfl mdX2_four ⟨by decide, by decide⟩) rfl hl.1 rfl (Nat.le_of_ble_eq_true rfl) dX1_shiftedByRegister_20 ⟨Nat.zero_le _, Nat.zero_le _⟩ ?_
  refine kc_Vr (rest := []) (cx_Registers_readLate l G σ (x_Bits_four v0 8) (bt4_16 _ _)) ⟨hx, hb, hml, hown, hts⟩ (cwV 1 hts (gi_V kw_666 kw_624 kw_625 kw_19 kw_626) rfl rfl rfl ⟨rfl, mdX6_readLate⟩ ⟨by decide, by decide⟩) (va_recv hK hP (ci := 4) (q0 := 3) rfl rfl) cZ_ok hK hP hD hS hA hZ rfl hl.1 rfl (Nat.le_of_ble_eq_true rfl) dX1_shiftedByRegister_23 ⟨Nat.zero_le _, Nat.zero_le _⟩ (fun H locs hP hD hS => ?_)
  refine lv_sipush (v := 255) hx hb dX1_shiftedByRegister_26 (by decide) ?_
  refine lv_iand hx hb dX1_shiftedByRegister_29 ?_
  refine lv_istore_n (lv' := [(3, .int ((x_Registers_readLate σ (x_Bits_four v0 8)) &&& 255)), (2, .int (x_Registers_readLate σ (x_Bits_four v0 0))), (0, .ref (gA G 7)), (1, .int v0)]) hx hb dX1_shiftedByRegister_30 rfl hl (by decide) rfl (fun ls hl => ?_)
  refine lv_aload_n hx hb dX1_shiftedByRegister_31 rfl (lv_at hl 2 rfl) ?_
  refine va_get (D := gD G) (ci := 1) hx hb hts ku_1 hown hK hP 7 rfl rfl 1 (by decide) (hts _ kw_90) (fun _ h9 => h9) rfl dX1_shiftedByRegister_32 ?_
  refine lv_iload_n hx hb dX1_shiftedByRegister_35 rfl (lv_at hl 3 rfl) ?_
  refine lv_iconst (v := 5) hx hb dX1_shiftedByRegister_36 (by decide) ?_
  refine lv_iushr (v := iu v0 5) hx hb dX1_shiftedByRegister_37 rfl ?_
  refine lv_iconst (v := 3) hx hb dX1_shiftedByRegister_38 (by decide) ?_
  refine lv_iand hx hb dX1_shiftedByRegister_39 ?_
  refine lv_iload_n hx hb dX1_shiftedByRegister_40 rfl (lv_at hl 1 rfl) ?_
  refine lv_iload_n hx hb dX1_shiftedByRegister_41 rfl (lv_at hl 0 rfl) ?_
  refine lv_aload_n hx hb dX1_shiftedByRegister_42 rfl (lv_at hl 2 rfl) ?_
  refine va_get (D := gD G) (ci := 1) hx hb hts ku_1 hown hK hP 7 rfl rfl 0 (by decide) (hts _ kw_89) (fun _ h9 => h9) rfl dX1_shiftedByRegister_43 ?_
  refine kc_Vr (rest := [.int ((x_Registers_readLate σ (x_Bits_four v0 8)) &&& 255), .int (x_Registers_readLate σ (x_Bits_four v0 0)), .int ((iu v0 5) &&& 3), .ref (gA G 10)]) (cx_Registers_carry l G σ) ⟨hx, hb, hml, hown, hts⟩ (cwV 0 hts (gi_V kw_656 kw_367 kw_368 kw_19 kw_369) rfl rfl rfl ⟨rfl, mdX6_carry⟩ ⟨by decide, by decide⟩) (va_recv hK hP (ci := 4) (q0 := 3) rfl rfl) cZ_ok hK hP hD hS hA hZ rfl hl.1 rfl (Nat.le_of_ble_eq_true rfl) dX1_shiftedByRegister_46 ⟨Nat.zero_le _, Nat.zero_le _⟩ (fun H locs hP hD hS => ?_)
  refine kc_Vb (rest := []) (cx_Shifter_shift l G σ ((iu v0 5) &&& 3) (x_Registers_readLate σ (x_Bits_four v0 0)) ((x_Registers_readLate σ (x_Bits_four v0 8)) &&& 255) (x_Registers_carry σ)) ⟨hx, hb, hml, hown, hts⟩ (cwV 4 hts (gi_V kw_667 kw_421 kw_422 kw_49 kw_423) rfl rfl rfl ⟨rfl, mdX7_shift⟩ ⟨by decide, by decide⟩) (va_recv hK hP (ci := 5) (q0 := 10) rfl rfl) cZ_ok hK hP hD hS hA hZ rfl hl.1 rfl (Nat.le_of_ble_eq_true rfl) dX1_shiftedByRegister_49 ⟨Nat.zero_le _, Nat.zero_le _⟩ (fun H locs hP hD hS => ?_)
  exact hret ((x_Shifter_shift σ ((iu v0 5) &&& 3) (x_Registers_readLate σ (x_Bits_four v0 0)) ((x_Registers_readLate σ (x_Bits_four v0 8)) &&& 255) (x_Registers_carry σ)).1) ((x_Shifter_shift σ ((iu v0 5) &&& 3) (x_Registers_readLate σ (x_Bits_four v0 0)) ((x_Registers_readLate σ (x_Bits_four v0 8)) &&& 255) (x_Registers_carry σ)).2) _ _ _ _ hf hP hD hS dX1_shiftedByRegister_52
def x_ArmSet_shiftedByNumber (σ : CS) (v0 : Int32) : Int32 × CS := (x_Shifter_shiftByNumber σ ((iu v0 5) &&& 3) (x_Registers_read σ (x_Bits_four v0 0)) (x_Bits_five v0 7) (x_Registers_carry σ))
set_option maxRecDepth 20000 in
set_option maxHeartbeats 4000000 in
theorem cx_ArmSet_shiftedByNumber (l : Launch) (G : KG) (σ : CS) (v0 : Int32) : KB l yX1_shiftedByNumber (Cond.code yX1_shiftedByNumber cX1_shiftedByNumber 4 (some .int) :: lw_all) (kr 3) (gD G) vwCl (gT G) (cZ G) (cW G) [.ref (gA G 7), .int v0] σ (x_ArmSet_shiftedByNumber σ v0) := by
  refine kc_in_b (q := x_ArmSet_shiftedByNumber σ v0) (by decide) rfl (Nat.le_of_ble_eq_true rfl) ?_
  intro p e s m args below meth c A Q ls hx hb hml hown hts hK hP hD hA hS hZ hl hret
  have hts := fun w h => hts w (List.mem_cons_of_mem _ h)
  have hl : lv_has ls 4 [(0, .ref (gA G 7)), (1, .int v0)] := hl
  have hf : x_ArmSet_shiftedByNumber σ v0 = x_ArmSet_shiftedByNumber σ v0 := rfl
  refine lv_aload_n hx hb dX1_shiftedByNumber_0 rfl (lv_at hl 0 rfl) ?_
  refine va_get (D := gD G) (ci := 1) hx hb hts ku_1 hown hK hP 7 rfl rfl 0 (by decide) (hts _ kw_89) (fun _ h9 => h9) rfl dX1_shiftedByNumber_1 ?_
  refine lv_iload_n hx hb dX1_shiftedByNumber_4 rfl (lv_at hl 1 rfl) ?_
  refine lv_iconst (v := 0) hx hb dX1_shiftedByNumber_5 (by decide) ?_
  refine kp_Si (rest := [.ref (gA G 3)]) (cx_Bits_four l v0 0) ⟨hx, hb, hml, hown, hts⟩ (va_cwS 2 hts (gi_S kw_590 kw_345 kw_346 kw_347) rfl rfl rfl mdX2_four ⟨by decide, by decide⟩) rfl hl.1 rfl (Nat.le_of_ble_eq_true rfl) dX1_shiftedByNumber_6 ⟨Nat.zero_le _, Nat.zero_le _⟩ ?_
  refine kc_Vr (rest := []) (cx_Registers_read l G σ (x_Bits_four v0 0) (bt4_16 _ _)) ⟨hx, hb, hml, hown, hts⟩ (cwV 1 hts (gi_V kw_591 kw_359 kw_360 kw_19 kw_361) rfl rfl rfl ⟨rfl, mdX6_read⟩ ⟨by decide, by decide⟩) (va_recv hK hP (ci := 4) (q0 := 3) rfl rfl) cZ_ok hK hP hD hS hA hZ rfl hl.1 rfl (Nat.le_of_ble_eq_true rfl) dX1_shiftedByNumber_9 ⟨Nat.zero_le _, Nat.zero_le _⟩ (fun H locs hP hD hS => ?_)
  refine lv_istore_n (lv' := [(2, .int (x_Registers_read σ (x_Bits_four v0 0))), (0, .ref (gA G 7)), (1, .int v0)]) hx hb dX1_shiftedByNumber_12 rfl hl (by decide) rfl (fun ls hl => ?_)
  refine lv_iload_n hx hb dX1_shiftedByNumber_13 rfl (lv_at hl 2 rfl) ?_
  refine lv_bipush (v := 7) hx hb dX1_shiftedByNumber_14 (by decide) ?_
  refine kp_Si (rest := []) (cx_Bits_five l v0 7) ⟨hx, hb, hml, hown, hts⟩ (va_cwS 2 hts (gi_S kw_672 kw_413 kw_346 kw_414) rfl rfl rfl mdX2_five ⟨by decide, by decide⟩) rfl hl.1 rfl (Nat.le_of_ble_eq_true rfl) dX1_shiftedByNumber_16 ⟨Nat.zero_le _, Nat.zero_le _⟩ ?_
  refine lv_istore_n (lv' := [(3, .int (x_Bits_five v0 7)), (2, .int (x_Registers_read σ (x_Bits_four v0 0))), (0, .ref (gA G 7)), (1, .int v0)]) hx hb dX1_shiftedByNumber_19 rfl hl (by decide) rfl (fun ls hl => ?_)
  refine lv_aload_n hx hb dX1_shiftedByNumber_20 rfl (lv_at hl 2 rfl) ?_
  refine va_get (D := gD G) (ci := 1) hx hb hts ku_1 hown hK hP 7 rfl rfl 1 (by decide) (hts _ kw_90) (fun _ h9 => h9) rfl dX1_shiftedByNumber_21 ?_
  refine lv_iload_n hx hb dX1_shiftedByNumber_24 rfl (lv_at hl 3 rfl) ?_
  refine lv_iconst (v := 5) hx hb dX1_shiftedByNumber_25 (by decide) ?_
  refine lv_iushr (v := iu v0 5) hx hb dX1_shiftedByNumber_26 rfl ?_
  refine lv_iconst (v := 3) hx hb dX1_shiftedByNumber_27 (by decide) ?_
  refine lv_iand hx hb dX1_shiftedByNumber_28 ?_
  refine lv_iload_n hx hb dX1_shiftedByNumber_29 rfl (lv_at hl 1 rfl) ?_
  refine lv_iload_n hx hb dX1_shiftedByNumber_30 rfl (lv_at hl 0 rfl) ?_
  refine lv_aload_n hx hb dX1_shiftedByNumber_31 rfl (lv_at hl 2 rfl) ?_
  refine va_get (D := gD G) (ci := 1) hx hb hts ku_1 hown hK hP 7 rfl rfl 0 (by decide) (hts _ kw_89) (fun _ h9 => h9) rfl dX1_shiftedByNumber_32 ?_
  refine kc_Vr (rest := [.int (x_Bits_five v0 7), .int (x_Registers_read σ (x_Bits_four v0 0)), .int ((iu v0 5) &&& 3), .ref (gA G 10)]) (cx_Registers_carry l G σ) ⟨hx, hb, hml, hown, hts⟩ (cwV 0 hts (gi_V kw_656 kw_367 kw_368 kw_19 kw_369) rfl rfl rfl ⟨rfl, mdX6_carry⟩ ⟨by decide, by decide⟩) (va_recv hK hP (ci := 4) (q0 := 3) rfl rfl) cZ_ok hK hP hD hS hA hZ rfl hl.1 rfl (Nat.le_of_ble_eq_true rfl) dX1_shiftedByNumber_35 ⟨Nat.zero_le _, Nat.zero_le _⟩ (fun H locs hP hD hS => ?_)
  refine kc_Vb (rest := []) (cx_Shifter_shiftByNumber l G σ ((iu v0 5) &&& 3) (x_Registers_read σ (x_Bits_four v0 0)) (x_Bits_five v0 7) (x_Registers_carry σ)) ⟨hx, hb, hml, hown, hts⟩ (cwV 4 hts (gi_V kw_673 kw_417 kw_418 kw_49 kw_419) rfl rfl rfl ⟨rfl, mdX7_shiftByNumber⟩ ⟨by decide, by decide⟩) (va_recv hK hP (ci := 5) (q0 := 10) rfl rfl) cZ_ok hK hP hD hS hA hZ rfl hl.1 rfl (Nat.le_of_ble_eq_true rfl) dX1_shiftedByNumber_38 ⟨Nat.zero_le _, Nat.zero_le _⟩ (fun H locs hP hD hS => ?_)
  exact hret ((x_Shifter_shiftByNumber σ ((iu v0 5) &&& 3) (x_Registers_read σ (x_Bits_four v0 0)) (x_Bits_five v0 7) (x_Registers_carry σ)).1) ((x_Shifter_shiftByNumber σ ((iu v0 5) &&& 3) (x_Registers_read σ (x_Bits_four v0 0)) (x_Bits_five v0 7) (x_Registers_carry σ)).2) _ _ _ _ hf hP hD hS dX1_shiftedByNumber_41
def x_ArmSet_data_222 (σ : CS) (v0 : Int32) (τ_118 : CS) (k0_144 : Int32) (n7_118 : Int32) (τ_222 : CS) : Int32 × CS := (if (x_Alu_isTest (x_Bits_four v0 21)) = true then ((-1), τ_222) else ((-1), x_Registers_write τ_222 (x_Bits_four v0 12) ((x_Alu_compute τ_118 (x_Bits_four v0 21) k0_144 n7_118 (x_Shifter_carry τ_118)).1)))
def x_ArmSet_data_191 (σ : CS) (v0 : Int32) (τ_118 : CS) (k0_144 : Int32) (n7_118 : Int32) : Int32 × CS := x_ArmSet_data_222 σ v0 τ_118 k0_144 n7_118 (x_Registers_changeFlags ((x_Alu_compute τ_118 (x_Bits_four v0 21) k0_144 n7_118 (x_Shifter_carry τ_118)).2) (x_Alu_flags ((x_Alu_compute τ_118 (x_Bits_four v0 21) k0_144 n7_118 (x_Shifter_carry τ_118)).2)))
def x_ArmSet_data_144 (σ : CS) (v0 : Int32) (n7_118 : Int32) (τ_118 : CS) (k0_144 : Int32) : Int32 × CS := (if (x_Bits_on v0 20) = true then (if (x_Alu_isTest (x_Bits_four v0 21)) = true then x_ArmSet_data_191 σ v0 τ_118 k0_144 n7_118 else (if (x_Bits_four v0 12) = 15 then x_ArmSet_data_222 σ v0 τ_118 k0_144 n7_118 (x_Registers_changeCpsr ((x_Alu_compute τ_118 (x_Bits_four v0 21) k0_144 n7_118 (x_Shifter_carry τ_118)).2) (x_Registers_spsrOrCpsr ((x_Alu_compute τ_118 (x_Bits_four v0 21) k0_144 n7_118 (x_Shifter_carry τ_118)).2))) else x_ArmSet_data_191 σ v0 τ_118 k0_144 n7_118)) else x_ArmSet_data_222 σ v0 τ_118 k0_144 n7_118 ((x_Alu_compute τ_118 (x_Bits_four v0 21) k0_144 n7_118 (x_Shifter_carry τ_118)).2))
def x_ArmSet_data_118 (σ : CS) (v0 : Int32) (n7_118 : Int32) (τ_118 : CS) : Int32 × CS := (if (decide ((v0 &&& 33554448) = 16)) = true then x_ArmSet_data_144 σ v0 n7_118 τ_118 (x_Registers_readLate τ_118 (x_Bits_four v0 16)) else x_ArmSet_data_144 σ v0 n7_118 τ_118 (x_Registers_read τ_118 (x_Bits_four v0 16)))
def x_ArmSet_data_116 (σ : CS) (v0 : Int32) (k0_116 : Int32) (τ_116 : CS) : Int32 × CS := x_ArmSet_data_118 σ v0 k0_116 τ_116
def x_ArmSet_data_61 (σ : CS) (v0 : Int32) : Int32 × CS := (if (x_Bits_on v0 25) = true then x_ArmSet_data_118 σ v0 ((x_Shifter_turnedNumber σ v0 (x_Registers_carry σ)).1) ((x_Shifter_turnedNumber σ v0 (x_Registers_carry σ)).2) else (if (decide ((v0 &&& 33554448) = 16)) = true then x_ArmSet_data_116 σ v0 ((x_ArmSet_shiftedByRegister σ v0).1) ((x_ArmSet_shiftedByRegister σ v0).2) else x_ArmSet_data_116 σ v0 ((x_ArmSet_shiftedByNumber σ v0).1) ((x_ArmSet_shiftedByNumber σ v0).2)))
def x_ArmSet_data_45 (σ : CS) (v0 : Int32) : Int32 × CS := (if (decide ((v0 &&& 33554448) = 16)) = true then (if (x_Bits_on v0 7) = true then (0, σ) else x_ArmSet_data_61 σ v0) else x_ArmSet_data_61 σ v0)
def x_ArmSet_data (σ : CS) (v0 : Int32) : Int32 × CS := (if (x_Alu_isTest (x_Bits_four v0 21)) = true then (if (x_Bits_on v0 20) = true then x_ArmSet_data_45 σ v0 else (0, σ)) else x_ArmSet_data_45 σ v0)
set_option maxRecDepth 20000 in
set_option maxHeartbeats 4000000 in
theorem cx_ArmSet_data (l : Launch) (G : KG) (σ : CS) (v0 : Int32) : KB l yX1_data (Cond.code yX1_data cX1_data 11 (some .int) :: lw_all) (kr 4) (gD G) vwCl (gT G) (cZ G) (cW G) [.ref (gA G 7), .int v0] σ (x_ArmSet_data σ v0) := by
  refine kc_in_b (q := x_ArmSet_data σ v0) (by decide) rfl (Nat.le_of_ble_eq_true rfl) ?_
  intro p e s m args below meth c A Q ls hx hb hml hown hts hK hP hD hA hS hZ hl hret
  have hts := fun w h => hts w (List.mem_cons_of_mem _ h)
  have hl : lv_has ls 11 [(0, .ref (gA G 7)), (1, .int v0)] := hl
  have hf : x_ArmSet_data σ v0 = x_ArmSet_data σ v0 := rfl
  have J222 : ∀ (τ_118 : CS) (k0_144 : Int32) (n7_118 : Int32) (τ_222 : CS) (H : Heap) (locs : List Loc) (ls : Array Slot), va_P (gD G) vwCl (cW G (τ_222)) H → va_D A (cW G (τ_222)) → va_S A s.heap H locs → lv_has ls 11 [(0, .ref (gA G 7)), (3, .int (b01 (x_Alu_isTest (x_Bits_four v0 21)))), (9, .int ((x_Alu_compute τ_118 (x_Bits_four v0 21) k0_144 n7_118 (x_Shifter_carry τ_118)).1)), (10, .int (x_Bits_four v0 12))] → x_ArmSet_data σ v0 = x_ArmSet_data_222 σ v0 τ_118 k0_144 n7_118 τ_222 → W p l e (kr 4) s m args below meth c H locs 0 0 Q (F0 m 222 ls []) := by
    intro τ_118 k0_144 n7_118 τ_222 H locs ls hP hD hS hl hf
    refine lv_iload_n hx hb dX1_data_222 rfl (lv_at hl 1 rfl) ?_
    refine kz_ne (tgt := 237) hx hb dX1_data_223 (by decide) (fun h_13 => ?_) (fun h_13 => ?_)
    · have hf := hf.trans (if_pos h_13)
      refine lv_iconst (v := (-1)) hx hb dX1_data_237 (by decide) ?_
      exact hret (-1) τ_222 _ _ _ _ hf hP hD hS dX1_data_238
    · have hf := hf.trans (if_neg h_13)
      refine lv_aload_n hx hb dX1_data_226 rfl (lv_at hl 0 rfl) ?_
      refine va_get (D := gD G) (ci := 1) hx hb hts ku_1 hown hK hP 7 rfl rfl 0 (by decide) (hts _ kw_89) (fun _ h9 => h9) rfl dX1_data_227 ?_
      refine lv_iload hx hb dX1_data_230 (lv_at hl 3 rfl) ?_
      refine lv_iload hx hb dX1_data_232 (lv_at hl 2 rfl) ?_
      refine kc_Vv (rest := []) (cx_Registers_write l G τ_222 (x_Bits_four v0 12) ((x_Alu_compute τ_118 (x_Bits_four v0 21) k0_144 n7_118 (x_Shifter_carry τ_118)).1) (bt4_16 _ _)) ⟨hx, hb, hml, hown, hts⟩ (cwV 2 hts (gi_V kw_605 kw_403 kw_404 kw_19 kw_405) rfl rfl rfl ⟨rfl, mdX6_write⟩ ⟨by decide, by decide⟩) (va_recv hK hP (ci := 4) (q0 := 3) rfl rfl) cZ_ok hK hP hD hS hA hZ rfl hl.1 rfl (Nat.le_of_ble_eq_true rfl) dX1_data_234 ⟨Nat.zero_le _, Nat.zero_le _⟩ (fun H locs hP hD hS => ?_)
      refine lv_iconst (v := (-1)) hx hb dX1_data_237 (by decide) ?_
      exact hret (-1) (x_Registers_write τ_222 (x_Bits_four v0 12) ((x_Alu_compute τ_118 (x_Bits_four v0 21) k0_144 n7_118 (x_Shifter_carry τ_118)).1)) _ _ _ _ hf hP hD hS dX1_data_238
  have J191 : ∀ (τ_118 : CS) (k0_144 : Int32) (n7_118 : Int32) (H : Heap) (locs : List Loc) (ls : Array Slot), va_P (gD G) vwCl (cW G ((x_Alu_compute τ_118 (x_Bits_four v0 21) k0_144 n7_118 (x_Shifter_carry τ_118)).2)) H → va_D A (cW G ((x_Alu_compute τ_118 (x_Bits_four v0 21) k0_144 n7_118 (x_Shifter_carry τ_118)).2)) → va_S A s.heap H locs → lv_has ls 11 [(0, .ref (gA G 7)), (3, .int (b01 (x_Alu_isTest (x_Bits_four v0 21)))), (9, .int ((x_Alu_compute τ_118 (x_Bits_four v0 21) k0_144 n7_118 (x_Shifter_carry τ_118)).1)), (10, .int (x_Bits_four v0 12))] → x_ArmSet_data σ v0 = x_ArmSet_data_191 σ v0 τ_118 k0_144 n7_118 → W p l e (kr 4) s m args below meth c H locs 0 0 Q (F0 m 191 ls []) := by
    intro τ_118 k0_144 n7_118 H locs ls hP hD hS hl hf
    refine lv_aload_n hx hb dX1_data_191 rfl (lv_at hl 0 rfl) ?_
    refine va_get (D := gD G) (ci := 1) hx hb hts ku_1 hown hK hP 7 rfl rfl 0 (by decide) (hts _ kw_89) (fun _ h9 => h9) rfl dX1_data_192 ?_
    refine lv_aload_n hx hb dX1_data_195 rfl (lv_at hl 0 rfl) ?_
    refine va_get (D := gD G) (ci := 1) hx hb hts ku_1 hown hK hP 7 rfl rfl 2 (by decide) (hts _ kw_91) (fun _ h9 => h9) rfl dX1_data_196 ?_
    refine kc_Vr (rest := [.ref (gA G 3)]) (cx_Alu_flags l G ((x_Alu_compute τ_118 (x_Bits_four v0 21) k0_144 n7_118 (x_Shifter_carry τ_118)).2)) ⟨hx, hb, hml, hown, hts⟩ (cwV 0 hts (gi_V kw_676 kw_437 kw_438 kw_52 kw_439) rfl rfl rfl ⟨rfl, mdX0_flags⟩ ⟨by decide, by decide⟩) (va_recv hK hP (ci := 0) (q0 := 11) rfl rfl) cZ_ok hK hP hD hS hA hZ rfl hl.1 rfl (Nat.le_of_ble_eq_true rfl) dX1_data_199 ⟨Nat.zero_le _, Nat.zero_le _⟩ (fun H locs hP hD hS => ?_)
    refine kc_Vv (rest := []) (cx_Registers_changeFlags l G ((x_Alu_compute τ_118 (x_Bits_four v0 21) k0_144 n7_118 (x_Shifter_carry τ_118)).2) (x_Alu_flags ((x_Alu_compute τ_118 (x_Bits_four v0 21) k0_144 n7_118 (x_Shifter_carry τ_118)).2))) ⟨hx, hb, hml, hown, hts⟩ (cwV 1 hts (gi_V kw_677 kw_394 kw_395 kw_19 kw_396) rfl rfl rfl ⟨rfl, mdX6_changeFlags⟩ ⟨by decide, by decide⟩) (va_recv hK hP (ci := 4) (q0 := 3) rfl rfl) cZ_ok hK hP hD hS hA hZ rfl hl.1 rfl (Nat.le_of_ble_eq_true rfl) dX1_data_202 ⟨Nat.zero_le _, Nat.zero_le _⟩ (fun H locs hP hD hS => ?_)
    refine lv_goto (tgt := 222) hx hb dX1_data_205 (by decide) ?_
    exact J222 τ_118 k0_144 n7_118 (x_Registers_changeFlags ((x_Alu_compute τ_118 (x_Bits_four v0 21) k0_144 n7_118 (x_Shifter_carry τ_118)).2) (x_Alu_flags ((x_Alu_compute τ_118 (x_Bits_four v0 21) k0_144 n7_118 (x_Shifter_carry τ_118)).2))) _ _ _ hP hD hS (lv_sub hl [0, 1, 2, 3] rfl) hf
  have J144 : ∀ (n7_118 : Int32) (τ_118 : CS) (k0_144 : Int32) (H : Heap) (locs : List Loc) (ls : Array Slot), va_P (gD G) vwCl (cW G (τ_118)) H → va_D A (cW G (τ_118)) → va_S A s.heap H locs → lv_has ls 11 [(0, .ref (gA G 7)), (1, .int v0), (2, .int (x_Bits_four v0 21)), (3, .int (b01 (x_Alu_isTest (x_Bits_four v0 21)))), (4, .int (b01 (x_Bits_on v0 20))), (7, .int n7_118)] → x_ArmSet_data σ v0 = x_ArmSet_data_144 σ v0 n7_118 τ_118 k0_144 → W p l e (kr 4) s m args below meth c H locs 0 0 Q (F0 m 144 ls [.int k0_144]) := by
    intro n7_118 τ_118 k0_144 H locs ls hP hD hS hl hf
    refine lv_istore (lv' := [(8, .int k0_144), (0, .ref (gA G 7)), (1, .int v0), (2, .int (x_Bits_four v0 21)), (3, .int (b01 (x_Alu_isTest (x_Bits_four v0 21)))), (4, .int (b01 (x_Bits_on v0 20))), (7, .int n7_118)]) hx hb dX1_data_144 hl (by decide) rfl (fun ls hl => ?_)
    refine lv_aload_n hx hb dX1_data_146 rfl (lv_at hl 1 rfl) ?_
    refine va_get (D := gD G) (ci := 1) hx hb hts ku_1 hown hK hP 7 rfl rfl 2 (by decide) (hts _ kw_91) (fun _ h9 => h9) rfl dX1_data_147 ?_
    refine lv_iload_n hx hb dX1_data_150 rfl (lv_at hl 3 rfl) ?_
    refine lv_iload hx hb dX1_data_151 (lv_at hl 0 rfl) ?_
    refine lv_iload hx hb dX1_data_153 (lv_at hl 6 rfl) ?_
    refine lv_aload_n hx hb dX1_data_155 rfl (lv_at hl 1 rfl) ?_
    refine va_get (D := gD G) (ci := 1) hx hb hts ku_1 hown hK hP 7 rfl rfl 1 (by decide) (hts _ kw_90) (fun _ h9 => h9) rfl dX1_data_156 ?_
    refine kc_Vr (rest := [.int n7_118, .int k0_144, .int (x_Bits_four v0 21), .ref (gA G 11)]) (cx_Shifter_carry l G τ_118) ⟨hx, hb, hml, hown, hts⟩ (cwV 0 hts (gi_V kw_674 kw_432 kw_433 kw_49 kw_434) rfl rfl rfl ⟨rfl, mdX7_carry⟩ ⟨by decide, by decide⟩) (va_recv hK hP (ci := 5) (q0 := 10) rfl rfl) cZ_ok hK hP hD hS hA hZ rfl hl.1 rfl (Nat.le_of_ble_eq_true rfl) dX1_data_159 ⟨Nat.zero_le _, Nat.zero_le _⟩ (fun H locs hP hD hS => ?_)
    refine kc_Vb (rest := []) (cx_Alu_compute l G τ_118 (x_Bits_four v0 21) k0_144 n7_118 (x_Shifter_carry τ_118)) ⟨hx, hb, hml, hown, hts⟩ (cwV 4 hts (gi_V kw_675 kw_371 kw_372 kw_52 kw_373) rfl rfl rfl ⟨rfl, mdX0_compute⟩ ⟨by decide, by decide⟩) (va_recv hK hP (ci := 0) (q0 := 11) rfl rfl) cZ_ok hK hP hD hS hA hZ rfl hl.1 rfl (Nat.le_of_ble_eq_true rfl) dX1_data_162 ⟨Nat.zero_le _, Nat.zero_le _⟩ (fun H locs hP hD hS => ?_)
    refine lv_istore (lv' := [(9, .int ((x_Alu_compute τ_118 (x_Bits_four v0 21) k0_144 n7_118 (x_Shifter_carry τ_118)).1)), (8, .int k0_144), (0, .ref (gA G 7)), (1, .int v0), (2, .int (x_Bits_four v0 21)), (3, .int (b01 (x_Alu_isTest (x_Bits_four v0 21)))), (4, .int (b01 (x_Bits_on v0 20))), (7, .int n7_118)]) hx hb dX1_data_165 hl (by decide) rfl (fun ls hl => ?_)
    refine lv_iload_n hx hb dX1_data_167 rfl (lv_at hl 3 rfl) ?_
    refine lv_bipush (v := 12) hx hb dX1_data_168 (by decide) ?_
    refine kp_Si (rest := []) (cx_Bits_four l v0 12) ⟨hx, hb, hml, hown, hts⟩ (va_cwS 2 hts (gi_S kw_590 kw_345 kw_346 kw_347) rfl rfl rfl mdX2_four ⟨by decide, by decide⟩) rfl hl.1 rfl (Nat.le_of_ble_eq_true rfl) dX1_data_170 ⟨Nat.zero_le _, Nat.zero_le _⟩ ?_
    refine lv_istore (lv' := [(10, .int (x_Bits_four v0 12)), (9, .int ((x_Alu_compute τ_118 (x_Bits_four v0 21) k0_144 n7_118 (x_Shifter_carry τ_118)).1)), (8, .int k0_144), (0, .ref (gA G 7)), (1, .int v0), (2, .int (x_Bits_four v0 21)), (3, .int (b01 (x_Alu_isTest (x_Bits_four v0 21)))), (4, .int (b01 (x_Bits_on v0 20))), (7, .int n7_118)]) hx hb dX1_data_173 hl (by decide) rfl (fun ls hl => ?_)
    refine lv_iload hx hb dX1_data_175 (lv_at hl 7 rfl) ?_
    refine kz_eq (tgt := 222) hx hb dX1_data_177 (by decide) (fun h_14 => ?_) (fun h_14 => ?_)
    · have hf := hf.trans (if_neg h_14)
      exact J222 τ_118 k0_144 n7_118 ((x_Alu_compute τ_118 (x_Bits_four v0 21) k0_144 n7_118 (x_Shifter_carry τ_118)).2) _ _ _ hP hD hS (lv_sub hl [3, 6, 1, 0] rfl) hf
    · have hf := hf.trans (if_pos h_14)
      refine lv_iload_n hx hb dX1_data_180 rfl (lv_at hl 6 rfl) ?_
      refine kz_ne (tgt := 191) hx hb dX1_data_181 (by decide) (fun h_15 => ?_) (fun h_15 => ?_)
      · have hf := hf.trans (if_pos h_15)
        exact J191 τ_118 k0_144 n7_118 _ _ _ hP hD hS (lv_sub hl [3, 6, 1, 0] rfl) hf
      · have hf := hf.trans (if_neg h_15)
        refine lv_iload hx hb dX1_data_184 (lv_at hl 0 rfl) ?_
        refine lv_bipush (v := 15) hx hb dX1_data_186 (by decide) ?_
        refine lv_icmp_eq (tgt := 208) hx hb dX1_data_188 (by decide) (fun h_16 => ?_) (fun h_16 => ?_)
        · have hf := hf.trans (if_pos h_16)
          refine lv_aload_n hx hb dX1_data_208 rfl (lv_at hl 3 rfl) ?_
          refine va_get (D := gD G) (ci := 1) hx hb hts ku_1 hown hK hP 7 rfl rfl 0 (by decide) (hts _ kw_89) (fun _ h9 => h9) rfl dX1_data_209 ?_
          refine lv_aload_n hx hb dX1_data_212 rfl (lv_at hl 3 rfl) ?_
          refine va_get (D := gD G) (ci := 1) hx hb hts ku_1 hown hK hP 7 rfl rfl 0 (by decide) (hts _ kw_89) (fun _ h9 => h9) rfl dX1_data_213 ?_
          refine kc_Vr (rest := [.ref (gA G 3)]) (cx_Registers_spsrOrCpsr l G ((x_Alu_compute τ_118 (x_Bits_four v0 21) k0_144 n7_118 (x_Shifter_carry τ_118)).2)) ⟨hx, hb, hml, hown, hts⟩ (cwV 0 hts (gi_V kw_632 kw_537 kw_538 kw_19 kw_539) rfl rfl rfl ⟨rfl, mdX6_spsrOrCpsr⟩ ⟨by decide, by decide⟩) (va_recv hK hP (ci := 4) (q0 := 3) rfl rfl) cZ_ok hK hP hD hS hA hZ rfl hl.1 rfl (Nat.le_of_ble_eq_true rfl) dX1_data_216 ⟨Nat.zero_le _, Nat.zero_le _⟩ (fun H locs hP hD hS => ?_)
          refine kc_Vv (rest := []) (cx_Registers_changeCpsr l G ((x_Alu_compute τ_118 (x_Bits_four v0 21) k0_144 n7_118 (x_Shifter_carry τ_118)).2) (x_Registers_spsrOrCpsr ((x_Alu_compute τ_118 (x_Bits_four v0 21) k0_144 n7_118 (x_Shifter_carry τ_118)).2))) ⟨hx, hb, hml, hown, hts⟩ (cwV 1 hts (gi_V kw_678 kw_241 kw_242 kw_19 kw_243) rfl rfl rfl ⟨rfl, mdX6_changeCpsr⟩ ⟨by decide, by decide⟩) (va_recv hK hP (ci := 4) (q0 := 3) rfl rfl) cZ_ok hK hP hD hS hA hZ rfl hl.1 rfl (Nat.le_of_ble_eq_true rfl) dX1_data_219 ⟨Nat.zero_le _, Nat.zero_le _⟩ (fun H locs hP hD hS => ?_)
          exact J222 τ_118 k0_144 n7_118 (x_Registers_changeCpsr ((x_Alu_compute τ_118 (x_Bits_four v0 21) k0_144 n7_118 (x_Shifter_carry τ_118)).2) (x_Registers_spsrOrCpsr ((x_Alu_compute τ_118 (x_Bits_four v0 21) k0_144 n7_118 (x_Shifter_carry τ_118)).2))) _ _ _ hP hD hS (lv_sub hl [3, 6, 1, 0] rfl) hf
        · have hf := hf.trans (if_neg h_16)
          exact J191 τ_118 k0_144 n7_118 _ _ _ hP hD hS (lv_sub hl [3, 6, 1, 0] rfl) hf
  have J118 : ∀ (n7_118 : Int32) (τ_118 : CS) (H : Heap) (locs : List Loc) (ls : Array Slot), va_P (gD G) vwCl (cW G (τ_118)) H → va_D A (cW G (τ_118)) → va_S A s.heap H locs → lv_has ls 11 [(0, .ref (gA G 7)), (1, .int v0), (2, .int (x_Bits_four v0 21)), (3, .int (b01 (x_Alu_isTest (x_Bits_four v0 21)))), (4, .int (b01 (x_Bits_on v0 20))), (5, .int (b01 (decide ((v0 &&& 33554448) = 16)))), (6, .int (x_Bits_four v0 16)), (7, .int n7_118)] → x_ArmSet_data σ v0 = x_ArmSet_data_118 σ v0 n7_118 τ_118 → W p l e (kr 4) s m args below meth c H locs 0 0 Q (F0 m 118 ls []) := by
    intro n7_118 τ_118 H locs ls hP hD hS hl hf
    refine lv_iload hx hb dX1_data_118 (lv_at hl 5 rfl) ?_
    refine kz_eq (tgt := 135) hx hb dX1_data_120 (by decide) (fun h_17 => ?_) (fun h_17 => ?_)
    · have hf := hf.trans (if_neg h_17)
      refine lv_aload_n hx hb dX1_data_135 rfl (lv_at hl 0 rfl) ?_
      refine va_get (D := gD G) (ci := 1) hx hb hts ku_1 hown hK hP 7 rfl rfl 0 (by decide) (hts _ kw_89) (fun _ h9 => h9) rfl dX1_data_136 ?_
      refine lv_iload hx hb dX1_data_139 (lv_at hl 6 rfl) ?_
      refine kc_Vr (rest := []) (cx_Registers_read l G τ_118 (x_Bits_four v0 16) (bt4_16 _ _)) ⟨hx, hb, hml, hown, hts⟩ (cwV 1 hts (gi_V kw_591 kw_359 kw_360 kw_19 kw_361) rfl rfl rfl ⟨rfl, mdX6_read⟩ ⟨by decide, by decide⟩) (va_recv hK hP (ci := 4) (q0 := 3) rfl rfl) cZ_ok hK hP hD hS hA hZ rfl hl.1 rfl (Nat.le_of_ble_eq_true rfl) dX1_data_141 ⟨Nat.zero_le _, Nat.zero_le _⟩ (fun H locs hP hD hS => ?_)
      exact J144 n7_118 τ_118 (x_Registers_read τ_118 (x_Bits_four v0 16)) _ _ _ hP hD hS (lv_sub hl [0, 1, 2, 3, 4, 7] rfl) hf
    · have hf := hf.trans (if_pos h_17)
      refine lv_aload_n hx hb dX1_data_123 rfl (lv_at hl 0 rfl) ?_
      refine va_get (D := gD G) (ci := 1) hx hb hts ku_1 hown hK hP 7 rfl rfl 0 (by decide) (hts _ kw_89) (fun _ h9 => h9) rfl dX1_data_124 ?_
      refine lv_iload hx hb dX1_data_127 (lv_at hl 6 rfl) ?_
      refine kc_Vr (rest := []) (cx_Registers_readLate l G τ_118 (x_Bits_four v0 16) (bt4_16 _ _)) ⟨hx, hb, hml, hown, hts⟩ (cwV 1 hts (gi_V kw_666 kw_624 kw_625 kw_19 kw_626) rfl rfl rfl ⟨rfl, mdX6_readLate⟩ ⟨by decide, by decide⟩) (va_recv hK hP (ci := 4) (q0 := 3) rfl rfl) cZ_ok hK hP hD hS hA hZ rfl hl.1 rfl (Nat.le_of_ble_eq_true rfl) dX1_data_129 ⟨Nat.zero_le _, Nat.zero_le _⟩ (fun H locs hP hD hS => ?_)
      refine lv_goto (tgt := 144) hx hb dX1_data_132 (by decide) ?_
      exact J144 n7_118 τ_118 (x_Registers_readLate τ_118 (x_Bits_four v0 16)) _ _ _ hP hD hS (lv_sub hl [0, 1, 2, 3, 4, 7] rfl) hf
  have J116 : ∀ (k0_116 : Int32) (τ_116 : CS) (H : Heap) (locs : List Loc) (ls : Array Slot), va_P (gD G) vwCl (cW G (τ_116)) H → va_D A (cW G (τ_116)) → va_S A s.heap H locs → lv_has ls 11 [(0, .ref (gA G 7)), (1, .int v0), (2, .int (x_Bits_four v0 21)), (3, .int (b01 (x_Alu_isTest (x_Bits_four v0 21)))), (4, .int (b01 (x_Bits_on v0 20))), (5, .int (b01 (decide ((v0 &&& 33554448) = 16)))), (6, .int (x_Bits_four v0 16))] → x_ArmSet_data σ v0 = x_ArmSet_data_116 σ v0 k0_116 τ_116 → W p l e (kr 4) s m args below meth c H locs 0 0 Q (F0 m 116 ls [.int k0_116]) := by
    intro k0_116 τ_116 H locs ls hP hD hS hl hf
    refine lv_istore (lv' := [(7, .int k0_116), (0, .ref (gA G 7)), (1, .int v0), (2, .int (x_Bits_four v0 21)), (3, .int (b01 (x_Alu_isTest (x_Bits_four v0 21)))), (4, .int (b01 (x_Bits_on v0 20))), (5, .int (b01 (decide ((v0 &&& 33554448) = 16)))), (6, .int (x_Bits_four v0 16))]) hx hb dX1_data_116 hl (by decide) rfl (fun ls hl => ?_)
    exact J118 k0_116 τ_116 _ _ _ hP hD hS (lv_sub hl [1, 2, 3, 4, 5, 6, 7, 0] rfl) hf
  have J61 : ∀ (H : Heap) (locs : List Loc) (ls : Array Slot), va_P (gD G) vwCl (cW G (σ)) H → va_D A (cW G (σ)) → va_S A s.heap H locs → lv_has ls 11 [(0, .ref (gA G 7)), (1, .int v0), (2, .int (x_Bits_four v0 21)), (3, .int (b01 (x_Alu_isTest (x_Bits_four v0 21)))), (4, .int (b01 (x_Bits_on v0 20))), (5, .int (b01 (decide ((v0 &&& 33554448) = 16))))] → x_ArmSet_data σ v0 = x_ArmSet_data_61 σ v0 → W p l e (kr 4) s m args below meth c H locs 0 0 Q (F0 m 61 ls []) := by
    intro H locs ls hP hD hS hl hf
    refine lv_iload_n hx hb dX1_data_61 rfl (lv_at hl 1 rfl) ?_
    refine lv_bipush (v := 16) hx hb dX1_data_62 (by decide) ?_
    refine kp_Si (rest := []) (cx_Bits_four l v0 16) ⟨hx, hb, hml, hown, hts⟩ (va_cwS 2 hts (gi_S kw_590 kw_345 kw_346 kw_347) rfl rfl rfl mdX2_four ⟨by decide, by decide⟩) rfl hl.1 rfl (Nat.le_of_ble_eq_true rfl) dX1_data_64 ⟨Nat.zero_le _, Nat.zero_le _⟩ ?_
    refine lv_istore (lv' := [(6, .int (x_Bits_four v0 16)), (0, .ref (gA G 7)), (1, .int v0), (2, .int (x_Bits_four v0 21)), (3, .int (b01 (x_Alu_isTest (x_Bits_four v0 21)))), (4, .int (b01 (x_Bits_on v0 20))), (5, .int (b01 (decide ((v0 &&& 33554448) = 16))))]) hx hb dX1_data_67 hl (by decide) rfl (fun ls hl => ?_)
    refine lv_iload_n hx hb dX1_data_69 rfl (lv_at hl 2 rfl) ?_
    refine lv_bipush (v := 25) hx hb dX1_data_70 (by decide) ?_
    refine kp_Si (rest := []) (cx_Bits_on l v0 25) ⟨hx, hb, hml, hown, hts⟩ (va_cwS 2 hts (gi_S kw_597 kw_356 kw_346 kw_357) rfl rfl rfl mdX2_on ⟨by decide, by decide⟩) rfl hl.1 rfl (Nat.le_of_ble_eq_true rfl) dX1_data_72 ⟨Nat.zero_le _, Nat.zero_le _⟩ ?_
    refine kz_eq (tgt := 98) hx hb dX1_data_75 (by decide) (fun h_18 => ?_) (fun h_18 => ?_)
    · have hf := hf.trans (if_neg h_18)
      refine lv_iload hx hb dX1_data_98 (lv_at hl 6 rfl) ?_
      refine kz_eq (tgt := 111) hx hb dX1_data_100 (by decide) (fun h_19 => ?_) (fun h_19 => ?_)
      · have hf := hf.trans (if_neg h_19)
        refine lv_aload_n hx hb dX1_data_111 rfl (lv_at hl 1 rfl) ?_
        refine lv_iload_n hx hb dX1_data_112 rfl (lv_at hl 2 rfl) ?_
        refine kc_Vb (rest := []) (cx_ArmSet_shiftedByNumber l G σ v0) ⟨hx, hb, hml, hown, hts⟩ (cwV 1 hts (gi_V kw_668 kw_669 kw_670 kw_58 kw_671) rfl rfl rfl ⟨rfl, mdX1_shiftedByNumber⟩ ⟨by decide, by decide⟩) (va_recv hK hP (ci := 1) (q0 := 7) rfl rfl) cZ_ok hK hP hD hS hA hZ rfl hl.1 rfl (Nat.le_of_ble_eq_true rfl) dX1_data_113 ⟨Nat.zero_le _, Nat.zero_le _⟩ (fun H locs hP hD hS => ?_)
        exact J116 ((x_ArmSet_shiftedByNumber σ v0).1) ((x_ArmSet_shiftedByNumber σ v0).2) _ _ _ hP hD hS (lv_sub hl [1, 2, 3, 4, 5, 6, 0] rfl) hf
      · have hf := hf.trans (if_pos h_19)
        refine lv_aload_n hx hb dX1_data_103 rfl (lv_at hl 1 rfl) ?_
        refine lv_iload_n hx hb dX1_data_104 rfl (lv_at hl 2 rfl) ?_
        refine kc_Vb (rest := []) (cx_ArmSet_shiftedByRegister l G σ v0) ⟨hx, hb, hml, hown, hts⟩ (cwV 1 hts (gi_V kw_662 kw_663 kw_664 kw_58 kw_665) rfl rfl rfl ⟨rfl, mdX1_shiftedByRegister⟩ ⟨by decide, by decide⟩) (va_recv hK hP (ci := 1) (q0 := 7) rfl rfl) cZ_ok hK hP hD hS hA hZ rfl hl.1 rfl (Nat.le_of_ble_eq_true rfl) dX1_data_105 ⟨Nat.zero_le _, Nat.zero_le _⟩ (fun H locs hP hD hS => ?_)
        refine lv_goto (tgt := 116) hx hb dX1_data_108 (by decide) ?_
        exact J116 ((x_ArmSet_shiftedByRegister σ v0).1) ((x_ArmSet_shiftedByRegister σ v0).2) _ _ _ hP hD hS (lv_sub hl [1, 2, 3, 4, 5, 6, 0] rfl) hf
    · have hf := hf.trans (if_pos h_18)
      refine lv_aload_n hx hb dX1_data_78 rfl (lv_at hl 1 rfl) ?_
      refine va_get (D := gD G) (ci := 1) hx hb hts ku_1 hown hK hP 7 rfl rfl 1 (by decide) (hts _ kw_90) (fun _ h9 => h9) rfl dX1_data_79 ?_
      refine lv_iload_n hx hb dX1_data_82 rfl (lv_at hl 2 rfl) ?_
      refine lv_aload_n hx hb dX1_data_83 rfl (lv_at hl 1 rfl) ?_
      refine va_get (D := gD G) (ci := 1) hx hb hts ku_1 hown hK hP 7 rfl rfl 0 (by decide) (hts _ kw_89) (fun _ h9 => h9) rfl dX1_data_84 ?_
      refine kc_Vr (rest := [.int v0, .ref (gA G 10)]) (cx_Registers_carry l G σ) ⟨hx, hb, hml, hown, hts⟩ (cwV 0 hts (gi_V kw_656 kw_367 kw_368 kw_19 kw_369) rfl rfl rfl ⟨rfl, mdX6_carry⟩ ⟨by decide, by decide⟩) (va_recv hK hP (ci := 4) (q0 := 3) rfl rfl) cZ_ok hK hP hD hS hA hZ rfl hl.1 rfl (Nat.le_of_ble_eq_true rfl) dX1_data_87 ⟨Nat.zero_le _, Nat.zero_le _⟩ (fun H locs hP hD hS => ?_)
      refine kc_Vb (rest := []) (cx_Shifter_turnedNumber l G σ v0 (x_Registers_carry σ)) ⟨hx, hb, hml, hown, hts⟩ (cwV 2 hts (gi_V kw_657 kw_658 kw_659 kw_49 kw_660) rfl rfl rfl ⟨rfl, mdX7_turnedNumber⟩ ⟨by decide, by decide⟩) (va_recv hK hP (ci := 5) (q0 := 10) rfl rfl) cZ_ok hK hP hD hS hA hZ rfl hl.1 rfl (Nat.le_of_ble_eq_true rfl) dX1_data_90 ⟨Nat.zero_le _, Nat.zero_le _⟩ (fun H locs hP hD hS => ?_)
      refine lv_istore (lv' := [(7, .int ((x_Shifter_turnedNumber σ v0 (x_Registers_carry σ)).1)), (6, .int (x_Bits_four v0 16)), (0, .ref (gA G 7)), (1, .int v0), (2, .int (x_Bits_four v0 21)), (3, .int (b01 (x_Alu_isTest (x_Bits_four v0 21)))), (4, .int (b01 (x_Bits_on v0 20))), (5, .int (b01 (decide ((v0 &&& 33554448) = 16))))]) hx hb dX1_data_93 hl (by decide) rfl (fun ls hl => ?_)
      refine lv_goto (tgt := 118) hx hb dX1_data_95 (by decide) ?_
      exact J118 ((x_Shifter_turnedNumber σ v0 (x_Registers_carry σ)).1) ((x_Shifter_turnedNumber σ v0 (x_Registers_carry σ)).2) _ _ _ hP hD hS (lv_sub hl [2, 3, 4, 5, 6, 7, 1, 0] rfl) hf
  have J45 : ∀ (H : Heap) (locs : List Loc) (ls : Array Slot), va_P (gD G) vwCl (cW G (σ)) H → va_D A (cW G (σ)) → va_S A s.heap H locs → lv_has ls 11 [(0, .ref (gA G 7)), (1, .int v0), (2, .int (x_Bits_four v0 21)), (3, .int (b01 (x_Alu_isTest (x_Bits_four v0 21)))), (4, .int (b01 (x_Bits_on v0 20))), (5, .int (b01 (decide ((v0 &&& 33554448) = 16))))] → x_ArmSet_data σ v0 = x_ArmSet_data_45 σ v0 → W p l e (kr 4) s m args below meth c H locs 0 0 Q (F0 m 45 ls []) := by
    intro H locs ls hP hD hS hl hf
    refine lv_iload hx hb dX1_data_45 (lv_at hl 5 rfl) ?_
    refine kz_eq (tgt := 61) hx hb dX1_data_47 (by decide) (fun h_20 => ?_) (fun h_20 => ?_)
    · have hf := hf.trans (if_neg h_20)
      exact J61 _ _ _ hP hD hS (lv_sub hl [0, 1, 2, 3, 4, 5] rfl) hf
    · have hf := hf.trans (if_pos h_20)
      refine lv_iload_n hx hb dX1_data_50 rfl (lv_at hl 1 rfl) ?_
      refine lv_bipush (v := 7) hx hb dX1_data_51 (by decide) ?_
      refine kp_Si (rest := []) (cx_Bits_on l v0 7) ⟨hx, hb, hml, hown, hts⟩ (va_cwS 2 hts (gi_S kw_597 kw_356 kw_346 kw_357) rfl rfl rfl mdX2_on ⟨by decide, by decide⟩) rfl hl.1 rfl (Nat.le_of_ble_eq_true rfl) dX1_data_53 ⟨Nat.zero_le _, Nat.zero_le _⟩ ?_
      refine kz_eq (tgt := 61) hx hb dX1_data_56 (by decide) (fun h_21 => ?_) (fun h_21 => ?_)
      · have hf := hf.trans (if_neg h_21)
        exact J61 _ _ _ hP hD hS (lv_sub hl [0, 1, 2, 3, 4, 5] rfl) hf
      · have hf := hf.trans (if_pos h_21)
        refine lv_iconst (v := 0) hx hb dX1_data_59 (by decide) ?_
        exact hret 0 σ _ _ _ _ hf hP hD hS dX1_data_60
  refine lv_iload_n hx hb dX1_data_0 rfl (lv_at hl 1 rfl) ?_
  refine lv_bipush (v := 21) hx hb dX1_data_1 (by decide) ?_
  refine kp_Si (rest := []) (cx_Bits_four l v0 21) ⟨hx, hb, hml, hown, hts⟩ (va_cwS 2 hts (gi_S kw_590 kw_345 kw_346 kw_347) rfl rfl rfl mdX2_four ⟨by decide, by decide⟩) rfl hl.1 rfl (Nat.le_of_ble_eq_true rfl) dX1_data_3 ⟨Nat.zero_le _, Nat.zero_le _⟩ ?_
  refine lv_istore_n (lv' := [(2, .int (x_Bits_four v0 21)), (0, .ref (gA G 7)), (1, .int v0)]) hx hb dX1_data_6 rfl hl (by decide) rfl (fun ls hl => ?_)
  refine lv_iload_n hx hb dX1_data_7 rfl (lv_at hl 0 rfl) ?_
  refine kp_Si (rest := []) (cx_Alu_isTest l (x_Bits_four v0 21)) ⟨hx, hb, hml, hown, hts⟩ (va_cwS 1 hts (gi_S kw_655 kw_400 kw_52 kw_401) rfl rfl rfl mdX0_isTest ⟨by decide, by decide⟩) rfl hl.1 rfl (Nat.le_of_ble_eq_true rfl) dX1_data_8 ⟨Nat.zero_le _, Nat.zero_le _⟩ ?_
  refine lv_istore_n (lv' := [(3, .int (b01 (x_Alu_isTest (x_Bits_four v0 21)))), (2, .int (x_Bits_four v0 21)), (0, .ref (gA G 7)), (1, .int v0)]) hx hb dX1_data_11 rfl hl (by decide) rfl (fun ls hl => ?_)
  refine lv_iload_n hx hb dX1_data_12 rfl (lv_at hl 3 rfl) ?_
  refine lv_bipush (v := 20) hx hb dX1_data_13 (by decide) ?_
  refine kp_Si (rest := []) (cx_Bits_on l v0 20) ⟨hx, hb, hml, hown, hts⟩ (va_cwS 2 hts (gi_S kw_597 kw_356 kw_346 kw_357) rfl rfl rfl mdX2_on ⟨by decide, by decide⟩) rfl hl.1 rfl (Nat.le_of_ble_eq_true rfl) dX1_data_15 ⟨Nat.zero_le _, Nat.zero_le _⟩ ?_
  refine lv_istore (lv' := [(4, .int (b01 (x_Bits_on v0 20))), (3, .int (b01 (x_Alu_isTest (x_Bits_four v0 21)))), (2, .int (x_Bits_four v0 21)), (0, .ref (gA G 7)), (1, .int v0)]) hx hb dX1_data_18 hl (by decide) rfl (fun ls hl => ?_)
  refine lv_iload_n hx hb dX1_data_20 rfl (lv_at hl 4 rfl) ?_
  refine lv_ldc (v := 33554448) hx hb hown (hts _ kw_654) dX1_data_21 ?_
  refine lv_iand hx hb dX1_data_23 ?_
  refine lv_bipush (v := 16) hx hb dX1_data_24 (by decide) ?_
  refine kz_dN0 (P := (v0 &&& 33554448) = 16) (tgt := 33) (M := 34) (fun a b => lv_icmp_ne (tgt := 33) hx hb dX1_data_26 (by decide) a b) hx hb dX1_data_29 dX1_data_30 (by decide) dX1_data_33 rfl ?_
  refine lv_istore (lv' := [(5, .int (b01 (decide ((v0 &&& 33554448) = 16)))), (4, .int (b01 (x_Bits_on v0 20))), (3, .int (b01 (x_Alu_isTest (x_Bits_four v0 21)))), (2, .int (x_Bits_four v0 21)), (0, .ref (gA G 7)), (1, .int v0)]) hx hb dX1_data_34 hl (by decide) rfl (fun ls hl => ?_)
  refine lv_iload_n hx hb dX1_data_36 rfl (lv_at hl 2 rfl) ?_
  refine kz_eq (tgt := 45) hx hb dX1_data_37 (by decide) (fun h_23 => ?_) (fun h_23 => ?_)
  · have hf := hf.trans (if_neg h_23)
    exact J45 _ _ _ hP hD hS (lv_sub hl [4, 5, 3, 2, 1, 0] rfl) hf
  · have hf := hf.trans (if_pos h_23)
    refine lv_iload hx hb dX1_data_40 (lv_at hl 1 rfl) ?_
    refine kz_eq (tgt := 59) hx hb dX1_data_42 (by decide) (fun h_24 => ?_) (fun h_24 => ?_)
    · have hf := hf.trans (if_neg h_24)
      refine lv_iconst (v := 0) hx hb dX1_data_59 (by decide) ?_
      exact hret 0 σ _ _ _ _ hf hP hD hS dX1_data_60
    · have hf := hf.trans (if_pos h_24)
      exact J45 _ _ _ hP hD hS (lv_sub hl [4, 5, 3, 2, 1, 0] rfl) hf
def x_ArmSet_transfer_38 (σ : CS) (v0 : Int32) (k0_38 : Int32) (τ_38 : CS) : Int32 × CS := (x_Transfers_indexed τ_38 v0 (b01 (decide ((x_Bits_on v0 22) = true))) k0_38)
def x_ArmSet_transfer_21 (σ : CS) (v0 : Int32) : Int32 × CS := (if (x_Bits_on v0 25) = true then x_ArmSet_transfer_38 σ v0 ((x_ArmSet_shiftedByNumber σ v0).1) ((x_ArmSet_shiftedByNumber σ v0).2) else x_ArmSet_transfer_38 σ v0 (v0 &&& 4095) σ)
def x_ArmSet_transfer (σ : CS) (v0 : Int32) : Int32 × CS := (if (x_Bits_on v0 25) = true then (if (x_Bits_on v0 4) = true then (0, σ) else x_ArmSet_transfer_21 σ v0) else x_ArmSet_transfer_21 σ v0)
set_option maxRecDepth 20000 in
set_option maxHeartbeats 4000000 in
theorem cx_ArmSet_transfer (l : Launch) (G : KG) (σ : CS) (v0 : Int32) : KB l yX1_transfer (Cond.code yX1_transfer cX1_transfer 5 (some .int) :: lw_all) (kr 4) (gD G) vwCl (gT G) (cZ G) (cW G) [.ref (gA G 7), .int v0] σ (x_ArmSet_transfer σ v0) := by
  refine kc_in_b (q := x_ArmSet_transfer σ v0) (by decide) rfl (Nat.le_of_ble_eq_true rfl) ?_
  intro p e s m args below meth c A Q ls hx hb hml hown hts hK hP hD hA hS hZ hl hret
  have hts := fun w h => hts w (List.mem_cons_of_mem _ h)
  have hl : lv_has ls 5 [(0, .ref (gA G 7)), (1, .int v0)] := hl
  have hf : x_ArmSet_transfer σ v0 = x_ArmSet_transfer σ v0 := rfl
  have J38 : ∀ (k0_38 : Int32) (τ_38 : CS) (H : Heap) (locs : List Loc) (ls : Array Slot), va_P (gD G) vwCl (cW G (τ_38)) H → va_D A (cW G (τ_38)) → va_S A s.heap H locs → lv_has ls 5 [(0, .ref (gA G 7)), (1, .int v0)] → x_ArmSet_transfer σ v0 = x_ArmSet_transfer_38 σ v0 k0_38 τ_38 → W p l e (kr 4) s m args below meth c H locs 0 0 Q (F0 m 38 ls [.int k0_38]) := by
    intro k0_38 τ_38 H locs ls hP hD hS hl hf
    refine lv_istore_n (lv' := [(3, .int k0_38), (0, .ref (gA G 7)), (1, .int v0)]) hx hb dX1_transfer_38 rfl hl (by decide) rfl (fun ls hl => ?_)
    refine lv_iload_n hx hb dX1_transfer_39 rfl (lv_at hl 2 rfl) ?_
    refine lv_bipush (v := 22) hx hb dX1_transfer_40 (by decide) ?_
    refine kp_Si (rest := []) (cx_Bits_on l v0 22) ⟨hx, hb, hml, hown, hts⟩ (va_cwS 2 hts (gi_S kw_597 kw_356 kw_346 kw_357) rfl rfl rfl mdX2_on ⟨by decide, by decide⟩) rfl hl.1 rfl (Nat.le_of_ble_eq_true rfl) dX1_transfer_42 ⟨Nat.zero_le _, Nat.zero_le _⟩ ?_
    refine kz_dN0 (P := (x_Bits_on v0 22) = true) (tgt := 52) (M := 53) (fun a b => kz_eq (tgt := 52) hx hb dX1_transfer_45 (by decide) a b) hx hb dX1_transfer_48 dX1_transfer_49 (by decide) dX1_transfer_52 rfl ?_
    refine lv_istore (lv' := [(4, .int (b01 (decide ((x_Bits_on v0 22) = true)))), (3, .int k0_38), (0, .ref (gA G 7)), (1, .int v0)]) hx hb dX1_transfer_53 hl (by decide) rfl (fun ls hl => ?_)
    refine lv_aload_n hx hb dX1_transfer_55 rfl (lv_at hl 2 rfl) ?_
    refine va_get (D := gD G) (ci := 1) hx hb hts ku_1 hown hK hP 7 rfl rfl 3 (by decide) (hts _ kw_92) (fun _ h9 => h9) rfl dX1_transfer_56 ?_
    refine lv_iload_n hx hb dX1_transfer_59 rfl (lv_at hl 3 rfl) ?_
    refine lv_iload hx hb dX1_transfer_60 (lv_at hl 0 rfl) ?_
    refine lv_iload_n hx hb dX1_transfer_62 rfl (lv_at hl 1 rfl) ?_
    refine kc_Vb (rest := []) (cx_Transfers_indexed l G τ_38 v0 (b01 (decide ((x_Bits_on v0 22) = true))) k0_38) ⟨hx, hb, hml, hown, hts⟩ (cwV 3 hts (gi_V kw_619 kw_620 kw_621 kw_55 kw_622) rfl rfl rfl ⟨rfl, mdX9_indexed⟩ ⟨by decide, by decide⟩) (va_recv hK hP (ci := 7) (q0 := 12) rfl rfl) cZ_ok hK hP hD hS hA hZ rfl hl.1 rfl (Nat.le_of_ble_eq_true rfl) dX1_transfer_63 ⟨Nat.zero_le _, Nat.zero_le _⟩ (fun H locs hP hD hS => ?_)
    exact hret ((x_Transfers_indexed τ_38 v0 (b01 (decide ((x_Bits_on v0 22) = true))) k0_38).1) ((x_Transfers_indexed τ_38 v0 (b01 (decide ((x_Bits_on v0 22) = true))) k0_38).2) _ _ _ _ hf hP hD hS dX1_transfer_66
  have J21 : ∀ (H : Heap) (locs : List Loc) (ls : Array Slot), va_P (gD G) vwCl (cW G (σ)) H → va_D A (cW G (σ)) → va_S A s.heap H locs → lv_has ls 5 [(0, .ref (gA G 7)), (1, .int v0), (2, .int (b01 (x_Bits_on v0 25)))] → x_ArmSet_transfer σ v0 = x_ArmSet_transfer_21 σ v0 → W p l e (kr 4) s m args below meth c H locs 0 0 Q (F0 m 21 ls []) := by
    intro H locs ls hP hD hS hl hf
    refine lv_iload_n hx hb dX1_transfer_21 rfl (lv_at hl 2 rfl) ?_
    refine kz_eq (tgt := 33) hx hb dX1_transfer_22 (by decide) (fun h_6 => ?_) (fun h_6 => ?_)
    · have hf := hf.trans (if_neg h_6)
      refine lv_iload_n hx hb dX1_transfer_33 rfl (lv_at hl 1 rfl) ?_
      refine lv_sipush (v := 4095) hx hb dX1_transfer_34 (by decide) ?_
      refine lv_iand hx hb dX1_transfer_37 ?_
      exact J38 (v0 &&& 4095) σ _ _ _ hP hD hS (lv_sub hl [0, 1] rfl) hf
    · have hf := hf.trans (if_pos h_6)
      refine lv_aload_n hx hb dX1_transfer_25 rfl (lv_at hl 0 rfl) ?_
      refine lv_iload_n hx hb dX1_transfer_26 rfl (lv_at hl 1 rfl) ?_
      refine kc_Vb (rest := []) (cx_ArmSet_shiftedByNumber l G σ v0) ⟨hx, hb, hml, hown, hts⟩ (cwV 1 hts (gi_V kw_668 kw_669 kw_670 kw_58 kw_671) rfl rfl rfl ⟨rfl, mdX1_shiftedByNumber⟩ ⟨by decide, by decide⟩) (va_recv hK hP (ci := 1) (q0 := 7) rfl rfl) cZ_ok hK hP hD hS hA hZ rfl hl.1 rfl (Nat.le_of_ble_eq_true rfl) dX1_transfer_27 ⟨Nat.zero_le _, Nat.zero_le _⟩ (fun H locs hP hD hS => ?_)
      refine lv_goto (tgt := 38) hx hb dX1_transfer_30 (by decide) ?_
      exact J38 ((x_ArmSet_shiftedByNumber σ v0).1) ((x_ArmSet_shiftedByNumber σ v0).2) _ _ _ hP hD hS (lv_sub hl [0, 1] rfl) hf
  refine lv_iload_n hx hb dX1_transfer_0 rfl (lv_at hl 1 rfl) ?_
  refine lv_bipush (v := 25) hx hb dX1_transfer_1 (by decide) ?_
  refine kp_Si (rest := []) (cx_Bits_on l v0 25) ⟨hx, hb, hml, hown, hts⟩ (va_cwS 2 hts (gi_S kw_597 kw_356 kw_346 kw_357) rfl rfl rfl mdX2_on ⟨by decide, by decide⟩) rfl hl.1 rfl (Nat.le_of_ble_eq_true rfl) dX1_transfer_3 ⟨Nat.zero_le _, Nat.zero_le _⟩ ?_
  refine lv_istore_n (lv' := [(2, .int (b01 (x_Bits_on v0 25))), (0, .ref (gA G 7)), (1, .int v0)]) hx hb dX1_transfer_6 rfl hl (by decide) rfl (fun ls hl => ?_)
  refine lv_iload_n hx hb dX1_transfer_7 rfl (lv_at hl 0 rfl) ?_
  refine kz_eq (tgt := 21) hx hb dX1_transfer_8 (by decide) (fun h_7 => ?_) (fun h_7 => ?_)
  · have hf := hf.trans (if_neg h_7)
    exact J21 _ _ _ hP hD hS (lv_sub hl [1, 2, 0] rfl) hf
  · have hf := hf.trans (if_pos h_7)
    refine lv_iload_n hx hb dX1_transfer_11 rfl (lv_at hl 2 rfl) ?_
    refine lv_iconst (v := 4) hx hb dX1_transfer_12 (by decide) ?_
    refine kp_Si (rest := []) (cx_Bits_on l v0 4) ⟨hx, hb, hml, hown, hts⟩ (va_cwS 2 hts (gi_S kw_597 kw_356 kw_346 kw_357) rfl rfl rfl mdX2_on ⟨by decide, by decide⟩) rfl hl.1 rfl (Nat.le_of_ble_eq_true rfl) dX1_transfer_13 ⟨Nat.zero_le _, Nat.zero_le _⟩ ?_
    refine kz_eq (tgt := 21) hx hb dX1_transfer_16 (by decide) (fun h_8 => ?_) (fun h_8 => ?_)
    · have hf := hf.trans (if_neg h_8)
      exact J21 _ _ _ hP hD hS (lv_sub hl [1, 2, 0] rfl) hf
    · have hf := hf.trans (if_pos h_8)
      refine lv_iconst (v := 0) hx hb dX1_transfer_19 (by decide) ?_
      exact hret 0 σ _ _ _ _ hf hP hD hS dX1_transfer_20
def x_ArmSet_branch_25 (σ : CS) (v0 : Int32) (τ_25 : CS) : Int32 × CS := ((-1), x_Registers_jump τ_25 ((x_Registers_read τ_25 15) + (4 * ((v0 <<< ((8 : Int32) &&& 31)) >>> ((8 : Int32) &&& 31)))))
def x_ArmSet_branch (σ : CS) (v0 : Int32) : Int32 × CS := (if (x_Bits_on v0 24) = true then x_ArmSet_branch_25 σ v0 (x_Registers_write σ 14 (x_Registers_behind σ)) else x_ArmSet_branch_25 σ v0 σ)
set_option maxRecDepth 20000 in
set_option maxHeartbeats 4000000 in
theorem cx_ArmSet_branch (l : Launch) (G : KG) (σ : CS) (v0 : Int32) : KB l yX1_branch (Cond.code yX1_branch cX1_branch 2 (some .int) :: lw_all) (kr 3) (gD G) vwCl (gT G) (cZ G) (cW G) [.ref (gA G 7), .int v0] σ (x_ArmSet_branch σ v0) := by
  refine kc_in_b (q := x_ArmSet_branch σ v0) (by decide) rfl (Nat.le_of_ble_eq_true rfl) ?_
  intro p e s m args below meth c A Q ls hx hb hml hown hts hK hP hD hA hS hZ hl hret
  have hts := fun w h => hts w (List.mem_cons_of_mem _ h)
  have hl : lv_has ls 2 [(0, .ref (gA G 7)), (1, .int v0)] := hl
  have hf : x_ArmSet_branch σ v0 = x_ArmSet_branch σ v0 := rfl
  have J25 : ∀ (τ_25 : CS) (H : Heap) (locs : List Loc) (ls : Array Slot), va_P (gD G) vwCl (cW G (τ_25)) H → va_D A (cW G (τ_25)) → va_S A s.heap H locs → lv_has ls 2 [(0, .ref (gA G 7)), (1, .int v0)] → x_ArmSet_branch σ v0 = x_ArmSet_branch_25 σ v0 τ_25 → W p l e (kr 3) s m args below meth c H locs 0 0 Q (F0 m 25 ls []) := by
    intro τ_25 H locs ls hP hD hS hl hf
    refine lv_aload_n hx hb dX1_branch_25 rfl (lv_at hl 0 rfl) ?_
    refine va_get (D := gD G) (ci := 1) hx hb hts ku_1 hown hK hP 7 rfl rfl 0 (by decide) (hts _ kw_89) (fun _ h9 => h9) rfl dX1_branch_26 ?_
    refine lv_aload_n hx hb dX1_branch_29 rfl (lv_at hl 0 rfl) ?_
    refine va_get (D := gD G) (ci := 1) hx hb hts ku_1 hown hK hP 7 rfl rfl 0 (by decide) (hts _ kw_89) (fun _ h9 => h9) rfl dX1_branch_30 ?_
    refine lv_bipush (v := 15) hx hb dX1_branch_33 (by decide) ?_
    refine kc_Vr (rest := [.ref (gA G 3)]) (cx_Registers_read l G τ_25 15 (by unfold vp_in; decide)) ⟨hx, hb, hml, hown, hts⟩ (cwV 1 hts (gi_V kw_591 kw_359 kw_360 kw_19 kw_361) rfl rfl rfl ⟨rfl, mdX6_read⟩ ⟨by decide, by decide⟩) (va_recv hK hP (ci := 4) (q0 := 3) rfl rfl) cZ_ok hK hP hD hS hA hZ rfl hl.1 rfl (Nat.le_of_ble_eq_true rfl) dX1_branch_35 ⟨Nat.zero_le _, Nat.zero_le _⟩ (fun H locs hP hD hS => ?_)
    refine lv_iconst (v := 4) hx hb dX1_branch_38 (by decide) ?_
    refine lv_iload_n hx hb dX1_branch_39 rfl (lv_at hl 1 rfl) ?_
    refine lv_bipush (v := 8) hx hb dX1_branch_40 (by decide) ?_
    refine lv_ishl hx hb dX1_branch_42 ?_
    refine lv_bipush (v := 8) hx hb dX1_branch_43 (by decide) ?_
    refine lv_ishr hx hb dX1_branch_45 ?_
    refine lv_imul hx hb dX1_branch_46 ?_
    refine lv_iadd hx hb dX1_branch_47 ?_
    refine kc_Vv (rest := []) (cx_Registers_jump l G τ_25 ((x_Registers_read τ_25 15) + (4 * ((v0 <<< ((8 : Int32) &&& 31)) >>> ((8 : Int32) &&& 31))))) ⟨hx, hb, hml, hown, hts⟩ (cwV 1 hts (gi_V kw_689 kw_187 kw_188 kw_19 kw_189) rfl rfl rfl ⟨rfl, mdX6_jump⟩ ⟨by decide, by decide⟩) (va_recv hK hP (ci := 4) (q0 := 3) rfl rfl) cZ_ok hK hP hD hS hA hZ rfl hl.1 rfl (Nat.le_of_ble_eq_true rfl) dX1_branch_48 ⟨Nat.zero_le _, Nat.zero_le _⟩ (fun H locs hP hD hS => ?_)
    refine lv_iconst (v := (-1)) hx hb dX1_branch_51 (by decide) ?_
    exact hret (-1) (x_Registers_jump τ_25 ((x_Registers_read τ_25 15) + (4 * ((v0 <<< ((8 : Int32) &&& 31)) >>> ((8 : Int32) &&& 31))))) _ _ _ _ hf hP hD hS dX1_branch_52
  refine lv_iload_n hx hb dX1_branch_0 rfl (lv_at hl 1 rfl) ?_
  refine lv_bipush (v := 24) hx hb dX1_branch_1 (by decide) ?_
  refine kp_Si (rest := []) (cx_Bits_on l v0 24) ⟨hx, hb, hml, hown, hts⟩ (va_cwS 2 hts (gi_S kw_597 kw_356 kw_346 kw_357) rfl rfl rfl mdX2_on ⟨by decide, by decide⟩) rfl hl.1 rfl (Nat.le_of_ble_eq_true rfl) dX1_branch_3 ⟨Nat.zero_le _, Nat.zero_le _⟩ ?_
  refine kz_eq (tgt := 25) hx hb dX1_branch_6 (by decide) (fun h_2 => ?_) (fun h_2 => ?_)
  · have hf := hf.trans (if_neg h_2)
    exact J25 σ _ _ _ hP hD hS (lv_sub hl [0, 1] rfl) hf
  · have hf := hf.trans (if_pos h_2)
    refine lv_aload_n hx hb dX1_branch_9 rfl (lv_at hl 0 rfl) ?_
    refine va_get (D := gD G) (ci := 1) hx hb hts ku_1 hown hK hP 7 rfl rfl 0 (by decide) (hts _ kw_89) (fun _ h9 => h9) rfl dX1_branch_10 ?_
    refine lv_bipush (v := 14) hx hb dX1_branch_13 (by decide) ?_
    refine lv_aload_n hx hb dX1_branch_15 rfl (lv_at hl 0 rfl) ?_
    refine va_get (D := gD G) (ci := 1) hx hb hts ku_1 hown hK hP 7 rfl rfl 0 (by decide) (hts _ kw_89) (fun _ h9 => h9) rfl dX1_branch_16 ?_
    refine kc_Vr (rest := [.int 14, .ref (gA G 3)]) (cx_Registers_behind l G σ) ⟨hx, hb, hml, hown, hts⟩ (cwV 0 hts (gi_V kw_688 kw_317 kw_318 kw_19 kw_319) rfl rfl rfl ⟨rfl, mdX6_behind⟩ ⟨by decide, by decide⟩) (va_recv hK hP (ci := 4) (q0 := 3) rfl rfl) cZ_ok hK hP hD hS hA hZ rfl hl.1 rfl (Nat.le_of_ble_eq_true rfl) dX1_branch_19 ⟨Nat.zero_le _, Nat.zero_le _⟩ (fun H locs hP hD hS => ?_)
    refine kc_Vv (rest := []) (cx_Registers_write l G σ 14 (x_Registers_behind σ) (by unfold vp_in; decide)) ⟨hx, hb, hml, hown, hts⟩ (cwV 2 hts (gi_V kw_605 kw_403 kw_404 kw_19 kw_405) rfl rfl rfl ⟨rfl, mdX6_write⟩ ⟨by decide, by decide⟩) (va_recv hK hP (ci := 4) (q0 := 3) rfl rfl) cZ_ok hK hP hD hS hA hZ rfl hl.1 rfl (Nat.le_of_ble_eq_true rfl) dX1_branch_22 ⟨Nat.zero_le _, Nat.zero_le _⟩ (fun H locs hP hD hS => ?_)
    exact J25 (x_Registers_write σ 14 (x_Registers_behind σ)) _ _ _ hP hD hS (lv_sub hl [0, 1] rfl) hf
