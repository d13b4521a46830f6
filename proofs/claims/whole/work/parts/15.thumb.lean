theorem bt38_16 (a b : Int32) : vp_in ((x_Bits_three a 0) ||| ((iu b 4) &&& 8)) 16 := by
  have e : ((x_Bits_three a 0) ||| ((iu b 4) &&& 8)) = ((x_Bits_three a 0) ||| ((iu b 4) &&& 8)) &&& 15 := by
    unfold x_Bits_three
    generalize iu a 0 = x
    generalize iu b 4 = y
    apply Int32.toBitVec_inj.mp
    simp only [Int32.toBitVec_or, Int32.toBitVec_and]
    generalize x.toBitVec = x
    generalize y.toBitVec = y
    rw [BitVec.and_or_distrib_right, BitVec.and_assoc, BitVec.and_assoc]
    rfl
  rw [e]
  exact pk_andIn _ 4 (by decide) (by decide)
def x_ArmSet_perform_165 (σ : CS) (v0 : Int32) : Int32 × CS := (if (v0 &&& 264179711) = 17760256 then (x_ArmSet_readStatus σ v0) else (if (v0 &&& 263258096) = 18935808 then (x_ArmSet_writeStatus σ v0 (x_Registers_read σ (x_Bits_four v0 0))) else (x_ArmSet_data σ v0)))
def x_ArmSet_perform (σ : CS) (v0 : Int32) : Int32 × CS := (if (iu v0 28) = 15 then (0, σ) else (if (x_Registers_fits σ (iu v0 28)) = true then (if (x_Bits_three v0 25) = 0 then (if (v0 &&& 268435440) = 19922704 then ((-1), x_Registers_jumpAndChangeSet σ (x_Registers_read σ (x_Bits_four v0 0))) else (if (v0 &&& 251658480) = 144 then (x_ArmSet_multiply σ v0) else (if (v0 &&& 263196656) = 16777360 then (x_ArmSet_swap σ v0) else (if (v0 &&& 144) = 144 then (if (v0 &&& 96) = 0 then x_ArmSet_perform_165 σ v0 else (x_ArmSet_halves σ v0)) else x_ArmSet_perform_165 σ v0)))) else (if (x_Bits_three v0 25) = 1 then (if (v0 &&& 263254016) = 52490240 then (x_ArmSet_writeStatus ((x_Shifter_turnedNumber σ v0 0).2) v0 ((x_Shifter_turnedNumber σ v0 0).1)) else (x_ArmSet_data σ v0)) else (if (x_Bits_three v0 25) = 2 then (x_ArmSet_transfer σ v0) else (if (x_Bits_three v0 25) = 3 then (x_ArmSet_transfer σ v0) else (if (x_Bits_three v0 25) = 4 then (x_Transfers_many σ v0) else (if (x_Bits_three v0 25) = 5 then (x_ArmSet_branch σ v0) else (if (x_Bits_three v0 25) = 7 then (if (x_Bits_on v0 24) = true then (1, σ) else (0, σ)) else (0, σ)))))))) else ((-1), σ)))
set_option maxRecDepth 20000 in
set_option maxHeartbeats 4000000 in
theorem cx_ArmSet_perform (l : Launch) (G : KG) (σ : CS) (v0 : Int32) : KB l yX1_perform (Cond.code yX1_perform cX1_perform 3 (some .int) :: lw_all) (kr 5) (gD G) vwCl (gT G) (cZ G) (cW G) [.ref (gA G 7), .int v0] σ (x_ArmSet_perform σ v0) := by
  refine kc_in_b (q := x_ArmSet_perform σ v0) (by decide) rfl (Nat.le_of_ble_eq_true rfl) ?_
  intro p e s m args below meth c A Q ls hx hb hml hown hts hK hP hD hA hS hZ hl hret
  have hts := fun w h => hts w (List.mem_cons_of_mem _ h)
  have hl : lv_has ls 3 [(0, .ref (gA G 7)), (1, .int v0)] := hl
  have hf : x_ArmSet_perform σ v0 = x_ArmSet_perform σ v0 := rfl
  have J165 : ∀ (H : Heap) (locs : List Loc) (ls : Array Slot), va_P (gD G) vwCl (cW G (σ)) H → va_D A (cW G (σ)) → va_S A s.heap H locs → lv_has ls 3 [(0, .ref (gA G 7)), (1, .int v0)] → x_ArmSet_perform σ v0 = x_ArmSet_perform_165 σ v0 → W p l e (kr 5) s m args below meth c H locs 0 0 Q (F0 m 165 ls []) := by
    intro H locs ls hP hD hS hl hf
    refine lv_iload_n hx hb dX1_perform_165 rfl (lv_at hl 1 rfl) ?_
    refine lv_ldc (v := 264179711) hx hb hown (hts _ kw_582) dX1_perform_166 ?_
    refine lv_iand hx hb dX1_perform_168 ?_
    refine lv_ldc (v := 17760256) hx hb hown (hts _ kw_583) dX1_perform_169 ?_
    refine lv_icmp_ne (tgt := 180) hx hb dX1_perform_171 (by decide) (fun h_19 => ?_) (fun h_19 => ?_)
    · have hf := hf.trans (if_neg h_19)
      refine lv_iload_n hx hb dX1_perform_180 rfl (lv_at hl 1 rfl) ?_
      refine lv_ldc (v := 263258096) hx hb hown (hts _ kw_584) dX1_perform_181 ?_
      refine lv_iand hx hb dX1_perform_183 ?_
      refine lv_ldc (v := 18935808) hx hb hown (hts _ kw_585) dX1_perform_184 ?_
      refine lv_icmp_ne (tgt := 207) hx hb dX1_perform_186 (by decide) (fun h_20 => ?_) (fun h_20 => ?_)
      · have hf := hf.trans (if_neg h_20)
        refine lv_aload_n hx hb dX1_perform_207 rfl (lv_at hl 0 rfl) ?_
        refine lv_iload_n hx hb dX1_perform_208 rfl (lv_at hl 1 rfl) ?_
        refine kc_Vb (rest := []) (cx_ArmSet_data l G σ v0) ⟨hx, hb, hml, hown, hts⟩ (cwV 1 hts (gi_V kw_650 kw_651 kw_652 kw_58 kw_653) rfl rfl rfl ⟨rfl, mdX1_data⟩ ⟨by decide, by decide⟩) (va_recv hK hP (ci := 1) (q0 := 7) rfl rfl) cZ_ok hK hP hD hS hA hZ rfl hl.1 rfl (Nat.le_of_ble_eq_true rfl) dX1_perform_209 ⟨Nat.zero_le _, Nat.zero_le _⟩ (fun H locs hP hD hS => ?_)
        exact hret ((x_ArmSet_data σ v0).1) ((x_ArmSet_data σ v0).2) _ _ _ _ hf hP hD hS dX1_perform_212
      · have hf := hf.trans (if_pos h_20)
        refine lv_aload_n hx hb dX1_perform_189 rfl (lv_at hl 0 rfl) ?_
        refine lv_iload_n hx hb dX1_perform_190 rfl (lv_at hl 1 rfl) ?_
        refine lv_aload_n hx hb dX1_perform_191 rfl (lv_at hl 0 rfl) ?_
        refine va_get (D := gD G) (ci := 1) hx hb hts ku_1 hown hK hP 7 rfl rfl 0 (by decide) (hts _ kw_89) (fun _ h9 => h9) rfl dX1_perform_192 ?_
        refine lv_iload_n hx hb dX1_perform_195 rfl (lv_at hl 1 rfl) ?_
        refine lv_iconst (v := 0) hx hb dX1_perform_196 (by decide) ?_
        refine kp_Si (rest := [.ref (gA G 3), .int v0, .ref (gA G 7)]) (cx_Bits_four l v0 0) ⟨hx, hb, hml, hown, hts⟩ (va_cwS 2 hts (gi_S kw_590 kw_345 kw_346 kw_347) rfl rfl rfl mdX2_four ⟨by decide, by decide⟩) rfl hl.1 rfl (Nat.le_of_ble_eq_true rfl) dX1_perform_197 ⟨Nat.zero_le _, Nat.zero_le _⟩ ?_
        refine kc_Vr (rest := [.int v0, .ref (gA G 7)]) (cx_Registers_read l G σ (x_Bits_four v0 0) (bt4_16 _ _)) ⟨hx, hb, hml, hown, hts⟩ (cwV 1 hts (gi_V kw_591 kw_359 kw_360 kw_19 kw_361) rfl rfl rfl ⟨rfl, mdX6_read⟩ ⟨by decide, by decide⟩) (va_recv hK hP (ci := 4) (q0 := 3) rfl rfl) cZ_ok hK hP hD hS hA hZ rfl hl.1 rfl (Nat.le_of_ble_eq_true rfl) dX1_perform_200 ⟨Nat.zero_le _, Nat.zero_le _⟩ (fun H locs hP hD hS => ?_)
        refine kc_Vb (rest := []) (cx_ArmSet_writeStatus l G σ v0 (x_Registers_read σ (x_Bits_four v0 0))) ⟨hx, hb, hml, hown, hts⟩ (cwV 2 hts (gi_V kw_634 kw_635 kw_636 kw_58 kw_637) rfl rfl rfl ⟨rfl, mdX1_writeStatus⟩ ⟨by decide, by decide⟩) (va_recv hK hP (ci := 1) (q0 := 7) rfl rfl) cZ_ok hK hP hD hS hA hZ rfl hl.1 rfl (Nat.le_of_ble_eq_true rfl) dX1_perform_203 ⟨Nat.zero_le _, Nat.zero_le _⟩ (fun H locs hP hD hS => ?_)
        exact hret ((x_ArmSet_writeStatus σ v0 (x_Registers_read σ (x_Bits_four v0 0))).1) ((x_ArmSet_writeStatus σ v0 (x_Registers_read σ (x_Bits_four v0 0))).2) _ _ _ _ hf hP hD hS dX1_perform_206
    · have hf := hf.trans (if_pos h_19)
      refine lv_aload_n hx hb dX1_perform_174 rfl (lv_at hl 0 rfl) ?_
      refine lv_iload_n hx hb dX1_perform_175 rfl (lv_at hl 1 rfl) ?_
      refine kc_Vb (rest := []) (cx_ArmSet_readStatus l G σ v0) ⟨hx, hb, hml, hown, hts⟩ (cwV 1 hts (gi_V kw_628 kw_629 kw_630 kw_58 kw_631) rfl rfl rfl ⟨rfl, mdX1_readStatus⟩ ⟨by decide, by decide⟩) (va_recv hK hP (ci := 1) (q0 := 7) rfl rfl) cZ_ok hK hP hD hS hA hZ rfl hl.1 rfl (Nat.le_of_ble_eq_true rfl) dX1_perform_176 ⟨Nat.zero_le _, Nat.zero_le _⟩ (fun H locs hP hD hS => ?_)
      exact hret ((x_ArmSet_readStatus σ v0).1) ((x_ArmSet_readStatus σ v0).2) _ _ _ _ hf hP hD hS dX1_perform_179
  refine lv_iload_n hx hb dX1_perform_0 rfl (lv_at hl 1 rfl) ?_
  refine lv_bipush (v := 28) hx hb dX1_perform_1 (by decide) ?_
  refine lv_iushr (v := iu v0 28) hx hb dX1_perform_3 rfl ?_
  refine lv_istore_n (lv' := [(2, .int (iu v0 28)), (0, .ref (gA G 7)), (1, .int v0)]) hx hb dX1_perform_4 rfl hl (by decide) rfl (fun ls hl => ?_)
  refine lv_iload_n hx hb dX1_perform_5 rfl (lv_at hl 0 rfl) ?_
  refine lv_bipush (v := 15) hx hb dX1_perform_6 (by decide) ?_
  refine lv_icmp_ne (tgt := 13) hx hb dX1_perform_8 (by decide) (fun h_21 => ?_) (fun h_21 => ?_)
  · have hf := hf.trans (if_neg h_21)
    refine lv_aload_n hx hb dX1_perform_13 rfl (lv_at hl 1 rfl) ?_
    refine va_get (D := gD G) (ci := 1) hx hb hts ku_1 hown hK hP 7 rfl rfl 0 (by decide) (hts _ kw_89) (fun _ h9 => h9) rfl dX1_perform_14 ?_
    refine lv_iload_n hx hb dX1_perform_17 rfl (lv_at hl 0 rfl) ?_
    refine kc_Vr (rest := []) (cx_Registers_fits l G σ (iu v0 28)) ⟨hx, hb, hml, hown, hts⟩ (cwV 1 hts (gi_V kw_588 kw_562 kw_563 kw_19 kw_564) rfl rfl rfl ⟨rfl, mdX6_fits⟩ ⟨by decide, by decide⟩) (va_recv hK hP (ci := 4) (q0 := 3) rfl rfl) cZ_ok hK hP hD hS hA hZ rfl hl.1 rfl (Nat.le_of_ble_eq_true rfl) dX1_perform_18 ⟨Nat.zero_le _, Nat.zero_le _⟩ (fun H locs hP hD hS => ?_)
    refine kz_ne (tgt := 26) hx hb dX1_perform_21 (by decide) (fun h_22 => ?_) (fun h_22 => ?_)
    · have hf := hf.trans (if_pos h_22)
      refine lv_iload_n hx hb dX1_perform_26 rfl (lv_at hl 2 rfl) ?_
      refine lv_bipush (v := 25) hx hb dX1_perform_27 (by decide) ?_
      refine kp_Si (rest := []) (cx_Bits_three l v0 25) ⟨hx, hb, hml, hown, hts⟩ (va_cwS 2 hts (gi_S kw_589 kw_353 kw_346 kw_354) rfl rfl rfl mdX2_three ⟨by decide, by decide⟩) rfl hl.1 rfl (Nat.le_of_ble_eq_true rfl) dX1_perform_29 ⟨Nat.zero_le _, Nat.zero_le _⟩ ?_
      by_cases h_23 : (x_Bits_three v0 25) = 0
      · have hf := hf.trans (if_pos h_23)
        refine lv_tableIn (tgt := 80) hx hb dX1_perform_32 (by rw [h_23]; decide) (by rw [h_23]; decide) (by rw [h_23]; rfl) (by decide) ?_
        refine lv_iload_n hx hb dX1_perform_80 rfl (lv_at hl 2 rfl) ?_
        refine lv_ldc (v := 268435440) hx hb hown (hts _ kw_577) dX1_perform_81 ?_
        refine lv_iand hx hb dX1_perform_83 ?_
        refine lv_ldc (v := 19922704) hx hb hown (hts _ kw_578) dX1_perform_84 ?_
        refine lv_icmp_ne (tgt := 110) hx hb dX1_perform_86 (by decide) (fun h_24 => ?_) (fun h_24 => ?_)
        · have hf := hf.trans (if_neg h_24)
          refine lv_iload_n hx hb dX1_perform_110 rfl (lv_at hl 2 rfl) ?_
          refine lv_ldc (v := 251658480) hx hb hown (hts _ kw_579) dX1_perform_111 ?_
          refine lv_iand hx hb dX1_perform_113 ?_
          refine lv_sipush (v := 144) hx hb dX1_perform_114 (by decide) ?_
          refine lv_icmp_ne (tgt := 126) hx hb dX1_perform_117 (by decide) (fun h_25 => ?_) (fun h_25 => ?_)
          · have hf := hf.trans (if_neg h_25)
            refine lv_iload_n hx hb dX1_perform_126 rfl (lv_at hl 2 rfl) ?_
            refine lv_ldc (v := 263196656) hx hb hown (hts _ kw_580) dX1_perform_127 ?_
            refine lv_iand hx hb dX1_perform_129 ?_
            refine lv_ldc (v := 16777360) hx hb hown (hts _ kw_581) dX1_perform_130 ?_
            refine lv_icmp_ne (tgt := 141) hx hb dX1_perform_132 (by decide) (fun h_26 => ?_) (fun h_26 => ?_)
            · have hf := hf.trans (if_neg h_26)
              refine lv_iload_n hx hb dX1_perform_141 rfl (lv_at hl 2 rfl) ?_
              refine lv_sipush (v := 144) hx hb dX1_perform_142 (by decide) ?_
              refine lv_iand hx hb dX1_perform_145 ?_
              refine lv_sipush (v := 144) hx hb dX1_perform_146 (by decide) ?_
              refine lv_icmp_ne (tgt := 165) hx hb dX1_perform_149 (by decide) (fun h_27 => ?_) (fun h_27 => ?_)
              · have hf := hf.trans (if_neg h_27)
                exact J165 _ _ _ hP hD hS (lv_sub hl [1, 2] rfl) hf
              · have hf := hf.trans (if_pos h_27)
                refine lv_iload_n hx hb dX1_perform_152 rfl (lv_at hl 2 rfl) ?_
                refine lv_bipush (v := 96) hx hb dX1_perform_153 (by decide) ?_
                refine lv_iand hx hb dX1_perform_155 ?_
                refine lv_if_eq (tgt := 165) hx hb dX1_perform_156 (by decide) (fun h_28 => ?_) (fun h_28 => ?_)
                · have hf := hf.trans (if_pos h_28)
                  exact J165 _ _ _ hP hD hS (lv_sub hl [1, 2] rfl) hf
                · have hf := hf.trans (if_neg h_28)
                  refine lv_aload_n hx hb dX1_perform_159 rfl (lv_at hl 1 rfl) ?_
                  refine lv_iload_n hx hb dX1_perform_160 rfl (lv_at hl 2 rfl) ?_
                  refine kc_Vb (rest := []) (cx_ArmSet_halves l G σ v0) ⟨hx, hb, hml, hown, hts⟩ (cwV 1 hts (gi_V kw_615 kw_616 kw_617 kw_58 kw_618) rfl rfl rfl ⟨rfl, mdX1_halves⟩ ⟨by decide, by decide⟩) (va_recv hK hP (ci := 1) (q0 := 7) rfl rfl) cZ_ok hK hP hD hS hA hZ rfl hl.1 rfl (Nat.le_of_ble_eq_true rfl) dX1_perform_161 ⟨Nat.zero_le _, Nat.zero_le _⟩ (fun H locs hP hD hS => ?_)
                  exact hret ((x_ArmSet_halves σ v0).1) ((x_ArmSet_halves σ v0).2) _ _ _ _ hf hP hD hS dX1_perform_164
            · have hf := hf.trans (if_pos h_26)
              refine lv_aload_n hx hb dX1_perform_135 rfl (lv_at hl 1 rfl) ?_
              refine lv_iload_n hx hb dX1_perform_136 rfl (lv_at hl 2 rfl) ?_
              refine kc_Vb (rest := []) (cx_ArmSet_swap l G σ v0) ⟨hx, hb, hml, hown, hts⟩ (cwV 1 hts (gi_V kw_607 kw_608 kw_609 kw_58 kw_610) rfl rfl rfl ⟨rfl, mdX1_swap⟩ ⟨by decide, by decide⟩) (va_recv hK hP (ci := 1) (q0 := 7) rfl rfl) cZ_ok hK hP hD hS hA hZ rfl hl.1 rfl (Nat.le_of_ble_eq_true rfl) dX1_perform_137 ⟨Nat.zero_le _, Nat.zero_le _⟩ (fun H locs hP hD hS => ?_)
              exact hret ((x_ArmSet_swap σ v0).1) ((x_ArmSet_swap σ v0).2) _ _ _ _ hf hP hD hS dX1_perform_140
          · have hf := hf.trans (if_pos h_25)
            refine lv_aload_n hx hb dX1_perform_120 rfl (lv_at hl 1 rfl) ?_
            refine lv_iload_n hx hb dX1_perform_121 rfl (lv_at hl 2 rfl) ?_
            refine kc_Vb (rest := []) (cx_ArmSet_multiply l G σ v0) ⟨hx, hb, hml, hown, hts⟩ (cwV 1 hts (gi_V kw_593 kw_594 kw_595 kw_58 kw_596) rfl rfl rfl ⟨rfl, mdX1_multiply⟩ ⟨by decide, by decide⟩) (va_recv hK hP (ci := 1) (q0 := 7) rfl rfl) cZ_ok hK hP hD hS hA hZ rfl hl.1 rfl (Nat.le_of_ble_eq_true rfl) dX1_perform_122 ⟨Nat.zero_le _, Nat.zero_le _⟩ (fun H locs hP hD hS => ?_)
            exact hret ((x_ArmSet_multiply σ v0).1) ((x_ArmSet_multiply σ v0).2) _ _ _ _ hf hP hD hS dX1_perform_125
        · have hf := hf.trans (if_pos h_24)
          refine lv_aload_n hx hb dX1_perform_89 rfl (lv_at hl 1 rfl) ?_
          refine va_get (D := gD G) (ci := 1) hx hb hts ku_1 hown hK hP 7 rfl rfl 0 (by decide) (hts _ kw_89) (fun _ h9 => h9) rfl dX1_perform_90 ?_
          refine lv_aload_n hx hb dX1_perform_93 rfl (lv_at hl 1 rfl) ?_
          refine va_get (D := gD G) (ci := 1) hx hb hts ku_1 hown hK hP 7 rfl rfl 0 (by decide) (hts _ kw_89) (fun _ h9 => h9) rfl dX1_perform_94 ?_
          refine lv_iload_n hx hb dX1_perform_97 rfl (lv_at hl 2 rfl) ?_
          refine lv_iconst (v := 0) hx hb dX1_perform_98 (by decide) ?_
          refine kp_Si (rest := [.ref (gA G 3), .ref (gA G 3)]) (cx_Bits_four l v0 0) ⟨hx, hb, hml, hown, hts⟩ (va_cwS 2 hts (gi_S kw_590 kw_345 kw_346 kw_347) rfl rfl rfl mdX2_four ⟨by decide, by decide⟩) rfl hl.1 rfl (Nat.le_of_ble_eq_true rfl) dX1_perform_99 ⟨Nat.zero_le _, Nat.zero_le _⟩ ?_
          refine kc_Vr (rest := [.ref (gA G 3)]) (cx_Registers_read l G σ (x_Bits_four v0 0) (bt4_16 _ _)) ⟨hx, hb, hml, hown, hts⟩ (cwV 1 hts (gi_V kw_591 kw_359 kw_360 kw_19 kw_361) rfl rfl rfl ⟨rfl, mdX6_read⟩ ⟨by decide, by decide⟩) (va_recv hK hP (ci := 4) (q0 := 3) rfl rfl) cZ_ok hK hP hD hS hA hZ rfl hl.1 rfl (Nat.le_of_ble_eq_true rfl) dX1_perform_102 ⟨Nat.zero_le _, Nat.zero_le _⟩ (fun H locs hP hD hS => ?_)
          refine kc_Vv (rest := []) (cx_Registers_jumpAndChangeSet l G σ (x_Registers_read σ (x_Bits_four v0 0))) ⟨hx, hb, hml, hown, hts⟩ (cwV 1 hts (gi_V kw_592 kw_476 kw_477 kw_19 kw_478) rfl rfl rfl ⟨rfl, mdX6_jumpAndChangeSet⟩ ⟨by decide, by decide⟩) (va_recv hK hP (ci := 4) (q0 := 3) rfl rfl) cZ_ok hK hP hD hS hA hZ rfl hl.1 rfl (Nat.le_of_ble_eq_true rfl) dX1_perform_105 ⟨Nat.zero_le _, Nat.zero_le _⟩ (fun H locs hP hD hS => ?_)
          refine lv_iconst (v := (-1)) hx hb dX1_perform_108 (by decide) ?_
          exact hret (-1) (x_Registers_jumpAndChangeSet σ (x_Registers_read σ (x_Bits_four v0 0))) _ _ _ _ hf hP hD hS dX1_perform_109
      have hf := hf.trans (if_neg h_23)
      by_cases h_29 : (x_Bits_three v0 25) = 1
      · have hf := hf.trans (if_pos h_29)
        refine lv_tableIn (tgt := 213) hx hb dX1_perform_32 (by rw [h_29]; decide) (by rw [h_29]; decide) (by rw [h_29]; rfl) (by decide) ?_
        refine lv_iload_n hx hb dX1_perform_213 rfl (lv_at hl 2 rfl) ?_
        refine lv_ldc (v := 263254016) hx hb hown (hts _ kw_586) dX1_perform_214 ?_
        refine lv_iand hx hb dX1_perform_216 ?_
        refine lv_ldc (v := 52490240) hx hb hown (hts _ kw_587) dX1_perform_217 ?_
        refine lv_icmp_ne (tgt := 237) hx hb dX1_perform_219 (by decide) (fun h_30 => ?_) (fun h_30 => ?_)
        · have hf := hf.trans (if_neg h_30)
          refine lv_aload_n hx hb dX1_perform_237 rfl (lv_at hl 1 rfl) ?_
          refine lv_iload_n hx hb dX1_perform_238 rfl (lv_at hl 2 rfl) ?_
          refine kc_Vb (rest := []) (cx_ArmSet_data l G σ v0) ⟨hx, hb, hml, hown, hts⟩ (cwV 1 hts (gi_V kw_650 kw_651 kw_652 kw_58 kw_653) rfl rfl rfl ⟨rfl, mdX1_data⟩ ⟨by decide, by decide⟩) (va_recv hK hP (ci := 1) (q0 := 7) rfl rfl) cZ_ok hK hP hD hS hA hZ rfl hl.1 rfl (Nat.le_of_ble_eq_true rfl) dX1_perform_239 ⟨Nat.zero_le _, Nat.zero_le _⟩ (fun H locs hP hD hS => ?_)
          exact hret ((x_ArmSet_data σ v0).1) ((x_ArmSet_data σ v0).2) _ _ _ _ hf hP hD hS dX1_perform_242
        · have hf := hf.trans (if_pos h_30)
          refine lv_aload_n hx hb dX1_perform_222 rfl (lv_at hl 1 rfl) ?_
          refine lv_iload_n hx hb dX1_perform_223 rfl (lv_at hl 2 rfl) ?_
          refine lv_aload_n hx hb dX1_perform_224 rfl (lv_at hl 1 rfl) ?_
          refine va_get (D := gD G) (ci := 1) hx hb hts ku_1 hown hK hP 7 rfl rfl 1 (by decide) (hts _ kw_90) (fun _ h9 => h9) rfl dX1_perform_225 ?_
          refine lv_iload_n hx hb dX1_perform_228 rfl (lv_at hl 2 rfl) ?_
          refine lv_iconst (v := 0) hx hb dX1_perform_229 (by decide) ?_
          refine kc_Vb (rest := [.int v0, .ref (gA G 7)]) (cx_Shifter_turnedNumber l G σ v0 0) ⟨hx, hb, hml, hown, hts⟩ (cwV 2 hts (gi_V kw_657 kw_658 kw_659 kw_49 kw_660) rfl rfl rfl ⟨rfl, mdX7_turnedNumber⟩ ⟨by decide, by decide⟩) (va_recv hK hP (ci := 5) (q0 := 10) rfl rfl) cZ_ok hK hP hD hS hA hZ rfl hl.1 rfl (Nat.le_of_ble_eq_true rfl) dX1_perform_230 ⟨Nat.zero_le _, Nat.zero_le _⟩ (fun H locs hP hD hS => ?_)
          refine kc_Vb (rest := []) (cx_ArmSet_writeStatus l G ((x_Shifter_turnedNumber σ v0 0).2) v0 ((x_Shifter_turnedNumber σ v0 0).1)) ⟨hx, hb, hml, hown, hts⟩ (cwV 2 hts (gi_V kw_634 kw_635 kw_636 kw_58 kw_637) rfl rfl rfl ⟨rfl, mdX1_writeStatus⟩ ⟨by decide, by decide⟩) (va_recv hK hP (ci := 1) (q0 := 7) rfl rfl) cZ_ok hK hP hD hS hA hZ rfl hl.1 rfl (Nat.le_of_ble_eq_true rfl) dX1_perform_233 ⟨Nat.zero_le _, Nat.zero_le _⟩ (fun H locs hP hD hS => ?_)
          exact hret ((x_ArmSet_writeStatus ((x_Shifter_turnedNumber σ v0 0).2) v0 ((x_Shifter_turnedNumber σ v0 0).1)).1) ((x_ArmSet_writeStatus ((x_Shifter_turnedNumber σ v0 0).2) v0 ((x_Shifter_turnedNumber σ v0 0).1)).2) _ _ _ _ hf hP hD hS dX1_perform_236
      have hf := hf.trans (if_neg h_29)
      by_cases h_31 : (x_Bits_three v0 25) = 2
      · have hf := hf.trans (if_pos h_31)
        refine lv_tableIn (tgt := 243) hx hb dX1_perform_32 (by rw [h_31]; decide) (by rw [h_31]; decide) (by rw [h_31]; rfl) (by decide) ?_
        refine lv_aload_n hx hb dX1_perform_243 rfl (lv_at hl 1 rfl) ?_
        refine lv_iload_n hx hb dX1_perform_244 rfl (lv_at hl 2 rfl) ?_
        refine kc_Vb (rest := []) (cx_ArmSet_transfer l G σ v0) ⟨hx, hb, hml, hown, hts⟩ (cwV 1 hts (gi_V kw_679 kw_680 kw_681 kw_58 kw_682) rfl rfl rfl ⟨rfl, mdX1_transfer⟩ ⟨by decide, by decide⟩) (va_recv hK hP (ci := 1) (q0 := 7) rfl rfl) cZ_ok hK hP hD hS hA hZ rfl hl.1 rfl (Nat.le_of_ble_eq_true rfl) dX1_perform_245 ⟨Nat.zero_le _, Nat.zero_le _⟩ (fun H locs hP hD hS => ?_)
        exact hret ((x_ArmSet_transfer σ v0).1) ((x_ArmSet_transfer σ v0).2) _ _ _ _ hf hP hD hS dX1_perform_248
      have hf := hf.trans (if_neg h_31)
      by_cases h_32 : (x_Bits_three v0 25) = 3
      · have hf := hf.trans (if_pos h_32)
        refine lv_tableIn (tgt := 243) hx hb dX1_perform_32 (by rw [h_32]; decide) (by rw [h_32]; decide) (by rw [h_32]; rfl) (by decide) ?_
        refine lv_aload_n hx hb dX1_perform_243 rfl (lv_at hl 1 rfl) ?_
        refine lv_iload_n hx hb dX1_perform_244 rfl (lv_at hl 2 rfl) ?_
        refine kc_Vb (rest := []) (cx_ArmSet_transfer l G σ v0) ⟨hx, hb, hml, hown, hts⟩ (cwV 1 hts (gi_V kw_679 kw_680 kw_681 kw_58 kw_682) rfl rfl rfl ⟨rfl, mdX1_transfer⟩ ⟨by decide, by decide⟩) (va_recv hK hP (ci := 1) (q0 := 7) rfl rfl) cZ_ok hK hP hD hS hA hZ rfl hl.1 rfl (Nat.le_of_ble_eq_true rfl) dX1_perform_245 ⟨Nat.zero_le _, Nat.zero_le _⟩ (fun H locs hP hD hS => ?_)
        exact hret ((x_ArmSet_transfer σ v0).1) ((x_ArmSet_transfer σ v0).2) _ _ _ _ hf hP hD hS dX1_perform_248
      have hf := hf.trans (if_neg h_32)
      by_cases h_33 : (x_Bits_three v0 25) = 4
      · have hf := hf.trans (if_pos h_33)
        refine lv_tableIn (tgt := 249) hx hb dX1_perform_32 (by rw [h_33]; decide) (by rw [h_33]; decide) (by rw [h_33]; rfl) (by decide) ?_
        refine lv_aload_n hx hb dX1_perform_249 rfl (lv_at hl 1 rfl) ?_
        refine va_get (D := gD G) (ci := 1) hx hb hts ku_1 hown hK hP 7 rfl rfl 3 (by decide) (hts _ kw_92) (fun _ h9 => h9) rfl dX1_perform_250 ?_
        refine lv_iload_n hx hb dX1_perform_253 rfl (lv_at hl 2 rfl) ?_
        refine kc_Vb (rest := []) (cx_Transfers_many l G σ v0) ⟨hx, hb, hml, hown, hts⟩ (cwV 1 hts (gi_V kw_683 kw_513 kw_514 kw_55 kw_515) rfl rfl rfl ⟨rfl, mdX9_many⟩ ⟨by decide, by decide⟩) (va_recv hK hP (ci := 7) (q0 := 12) rfl rfl) cZ_ok hK hP hD hS hA hZ rfl hl.1 rfl (Nat.le_of_ble_eq_true rfl) dX1_perform_254 ⟨Nat.zero_le _, Nat.zero_le _⟩ (fun H locs hP hD hS => ?_)
        exact hret ((x_Transfers_many σ v0).1) ((x_Transfers_many σ v0).2) _ _ _ _ hf hP hD hS dX1_perform_257
      have hf := hf.trans (if_neg h_33)
      by_cases h_34 : (x_Bits_three v0 25) = 5
      · have hf := hf.trans (if_pos h_34)
        refine lv_tableIn (tgt := 258) hx hb dX1_perform_32 (by rw [h_34]; decide) (by rw [h_34]; decide) (by rw [h_34]; rfl) (by decide) ?_
        refine lv_aload_n hx hb dX1_perform_258 rfl (lv_at hl 1 rfl) ?_
        refine lv_iload_n hx hb dX1_perform_259 rfl (lv_at hl 2 rfl) ?_
        refine kc_Vb (rest := []) (cx_ArmSet_branch l G σ v0) ⟨hx, hb, hml, hown, hts⟩ (cwV 1 hts (gi_V kw_684 kw_685 kw_686 kw_58 kw_687) rfl rfl rfl ⟨rfl, mdX1_branch⟩ ⟨by decide, by decide⟩) (va_recv hK hP (ci := 1) (q0 := 7) rfl rfl) cZ_ok hK hP hD hS hA hZ rfl hl.1 rfl (Nat.le_of_ble_eq_true rfl) dX1_perform_260 ⟨Nat.zero_le _, Nat.zero_le _⟩ (fun H locs hP hD hS => ?_)
        exact hret ((x_ArmSet_branch σ v0).1) ((x_ArmSet_branch σ v0).2) _ _ _ _ hf hP hD hS dX1_perform_263
      have hf := hf.trans (if_neg h_34)
      by_cases h_35 : (x_Bits_three v0 25) = 7
      · have hf := hf.trans (if_pos h_35)
        refine lv_tableIn (tgt := 264) hx hb dX1_perform_32 (by rw [h_35]; decide) (by rw [h_35]; decide) (by rw [h_35]; rfl) (by decide) ?_
        refine lv_iload_n hx hb dX1_perform_264 rfl (lv_at hl 2 rfl) ?_
        refine lv_bipush (v := 24) hx hb dX1_perform_265 (by decide) ?_
        refine kp_Si (rest := []) (cx_Bits_on l v0 24) ⟨hx, hb, hml, hown, hts⟩ (va_cwS 2 hts (gi_S kw_597 kw_356 kw_346 kw_357) rfl rfl rfl mdX2_on ⟨by decide, by decide⟩) rfl hl.1 rfl (Nat.le_of_ble_eq_true rfl) dX1_perform_267 ⟨Nat.zero_le _, Nat.zero_le _⟩ ?_
        refine kz_eq (tgt := 277) hx hb dX1_perform_270 (by decide) (fun h_36 => ?_) (fun h_36 => ?_)
        · have hf := hf.trans (if_neg h_36)
          refine lv_iconst (v := 0) hx hb dX1_perform_277 (by decide) ?_
          exact hret 0 σ _ _ _ _ hf hP hD hS dX1_perform_278
        · have hf := hf.trans (if_pos h_36)
          refine lv_iconst (v := 1) hx hb dX1_perform_273 (by decide) ?_
          refine lv_goto (tgt := 278) hx hb dX1_perform_274 (by decide) ?_
          exact hret 1 σ _ _ _ _ hf hP hD hS dX1_perform_278
      have hf := hf.trans (if_neg h_35)
      refine ksw_dflt (tgt := 279) hx hb dX1_perform_32 [0, 1, 2, 3, 4, 5, 7] (ksw_c h_23 (ksw_c h_29 (ksw_c h_31 (ksw_c h_32 (ksw_c h_33 (ksw_c h_34 (ksw_c h_35 ksw_n))))))) (by decide) (by decide) ?_
      refine lv_iconst (v := 0) hx hb dX1_perform_279 (by decide) ?_
      exact hret 0 σ _ _ _ _ hf hP hD hS dX1_perform_280
    · have hf := hf.trans (if_neg h_22)
      refine lv_iconst (v := (-1)) hx hb dX1_perform_24 (by decide) ?_
      exact hret (-1) σ _ _ _ _ hf hP hD hS dX1_perform_25
  · have hf := hf.trans (if_pos h_21)
    refine lv_iconst (v := 0) hx hb dX1_perform_11 (by decide) ?_
    exact hret 0 σ _ _ _ _ hf hP hD hS dX1_perform_12
def x_ThumbSet_addOrSubtract_43 (σ : CS) (v0 : Int32) (k0_28 : Int32) (k0_43 : Int32) : Int32 × CS := ((-1), x_Alu_apply σ k0_43 (x_Bits_three v0 0) (x_Registers_read σ (x_Bits_three v0 3)) k0_28)
def x_ThumbSet_addOrSubtract_28 (σ : CS) (v0 : Int32) (k0_28 : Int32) : Int32 × CS := (if (x_Bits_on v0 9) = true then x_ThumbSet_addOrSubtract_43 σ v0 k0_28 2 else x_ThumbSet_addOrSubtract_43 σ v0 k0_28 4)
def x_ThumbSet_addOrSubtract (σ : CS) (v0 : Int32) : Int32 × CS := (if (x_Bits_on v0 10) = true then x_ThumbSet_addOrSubtract_28 σ v0 (x_Bits_three v0 6) else x_ThumbSet_addOrSubtract_28 σ v0 (x_Registers_read σ (x_Bits_three v0 6)))
set_option maxRecDepth 20000 in
set_option maxHeartbeats 4000000 in
theorem cx_ThumbSet_addOrSubtract (l : Launch) (G : KG) (σ : CS) (v0 : Int32) : KB l yX8_addOrSubtract (Cond.code yX8_addOrSubtract cX8_addOrSubtract 5 (some .int) :: lw_all) (kr 4) (gD G) vwCl (gT G) (cZ G) (cW G) [.ref (gA G 8), .int v0] σ (x_ThumbSet_addOrSubtract σ v0) := by
  refine kc_in_b (q := x_ThumbSet_addOrSubtract σ v0) (by decide) rfl (Nat.le_of_ble_eq_true rfl) ?_
  intro p e s m args below meth c A Q ls hx hb hml hown hts hK hP hD hA hS hZ hl hret
  have hts := fun w h => hts w (List.mem_cons_of_mem _ h)
  have hl : lv_has ls 5 [(0, .ref (gA G 8)), (1, .int v0)] := hl
  have hf : x_ThumbSet_addOrSubtract σ v0 = x_ThumbSet_addOrSubtract σ v0 := rfl
  have J43 : ∀ (k0_28 : Int32) (k0_43 : Int32) (H : Heap) (locs : List Loc) (ls : Array Slot), va_P (gD G) vwCl (cW G (σ)) H → va_D A (cW G (σ)) → va_S A s.heap H locs → lv_has ls 5 [(0, .ref (gA G 8)), (1, .int v0), (3, .int k0_28)] → x_ThumbSet_addOrSubtract σ v0 = x_ThumbSet_addOrSubtract_43 σ v0 k0_28 k0_43 → W p l e (kr 4) s m args below meth c H locs 0 0 Q (F0 m 43 ls [.int k0_43]) := by
    intro k0_28 k0_43 H locs ls hP hD hS hl hf
    refine lv_istore (lv' := [(4, .int k0_43), (0, .ref (gA G 8)), (1, .int v0), (3, .int k0_28)]) hx hb dX8_addOrSubtract_43 hl (by decide) rfl (fun ls hl => ?_)
    refine lv_aload_n hx hb dX8_addOrSubtract_45 rfl (lv_at hl 1 rfl) ?_
    refine va_get (D := gD G) (ci := 6) hx hb hts ku_8 hown hK hP 8 rfl rfl 2 (by decide) (hts _ kw_99) (fun _ h9 => h9) rfl dX8_addOrSubtract_46 ?_
    refine lv_iload hx hb dX8_addOrSubtract_49 (lv_at hl 0 rfl) ?_
    refine lv_iload_n hx hb dX8_addOrSubtract_51 rfl (lv_at hl 2 rfl) ?_
    refine lv_iconst (v := 0) hx hb dX8_addOrSubtract_52 (by decide) ?_
    refine kp_Si (rest := [.int k0_43, .ref (gA G 11)]) (cx_Bits_three l v0 0) ⟨hx, hb, hml, hown, hts⟩ (va_cwS 2 hts (gi_S kw_352 kw_353 kw_346 kw_354) rfl rfl rfl mdX2_three ⟨by decide, by decide⟩) rfl hl.1 rfl (Nat.le_of_ble_eq_true rfl) dX8_addOrSubtract_53 ⟨Nat.zero_le _, Nat.zero_le _⟩ ?_
    refine lv_aload_n hx hb dX8_addOrSubtract_56 rfl (lv_at hl 1 rfl) ?_
    refine va_get (D := gD G) (ci := 6) hx hb hts ku_8 hown hK hP 8 rfl rfl 0 (by decide) (hts _ kw_97) (fun _ h9 => h9) rfl dX8_addOrSubtract_57 ?_
    refine lv_iload_n hx hb dX8_addOrSubtract_60 rfl (lv_at hl 2 rfl) ?_
    refine lv_iconst (v := 3) hx hb dX8_addOrSubtract_61 (by decide) ?_
    refine kp_Si (rest := [.ref (gA G 3), .int (x_Bits_three v0 0), .int k0_43, .ref (gA G 11)]) (cx_Bits_three l v0 3) ⟨hx, hb, hml, hown, hts⟩ (va_cwS 2 hts (gi_S kw_352 kw_353 kw_346 kw_354) rfl rfl rfl mdX2_three ⟨by decide, by decide⟩) rfl hl.1 rfl (Nat.le_of_ble_eq_true rfl) dX8_addOrSubtract_62 ⟨Nat.zero_le _, Nat.zero_le _⟩ ?_
    refine kc_Vr (rest := [.int (x_Bits_three v0 0), .int k0_43, .ref (gA G 11)]) (cx_Registers_read l G σ (x_Bits_three v0 3) (bt3_16 _ _)) ⟨hx, hb, hml, hown, hts⟩ (cwV 1 hts (gi_V kw_358 kw_359 kw_360 kw_19 kw_361) rfl rfl rfl ⟨rfl, mdX6_read⟩ ⟨by decide, by decide⟩) (va_recv hK hP (ci := 4) (q0 := 3) rfl rfl) cZ_ok hK hP hD hS hA hZ rfl hl.1 rfl (Nat.le_of_ble_eq_true rfl) dX8_addOrSubtract_65 ⟨Nat.zero_le _, Nat.zero_le _⟩ (fun H locs hP hD hS => ?_)
    refine lv_iload_n hx hb dX8_addOrSubtract_68 rfl (lv_at hl 3 rfl) ?_
    refine kc_Vv (rest := []) (cx_Alu_apply l G σ k0_43 (x_Bits_three v0 0) (x_Registers_read σ (x_Bits_three v0 3)) k0_28 (bt3_16 _ _)) ⟨hx, hb, hml, hown, hts⟩ (cwV 4 hts (gi_V kw_362 kw_363 kw_364 kw_52 kw_365) rfl rfl rfl ⟨rfl, mdX0_apply⟩ ⟨by decide, by decide⟩) (va_recv hK hP (ci := 0) (q0 := 11) rfl rfl) cZ_ok hK hP hD hS hA hZ rfl hl.1 rfl (Nat.le_of_ble_eq_true rfl) dX8_addOrSubtract_69 ⟨Nat.zero_le _, Nat.zero_le _⟩ (fun H locs hP hD hS => ?_)
    refine lv_iconst (v := (-1)) hx hb dX8_addOrSubtract_72 (by decide) ?_
    exact hret (-1) (x_Alu_apply σ k0_43 (x_Bits_three v0 0) (x_Registers_read σ (x_Bits_three v0 3)) k0_28) _ _ _ _ hf hP hD hS dX8_addOrSubtract_73
  have J28 : ∀ (k0_28 : Int32) (H : Heap) (locs : List Loc) (ls : Array Slot), va_P (gD G) vwCl (cW G (σ)) H → va_D A (cW G (σ)) → va_S A s.heap H locs → lv_has ls 5 [(0, .ref (gA G 8)), (1, .int v0)] → x_ThumbSet_addOrSubtract σ v0 = x_ThumbSet_addOrSubtract_28 σ v0 k0_28 → W p l e (kr 4) s m args below meth c H locs 0 0 Q (F0 m 28 ls [.int k0_28]) := by
    intro k0_28 H locs ls hP hD hS hl hf
    refine lv_istore_n (lv' := [(3, .int k0_28), (0, .ref (gA G 8)), (1, .int v0)]) hx hb dX8_addOrSubtract_28 rfl hl (by decide) rfl (fun ls hl => ?_)
    refine lv_iload_n hx hb dX8_addOrSubtract_29 rfl (lv_at hl 2 rfl) ?_
    refine lv_bipush (v := 9) hx hb dX8_addOrSubtract_30 (by decide) ?_
    refine kp_Si (rest := []) (cx_Bits_on l v0 9) ⟨hx, hb, hml, hown, hts⟩ (va_cwS 2 hts (gi_S kw_355 kw_356 kw_346 kw_357) rfl rfl rfl mdX2_on ⟨by decide, by decide⟩) rfl hl.1 rfl (Nat.le_of_ble_eq_true rfl) dX8_addOrSubtract_32 ⟨Nat.zero_le _, Nat.zero_le _⟩ ?_
    refine kz_eq (tgt := 42) hx hb dX8_addOrSubtract_35 (by decide) (fun h_3 => ?_) (fun h_3 => ?_)
    · have hf := hf.trans (if_neg h_3)
      refine lv_iconst (v := 4) hx hb dX8_addOrSubtract_42 (by decide) ?_
      exact J43 k0_28 4 _ _ _ hP hD hS (lv_sub hl [1, 2, 0] rfl) hf
    · have hf := hf.trans (if_pos h_3)
      refine lv_iconst (v := 2) hx hb dX8_addOrSubtract_38 (by decide) ?_
      refine lv_goto (tgt := 43) hx hb dX8_addOrSubtract_39 (by decide) ?_
      exact J43 k0_28 2 _ _ _ hP hD hS (lv_sub hl [1, 2, 0] rfl) hf
  refine lv_iload_n hx hb dX8_addOrSubtract_0 rfl (lv_at hl 1 rfl) ?_
  refine lv_bipush (v := 6) hx hb dX8_addOrSubtract_1 (by decide) ?_
  refine kp_Si (rest := []) (cx_Bits_three l v0 6) ⟨hx, hb, hml, hown, hts⟩ (va_cwS 2 hts (gi_S kw_352 kw_353 kw_346 kw_354) rfl rfl rfl mdX2_three ⟨by decide, by decide⟩) rfl hl.1 rfl (Nat.le_of_ble_eq_true rfl) dX8_addOrSubtract_3 ⟨Nat.zero_le _, Nat.zero_le _⟩ ?_
  refine lv_istore_n (lv' := [(2, .int (x_Bits_three v0 6)), (0, .ref (gA G 8)), (1, .int v0)]) hx hb dX8_addOrSubtract_6 rfl hl (by decide) rfl (fun ls hl => ?_)
  refine lv_iload_n hx hb dX8_addOrSubtract_7 rfl (lv_at hl 2 rfl) ?_
  refine lv_bipush (v := 10) hx hb dX8_addOrSubtract_8 (by decide) ?_
  refine kp_Si (rest := []) (cx_Bits_on l v0 10) ⟨hx, hb, hml, hown, hts⟩ (va_cwS 2 hts (gi_S kw_355 kw_356 kw_346 kw_357) rfl rfl rfl mdX2_on ⟨by decide, by decide⟩) rfl hl.1 rfl (Nat.le_of_ble_eq_true rfl) dX8_addOrSubtract_10 ⟨Nat.zero_le _, Nat.zero_le _⟩ ?_
  refine kz_eq (tgt := 20) hx hb dX8_addOrSubtract_13 (by decide) (fun h_4 => ?_) (fun h_4 => ?_)
  · have hf := hf.trans (if_neg h_4)
    refine lv_aload_n hx hb dX8_addOrSubtract_20 rfl (lv_at hl 1 rfl) ?_
    refine va_get (D := gD G) (ci := 6) hx hb hts ku_8 hown hK hP 8 rfl rfl 0 (by decide) (hts _ kw_97) (fun _ h9 => h9) rfl dX8_addOrSubtract_21 ?_
    refine lv_iload_n hx hb dX8_addOrSubtract_24 rfl (lv_at hl 0 rfl) ?_
    refine kc_Vr (rest := []) (cx_Registers_read l G σ (x_Bits_three v0 6) (bt3_16 _ _)) ⟨hx, hb, hml, hown, hts⟩ (cwV 1 hts (gi_V kw_358 kw_359 kw_360 kw_19 kw_361) rfl rfl rfl ⟨rfl, mdX6_read⟩ ⟨by decide, by decide⟩) (va_recv hK hP (ci := 4) (q0 := 3) rfl rfl) cZ_ok hK hP hD hS hA hZ rfl hl.1 rfl (Nat.le_of_ble_eq_true rfl) dX8_addOrSubtract_25 ⟨Nat.zero_le _, Nat.zero_le _⟩ (fun H locs hP hD hS => ?_)
    exact J28 (x_Registers_read σ (x_Bits_three v0 6)) _ _ _ hP hD hS (lv_sub hl [1, 2] rfl) hf
  · have hf := hf.trans (if_pos h_4)
    refine lv_iload_n hx hb dX8_addOrSubtract_16 rfl (lv_at hl 0 rfl) ?_
    refine lv_goto (tgt := 28) hx hb dX8_addOrSubtract_17 (by decide) ?_
    exact J28 (x_Bits_three v0 6) _ _ _ hP hD hS (lv_sub hl [1, 2] rfl) hf
def x_ThumbSet_keepShifted (σ : CS) (v0 : Int32) (v1 : Int32) : Int32 × CS := ((-1), x_Registers_write (x_Registers_changeFlags ((x_Alu_compute σ 13 0 v1 (x_Shifter_carry σ)).2) (x_Alu_flags ((x_Alu_compute σ 13 0 v1 (x_Shifter_carry σ)).2))) v0 v1)
set_option maxRecDepth 20000 in
set_option maxHeartbeats 4000000 in
theorem cx_ThumbSet_keepShifted (l : Launch) (G : KG) (σ : CS) (v0 : Int32) (v1 : Int32) (hv0 : vp_in v0 16) : KB l yX8_keepShifted (Cond.code yX8_keepShifted cX8_keepShifted 3 (some .int) :: lw_all) (kr 3) (gD G) vwCl (gT G) (cZ G) (cW G) [.ref (gA G 8), .int v0, .int v1] σ (x_ThumbSet_keepShifted σ v0 v1) := by
  refine kc_in_b (q := x_ThumbSet_keepShifted σ v0 v1) (by decide) rfl (Nat.le_of_ble_eq_true rfl) ?_
  intro p e s m args below meth c A Q ls hx hb hml hown hts hK hP hD hA hS hZ hl hret
  have hts := fun w h => hts w (List.mem_cons_of_mem _ h)
  have hl : lv_has ls 3 [(0, .ref (gA G 8)), (1, .int v0), (2, .int v1)] := hl
  have hf : x_ThumbSet_keepShifted σ v0 v1 = x_ThumbSet_keepShifted σ v0 v1 := rfl
  refine lv_aload_n hx hb dX8_keepShifted_0 rfl (lv_at hl 0 rfl) ?_
  refine va_get (D := gD G) (ci := 6) hx hb hts ku_8 hown hK hP 8 rfl rfl 2 (by decide) (hts _ kw_99) (fun _ h9 => h9) rfl dX8_keepShifted_1 ?_
  refine lv_bipush (v := 13) hx hb dX8_keepShifted_4 (by decide) ?_
  refine lv_iconst (v := 0) hx hb dX8_keepShifted_6 (by decide) ?_
  refine lv_iload_n hx hb dX8_keepShifted_7 rfl (lv_at hl 2 rfl) ?_
  refine lv_aload_n hx hb dX8_keepShifted_8 rfl (lv_at hl 0 rfl) ?_
  refine va_get (D := gD G) (ci := 6) hx hb hts ku_8 hown hK hP 8 rfl rfl 1 (by decide) (hts _ kw_98) (fun _ h9 => h9) rfl dX8_keepShifted_9 ?_
  refine kc_Vr (rest := [.int v1, .int 0, .int 13, .ref (gA G 11)]) (cx_Shifter_carry l G σ) ⟨hx, hb, hml, hown, hts⟩ (cwV 0 hts (gi_V kw_431 kw_432 kw_433 kw_49 kw_434) rfl rfl rfl ⟨rfl, mdX7_carry⟩ ⟨by decide, by decide⟩) (va_recv hK hP (ci := 5) (q0 := 10) rfl rfl) cZ_ok hK hP hD hS hA hZ rfl hl.1 rfl (Nat.le_of_ble_eq_true rfl) dX8_keepShifted_12 ⟨Nat.zero_le _, Nat.zero_le _⟩ (fun H locs hP hD hS => ?_)
  refine kc_Vb (rest := []) (cx_Alu_compute l G σ 13 0 v1 (x_Shifter_carry σ)) ⟨hx, hb, hml, hown, hts⟩ (cwV 4 hts (gi_V kw_435 kw_371 kw_372 kw_52 kw_373) rfl rfl rfl ⟨rfl, mdX0_compute⟩ ⟨by decide, by decide⟩) (va_recv hK hP (ci := 0) (q0 := 11) rfl rfl) cZ_ok hK hP hD hS hA hZ rfl hl.1 rfl (Nat.le_of_ble_eq_true rfl) dX8_keepShifted_15 ⟨Nat.zero_le _, Nat.zero_le _⟩ (fun H locs hP hD hS => ?_)
  refine lv_pop hx hb dX8_keepShifted_18 rfl ?_
  refine lv_aload_n hx hb dX8_keepShifted_19 rfl (lv_at hl 0 rfl) ?_
  refine va_get (D := gD G) (ci := 6) hx hb hts ku_8 hown hK hP 8 rfl rfl 0 (by decide) (hts _ kw_97) (fun _ h9 => h9) rfl dX8_keepShifted_20 ?_
  refine lv_aload_n hx hb dX8_keepShifted_23 rfl (lv_at hl 0 rfl) ?_
  refine va_get (D := gD G) (ci := 6) hx hb hts ku_8 hown hK hP 8 rfl rfl 2 (by decide) (hts _ kw_99) (fun _ h9 => h9) rfl dX8_keepShifted_24 ?_
  refine kc_Vr (rest := [.ref (gA G 3)]) (cx_Alu_flags l G ((x_Alu_compute σ 13 0 v1 (x_Shifter_carry σ)).2)) ⟨hx, hb, hml, hown, hts⟩ (cwV 0 hts (gi_V kw_436 kw_437 kw_438 kw_52 kw_439) rfl rfl rfl ⟨rfl, mdX0_flags⟩ ⟨by decide, by decide⟩) (va_recv hK hP (ci := 0) (q0 := 11) rfl rfl) cZ_ok hK hP hD hS hA hZ rfl hl.1 rfl (Nat.le_of_ble_eq_true rfl) dX8_keepShifted_27 ⟨Nat.zero_le _, Nat.zero_le _⟩ (fun H locs hP hD hS => ?_)
  refine kc_Vv (rest := []) (cx_Registers_changeFlags l G ((x_Alu_compute σ 13 0 v1 (x_Shifter_carry σ)).2) (x_Alu_flags ((x_Alu_compute σ 13 0 v1 (x_Shifter_carry σ)).2))) ⟨hx, hb, hml, hown, hts⟩ (cwV 1 hts (gi_V kw_440 kw_394 kw_395 kw_19 kw_396) rfl rfl rfl ⟨rfl, mdX6_changeFlags⟩ ⟨by decide, by decide⟩) (va_recv hK hP (ci := 4) (q0 := 3) rfl rfl) cZ_ok hK hP hD hS hA hZ rfl hl.1 rfl (Nat.le_of_ble_eq_true rfl) dX8_keepShifted_30 ⟨Nat.zero_le _, Nat.zero_le _⟩ (fun H locs hP hD hS => ?_)
  refine lv_aload_n hx hb dX8_keepShifted_33 rfl (lv_at hl 0 rfl) ?_
  refine va_get (D := gD G) (ci := 6) hx hb hts ku_8 hown hK hP 8 rfl rfl 0 (by decide) (hts _ kw_97) (fun _ h9 => h9) rfl dX8_keepShifted_34 ?_
  refine lv_iload_n hx hb dX8_keepShifted_37 rfl (lv_at hl 1 rfl) ?_
  refine lv_iload_n hx hb dX8_keepShifted_38 rfl (lv_at hl 2 rfl) ?_
  refine kc_Vv (rest := []) (cx_Registers_write l G (x_Registers_changeFlags ((x_Alu_compute σ 13 0 v1 (x_Shifter_carry σ)).2) (x_Alu_flags ((x_Alu_compute σ 13 0 v1 (x_Shifter_carry σ)).2))) v0 v1 hv0) ⟨hx, hb, hml, hown, hts⟩ (cwV 2 hts (gi_V kw_441 kw_403 kw_404 kw_19 kw_405) rfl rfl rfl ⟨rfl, mdX6_write⟩ ⟨by decide, by decide⟩) (va_recv hK hP (ci := 4) (q0 := 3) rfl rfl) cZ_ok hK hP hD hS hA hZ rfl hl.1 rfl (Nat.le_of_ble_eq_true rfl) dX8_keepShifted_39 ⟨Nat.zero_le _, Nat.zero_le _⟩ (fun H locs hP hD hS => ?_)
  refine lv_iconst (v := (-1)) hx hb dX8_keepShifted_42 (by decide) ?_
  exact hret (-1) (x_Registers_write (x_Registers_changeFlags ((x_Alu_compute σ 13 0 v1 (x_Shifter_carry σ)).2) (x_Alu_flags ((x_Alu_compute σ 13 0 v1 (x_Shifter_carry σ)).2))) v0 v1) _ _ _ _ hf hP hD hS dX8_keepShifted_43
def x_ThumbSet_shiftByNumber (σ : CS) (v0 : Int32) : Int32 × CS := (x_ThumbSet_keepShifted ((x_Shifter_shiftByNumber σ ((iu v0 11) &&& 3) (x_Registers_read σ (x_Bits_three v0 3)) (x_Bits_five v0 6) (x_Registers_carry σ)).2) (x_Bits_three v0 0) ((x_Shifter_shiftByNumber σ ((iu v0 11) &&& 3) (x_Registers_read σ (x_Bits_three v0 3)) (x_Bits_five v0 6) (x_Registers_carry σ)).1))
set_option maxRecDepth 20000 in
set_option maxHeartbeats 4000000 in
theorem cx_ThumbSet_shiftByNumber (l : Launch) (G : KG) (σ : CS) (v0 : Int32) : KB l yX8_shiftByNumber (Cond.code yX8_shiftByNumber cX8_shiftByNumber 5 (some .int) :: lw_all) (kr 4) (gD G) vwCl (gT G) (cZ G) (cW G) [.ref (gA G 8), .int v0] σ (x_ThumbSet_shiftByNumber σ v0) := by
  refine kc_in_b (q := x_ThumbSet_shiftByNumber σ v0) (by decide) rfl (Nat.le_of_ble_eq_true rfl) ?_
  intro p e s m args below meth c A Q ls hx hb hml hown hts hK hP hD hA hS hZ hl hret
  have hts := fun w h => hts w (List.mem_cons_of_mem _ h)
  have hl : lv_has ls 5 [(0, .ref (gA G 8)), (1, .int v0)] := hl
  have hf : x_ThumbSet_shiftByNumber σ v0 = x_ThumbSet_shiftByNumber σ v0 := rfl
  refine lv_aload_n hx hb dX8_shiftByNumber_0 rfl (lv_at hl 0 rfl) ?_
  refine va_get (D := gD G) (ci := 6) hx hb hts ku_8 hown hK hP 8 rfl rfl 0 (by decide) (hts _ kw_97) (fun _ h9 => h9) rfl dX8_shiftByNumber_1 ?_
  refine lv_iload_n hx hb dX8_shiftByNumber_4 rfl (lv_at hl 1 rfl) ?_
  refine lv_iconst (v := 3) hx hb dX8_shiftByNumber_5 (by decide) ?_
  refine kp_Si (rest := [.ref (gA G 3)]) (cx_Bits_three l v0 3) ⟨hx, hb, hml, hown, hts⟩ (va_cwS 2 hts (gi_S kw_352 kw_353 kw_346 kw_354) rfl rfl rfl mdX2_three ⟨by decide, by decide⟩) rfl hl.1 rfl (Nat.le_of_ble_eq_true rfl) dX8_shiftByNumber_6 ⟨Nat.zero_le _, Nat.zero_le _⟩ ?_
  refine kc_Vr (rest := []) (cx_Registers_read l G σ (x_Bits_three v0 3) (bt3_16 _ _)) ⟨hx, hb, hml, hown, hts⟩ (cwV 1 hts (gi_V kw_358 kw_359 kw_360 kw_19 kw_361) rfl rfl rfl ⟨rfl, mdX6_read⟩ ⟨by decide, by decide⟩) (va_recv hK hP (ci := 4) (q0 := 3) rfl rfl) cZ_ok hK hP hD hS hA hZ rfl hl.1 rfl (Nat.le_of_ble_eq_true rfl) dX8_shiftByNumber_9 ⟨Nat.zero_le _, Nat.zero_le _⟩ (fun H locs hP hD hS => ?_)
  refine lv_istore_n (lv' := [(2, .int (x_Registers_read σ (x_Bits_three v0 3))), (0, .ref (gA G 8)), (1, .int v0)]) hx hb dX8_shiftByNumber_12 rfl hl (by decide) rfl (fun ls hl => ?_)
  refine lv_iload_n hx hb dX8_shiftByNumber_13 rfl (lv_at hl 2 rfl) ?_
  refine lv_bipush (v := 6) hx hb dX8_shiftByNumber_14 (by decide) ?_
  refine kp_Si (rest := []) (cx_Bits_five l v0 6) ⟨hx, hb, hml, hown, hts⟩ (va_cwS 2 hts (gi_S kw_412 kw_413 kw_346 kw_414) rfl rfl rfl mdX2_five ⟨by decide, by decide⟩) rfl hl.1 rfl (Nat.le_of_ble_eq_true rfl) dX8_shiftByNumber_16 ⟨Nat.zero_le _, Nat.zero_le _⟩ ?_
  refine lv_istore_n (lv' := [(3, .int (x_Bits_five v0 6)), (2, .int (x_Registers_read σ (x_Bits_three v0 3))), (0, .ref (gA G 8)), (1, .int v0)]) hx hb dX8_shiftByNumber_19 rfl hl (by decide) rfl (fun ls hl => ?_)
  refine lv_aload_n hx hb dX8_shiftByNumber_20 rfl (lv_at hl 2 rfl) ?_
  refine va_get (D := gD G) (ci := 6) hx hb hts ku_8 hown hK hP 8 rfl rfl 1 (by decide) (hts _ kw_98) (fun _ h9 => h9) rfl dX8_shiftByNumber_21 ?_
  refine lv_iload_n hx hb dX8_shiftByNumber_24 rfl (lv_at hl 3 rfl) ?_
  refine lv_bipush (v := 11) hx hb dX8_shiftByNumber_25 (by decide) ?_
  refine lv_iushr (v := iu v0 11) hx hb dX8_shiftByNumber_27 rfl ?_
  refine lv_iconst (v := 3) hx hb dX8_shiftByNumber_28 (by decide) ?_
  refine lv_iand hx hb dX8_shiftByNumber_29 ?_
  refine lv_iload_n hx hb dX8_shiftByNumber_30 rfl (lv_at hl 1 rfl) ?_
  refine lv_iload_n hx hb dX8_shiftByNumber_31 rfl (lv_at hl 0 rfl) ?_
  refine lv_aload_n hx hb dX8_shiftByNumber_32 rfl (lv_at hl 2 rfl) ?_
  refine va_get (D := gD G) (ci := 6) hx hb hts ku_8 hown hK hP 8 rfl rfl 0 (by decide) (hts _ kw_97) (fun _ h9 => h9) rfl dX8_shiftByNumber_33 ?_
  refine kc_Vr (rest := [.int (x_Bits_five v0 6), .int (x_Registers_read σ (x_Bits_three v0 3)), .int ((iu v0 11) &&& 3), .ref (gA G 10)]) (cx_Registers_carry l G σ) ⟨hx, hb, hml, hown, hts⟩ (cwV 0 hts (gi_V kw_415 kw_367 kw_368 kw_19 kw_369) rfl rfl rfl ⟨rfl, mdX6_carry⟩ ⟨by decide, by decide⟩) (va_recv hK hP (ci := 4) (q0 := 3) rfl rfl) cZ_ok hK hP hD hS hA hZ rfl hl.1 rfl (Nat.le_of_ble_eq_true rfl) dX8_shiftByNumber_36 ⟨Nat.zero_le _, Nat.zero_le _⟩ (fun H locs hP hD hS => ?_)
  refine kc_Vb (rest := []) (cx_Shifter_shiftByNumber l G σ ((iu v0 11) &&& 3) (x_Registers_read σ (x_Bits_three v0 3)) (x_Bits_five v0 6) (x_Registers_carry σ)) ⟨hx, hb, hml, hown, hts⟩ (cwV 4 hts (gi_V kw_416 kw_417 kw_418 kw_49 kw_419) rfl rfl rfl ⟨rfl, mdX7_shiftByNumber⟩ ⟨by decide, by decide⟩) (va_recv hK hP (ci := 5) (q0 := 10) rfl rfl) cZ_ok hK hP hD hS hA hZ rfl hl.1 rfl (Nat.le_of_ble_eq_true rfl) dX8_shiftByNumber_39 ⟨Nat.zero_le _, Nat.zero_le _⟩ (fun H locs hP hD hS => ?_)
  refine lv_istore (lv' := [(4, .int ((x_Shifter_shiftByNumber σ ((iu v0 11) &&& 3) (x_Registers_read σ (x_Bits_three v0 3)) (x_Bits_five v0 6) (x_Registers_carry σ)).1)), (3, .int (x_Bits_five v0 6)), (2, .int (x_Registers_read σ (x_Bits_three v0 3))), (0, .ref (gA G 8)), (1, .int v0)]) hx hb dX8_shiftByNumber_42 hl (by decide) rfl (fun ls hl => ?_)
  refine lv_aload_n hx hb dX8_shiftByNumber_44 rfl (lv_at hl 3 rfl) ?_
  refine lv_iload_n hx hb dX8_shiftByNumber_45 rfl (lv_at hl 4 rfl) ?_
  refine lv_iconst (v := 0) hx hb dX8_shiftByNumber_46 (by decide) ?_
  refine kp_Si (rest := [.ref (gA G 8)]) (cx_Bits_three l v0 0) ⟨hx, hb, hml, hown, hts⟩ (va_cwS 2 hts (gi_S kw_352 kw_353 kw_346 kw_354) rfl rfl rfl mdX2_three ⟨by decide, by decide⟩) rfl hl.1 rfl (Nat.le_of_ble_eq_true rfl) dX8_shiftByNumber_47 ⟨Nat.zero_le _, Nat.zero_le _⟩ ?_
  refine lv_iload hx hb dX8_shiftByNumber_50 (lv_at hl 0 rfl) ?_
  refine kc_Vb (rest := []) (cx_ThumbSet_keepShifted l G ((x_Shifter_shiftByNumber σ ((iu v0 11) &&& 3) (x_Registers_read σ (x_Bits_three v0 3)) (x_Bits_five v0 6) (x_Registers_carry σ)).2) (x_Bits_three v0 0) ((x_Shifter_shiftByNumber σ ((iu v0 11) &&& 3) (x_Registers_read σ (x_Bits_three v0 3)) (x_Bits_five v0 6) (x_Registers_carry σ)).1) (bt3_16 _ _)) ⟨hx, hb, hml, hown, hts⟩ (cwV 2 hts (gi_V kw_427 kw_428 kw_429 kw_62 kw_430) rfl rfl rfl ⟨rfl, mdX8_keepShifted⟩ ⟨by decide, by decide⟩) (va_recv hK hP (ci := 6) (q0 := 8) rfl rfl) cZ_ok hK hP hD hS hA hZ rfl hl.1 rfl (Nat.le_of_ble_eq_true rfl) dX8_shiftByNumber_52 ⟨Nat.zero_le _, Nat.zero_le _⟩ (fun H locs hP hD hS => ?_)
  exact hret ((x_ThumbSet_keepShifted ((x_Shifter_shiftByNumber σ ((iu v0 11) &&& 3) (x_Registers_read σ (x_Bits_three v0 3)) (x_Bits_five v0 6) (x_Registers_carry σ)).2) (x_Bits_three v0 0) ((x_Shifter_shiftByNumber σ ((iu v0 11) &&& 3) (x_Registers_read σ (x_Bits_three v0 3)) (x_Bits_five v0 6) (x_Registers_carry σ)).1)).1) ((x_ThumbSet_keepShifted ((x_Shifter_shiftByNumber σ ((iu v0 11) &&& 3) (x_Registers_read σ (x_Bits_three v0 3)) (x_Bits_five v0 6) (x_Registers_carry σ)).2) (x_Bits_three v0 0) ((x_Shifter_shiftByNumber σ ((iu v0 11) &&& 3) (x_Registers_read σ (x_Bits_three v0 3)) (x_Bits_five v0 6) (x_Registers_carry σ)).1)).2) _ _ _ _ hf hP hD hS dX8_shiftByNumber_55
def x_ThumbSet_withNumber_55 (σ : CS) (v0 : Int32) (k0_55 : Int32) : Int32 × CS := ((-1), x_Alu_apply σ k0_55 (x_Bits_three v0 8) (x_Registers_read σ (x_Bits_three v0 8)) (v0 &&& 255))
def x_ThumbSet_withNumber_37 (σ : CS) (v0 : Int32) (k0_24 : Int32) (k0_37 : Int32) : Int32 × CS := (if ((iu v0 11) &&& 3) < 2 then x_ThumbSet_withNumber_55 σ v0 k0_37 else x_ThumbSet_withNumber_55 σ v0 k0_24)
def x_ThumbSet_withNumber_24 (σ : CS) (v0 : Int32) (k0_24 : Int32) : Int32 × CS := (if ((iu v0 11) &&& 3) = 0 then x_ThumbSet_withNumber_37 σ v0 k0_24 13 else x_ThumbSet_withNumber_37 σ v0 k0_24 10)
def x_ThumbSet_withNumber (σ : CS) (v0 : Int32) : Int32 × CS := (if ((iu v0 11) &&& 3) = 2 then x_ThumbSet_withNumber_24 σ v0 4 else x_ThumbSet_withNumber_24 σ v0 2)
set_option maxRecDepth 20000 in
set_option maxHeartbeats 4000000 in
theorem cx_ThumbSet_withNumber (l : Launch) (G : KG) (σ : CS) (v0 : Int32) : KB l yX8_withNumber (Cond.code yX8_withNumber cX8_withNumber 6 (some .int) :: lw_all) (kr 4) (gD G) vwCl (gT G) (cZ G) (cW G) [.ref (gA G 8), .int v0] σ (x_ThumbSet_withNumber σ v0) := by
  refine kc_in_b (q := x_ThumbSet_withNumber σ v0) (by decide) rfl (Nat.le_of_ble_eq_true rfl) ?_
  intro p e s m args below meth c A Q ls hx hb hml hown hts hK hP hD hA hS hZ hl hret
  have hts := fun w h => hts w (List.mem_cons_of_mem _ h)
  have hl : lv_has ls 6 [(0, .ref (gA G 8)), (1, .int v0)] := hl
  have hf : x_ThumbSet_withNumber σ v0 = x_ThumbSet_withNumber σ v0 := rfl
  have J55 : ∀ (k0_55 : Int32) (H : Heap) (locs : List Loc) (ls : Array Slot), va_P (gD G) vwCl (cW G (σ)) H → va_D A (cW G (σ)) → va_S A s.heap H locs → lv_has ls 6 [(0, .ref (gA G 8)), (1, .int v0), (2, .int (x_Bits_three v0 8))] → x_ThumbSet_withNumber σ v0 = x_ThumbSet_withNumber_55 σ v0 k0_55 → W p l e (kr 4) s m args below meth c H locs 0 0 Q (F0 m 55 ls [.int k0_55, .ref (gA G 11)]) := by
    intro k0_55 H locs ls hP hD hS hl hf
    refine lv_iload_n hx hb dX8_withNumber_55 rfl (lv_at hl 2 rfl) ?_
    refine lv_aload_n hx hb dX8_withNumber_56 rfl (lv_at hl 0 rfl) ?_
    refine va_get (D := gD G) (ci := 6) hx hb hts ku_8 hown hK hP 8 rfl rfl 0 (by decide) (hts _ kw_97) (fun _ h9 => h9) rfl dX8_withNumber_57 ?_
    refine lv_iload_n hx hb dX8_withNumber_60 rfl (lv_at hl 2 rfl) ?_
    refine kc_Vr (rest := [.int (x_Bits_three v0 8), .int k0_55, .ref (gA G 11)]) (cx_Registers_read l G σ (x_Bits_three v0 8) (bt3_16 _ _)) ⟨hx, hb, hml, hown, hts⟩ (cwV 1 hts (gi_V kw_358 kw_359 kw_360 kw_19 kw_361) rfl rfl rfl ⟨rfl, mdX6_read⟩ ⟨by decide, by decide⟩) (va_recv hK hP (ci := 4) (q0 := 3) rfl rfl) cZ_ok hK hP hD hS hA hZ rfl hl.1 rfl (Nat.le_of_ble_eq_true rfl) dX8_withNumber_61 ⟨Nat.zero_le _, Nat.zero_le _⟩ (fun H locs hP hD hS => ?_)
    refine lv_iload_n hx hb dX8_withNumber_64 rfl (lv_at hl 1 rfl) ?_
    refine lv_sipush (v := 255) hx hb dX8_withNumber_65 (by decide) ?_
    refine lv_iand hx hb dX8_withNumber_68 ?_
    refine kc_Vv (rest := []) (cx_Alu_apply l G σ k0_55 (x_Bits_three v0 8) (x_Registers_read σ (x_Bits_three v0 8)) (v0 &&& 255) (bt3_16 _ _)) ⟨hx, hb, hml, hown, hts⟩ (cwV 4 hts (gi_V kw_362 kw_363 kw_364 kw_52 kw_365) rfl rfl rfl ⟨rfl, mdX0_apply⟩ ⟨by decide, by decide⟩) (va_recv hK hP (ci := 0) (q0 := 11) rfl rfl) cZ_ok hK hP hD hS hA hZ rfl hl.1 rfl (Nat.le_of_ble_eq_true rfl) dX8_withNumber_69 ⟨Nat.zero_le _, Nat.zero_le _⟩ (fun H locs hP hD hS => ?_)
    refine lv_iconst (v := (-1)) hx hb dX8_withNumber_72 (by decide) ?_
    exact hret (-1) (x_Alu_apply σ k0_55 (x_Bits_three v0 8) (x_Registers_read σ (x_Bits_three v0 8)) (v0 &&& 255)) _ _ _ _ hf hP hD hS dX8_withNumber_73
  have J37 : ∀ (k0_24 : Int32) (k0_37 : Int32) (H : Heap) (locs : List Loc) (ls : Array Slot), va_P (gD G) vwCl (cW G (σ)) H → va_D A (cW G (σ)) → va_S A s.heap H locs → lv_has ls 6 [(0, .ref (gA G 8)), (1, .int v0), (2, .int (x_Bits_three v0 8)), (3, .int ((iu v0 11) &&& 3)), (4, .int k0_24)] → x_ThumbSet_withNumber σ v0 = x_ThumbSet_withNumber_37 σ v0 k0_24 k0_37 → W p l e (kr 4) s m args below meth c H locs 0 0 Q (F0 m 37 ls [.int k0_37]) := by
    intro k0_24 k0_37 H locs ls hP hD hS hl hf
    refine lv_istore (lv' := [(5, .int k0_37), (0, .ref (gA G 8)), (1, .int v0), (2, .int (x_Bits_three v0 8)), (3, .int ((iu v0 11) &&& 3)), (4, .int k0_24)]) hx hb dX8_withNumber_37 hl (by decide) rfl (fun ls hl => ?_)
    refine lv_aload_n hx hb dX8_withNumber_39 rfl (lv_at hl 1 rfl) ?_
    refine va_get (D := gD G) (ci := 6) hx hb hts ku_8 hown hK hP 8 rfl rfl 2 (by decide) (hts _ kw_99) (fun _ h9 => h9) rfl dX8_withNumber_40 ?_
    refine lv_iload_n hx hb dX8_withNumber_43 rfl (lv_at hl 4 rfl) ?_
    refine lv_iconst (v := 2) hx hb dX8_withNumber_44 (by decide) ?_
    refine lv_icmp_lt (tgt := 53) hx hb dX8_withNumber_45 (by decide) (fun h_4 => ?_) (fun h_4 => ?_)
    · have hf := hf.trans (if_pos h_4)
      refine lv_iload hx hb dX8_withNumber_53 (lv_at hl 0 rfl) ?_
      exact J55 k0_37 _ _ _ hP hD hS (lv_sub hl [1, 2, 3] rfl) hf
    · have hf := hf.trans (if_neg h_4)
      refine lv_iload hx hb dX8_withNumber_48 (lv_at hl 5 rfl) ?_
      refine lv_goto (tgt := 55) hx hb dX8_withNumber_50 (by decide) ?_
      exact J55 k0_24 _ _ _ hP hD hS (lv_sub hl [1, 2, 3] rfl) hf
  have J24 : ∀ (k0_24 : Int32) (H : Heap) (locs : List Loc) (ls : Array Slot), va_P (gD G) vwCl (cW G (σ)) H → va_D A (cW G (σ)) → va_S A s.heap H locs → lv_has ls 6 [(0, .ref (gA G 8)), (1, .int v0), (2, .int (x_Bits_three v0 8)), (3, .int ((iu v0 11) &&& 3))] → x_ThumbSet_withNumber σ v0 = x_ThumbSet_withNumber_24 σ v0 k0_24 → W p l e (kr 4) s m args below meth c H locs 0 0 Q (F0 m 24 ls [.int k0_24]) := by
    intro k0_24 H locs ls hP hD hS hl hf
    refine lv_istore (lv' := [(4, .int k0_24), (0, .ref (gA G 8)), (1, .int v0), (2, .int (x_Bits_three v0 8)), (3, .int ((iu v0 11) &&& 3))]) hx hb dX8_withNumber_24 hl (by decide) rfl (fun ls hl => ?_)
    refine lv_iload_n hx hb dX8_withNumber_26 rfl (lv_at hl 4 rfl) ?_
    refine lv_if_ne (tgt := 35) hx hb dX8_withNumber_27 (by decide) (fun h_5 => ?_) (fun h_5 => ?_)
    · have hf := hf.trans (if_neg h_5)
      refine lv_bipush (v := 10) hx hb dX8_withNumber_35 (by decide) ?_
      exact J37 k0_24 10 _ _ _ hP hD hS (lv_sub hl [1, 2, 3, 4, 0] rfl) hf
    · have hf := hf.trans (if_pos h_5)
      refine lv_bipush (v := 13) hx hb dX8_withNumber_30 (by decide) ?_
      refine lv_goto (tgt := 37) hx hb dX8_withNumber_32 (by decide) ?_
      exact J37 k0_24 13 _ _ _ hP hD hS (lv_sub hl [1, 2, 3, 4, 0] rfl) hf
  refine lv_iload_n hx hb dX8_withNumber_0 rfl (lv_at hl 1 rfl) ?_
  refine lv_bipush (v := 8) hx hb dX8_withNumber_1 (by decide) ?_
  refine kp_Si (rest := []) (cx_Bits_three l v0 8) ⟨hx, hb, hml, hown, hts⟩ (va_cwS 2 hts (gi_S kw_352 kw_353 kw_346 kw_354) rfl rfl rfl mdX2_three ⟨by decide, by decide⟩) rfl hl.1 rfl (Nat.le_of_ble_eq_true rfl) dX8_withNumber_3 ⟨Nat.zero_le _, Nat.zero_le _⟩ ?_
  refine lv_istore_n (lv' := [(2, .int (x_Bits_three v0 8)), (0, .ref (gA G 8)), (1, .int v0)]) hx hb dX8_withNumber_6 rfl hl (by decide) rfl (fun ls hl => ?_)
  refine lv_iload_n hx hb dX8_withNumber_7 rfl (lv_at hl 2 rfl) ?_
  refine lv_bipush (v := 11) hx hb dX8_withNumber_8 (by decide) ?_
  refine lv_iushr (v := iu v0 11) hx hb dX8_withNumber_10 rfl ?_
  refine lv_iconst (v := 3) hx hb dX8_withNumber_11 (by decide) ?_
  refine lv_iand hx hb dX8_withNumber_12 ?_
  refine lv_istore_n (lv' := [(3, .int ((iu v0 11) &&& 3)), (2, .int (x_Bits_three v0 8)), (0, .ref (gA G 8)), (1, .int v0)]) hx hb dX8_withNumber_13 rfl hl (by decide) rfl (fun ls hl => ?_)
  refine lv_iload_n hx hb dX8_withNumber_14 rfl (lv_at hl 0 rfl) ?_
  refine lv_iconst (v := 2) hx hb dX8_withNumber_15 (by decide) ?_
  refine lv_icmp_ne (tgt := 23) hx hb dX8_withNumber_16 (by decide) (fun h_6 => ?_) (fun h_6 => ?_)
  · have hf := hf.trans (if_neg h_6)
    refine lv_iconst (v := 2) hx hb dX8_withNumber_23 (by decide) ?_
    exact J24 2 _ _ _ hP hD hS (lv_sub hl [2, 3, 1, 0] rfl) hf
  · have hf := hf.trans (if_pos h_6)
    refine lv_iconst (v := 4) hx hb dX8_withNumber_19 (by decide) ?_
    refine lv_goto (tgt := 24) hx hb dX8_withNumber_20 (by decide) ?_
    exact J24 4 _ _ _ hP hD hS (lv_sub hl [2, 3, 1, 0] rfl) hf
def x_ThumbSet_wordOfPc (σ : CS) : Int32 := (x_Registers_read σ 15) &&& (-4)
set_option maxRecDepth 20000 in
set_option maxHeartbeats 4000000 in
theorem cx_ThumbSet_wordOfPc (l : Launch) (G : KG) (σ : CS) : KB l yX8_wordOfPc (Cond.code yX8_wordOfPc cX8_wordOfPc 1 (some .int) :: lw_all) (kr 2) (gD G) vwCl (gT G) (cZ G) (cW G) [.ref (gA G 8)] σ (x_ThumbSet_wordOfPc σ, σ) := by
  refine kc_in_r (q := x_ThumbSet_wordOfPc σ) (by decide) rfl (Nat.le_of_ble_eq_true rfl) ?_
  intro p e s m args below meth c A Q ls hx hb hml hown hts hK hP hD hA hS hZ hl hret
  have hts := fun w h => hts w (List.mem_cons_of_mem _ h)
  have hl : lv_has ls 1 [(0, .ref (gA G 8))] := hl
  have hf : x_ThumbSet_wordOfPc σ = x_ThumbSet_wordOfPc σ := rfl
  refine lv_aload_n hx hb dX8_wordOfPc_0 rfl (lv_at hl 0 rfl) ?_
  refine va_get (D := gD G) (ci := 6) hx hb hts ku_8 hown hK hP 8 rfl rfl 0 (by decide) (hts _ kw_97) (fun _ h9 => h9) rfl dX8_wordOfPc_1 ?_
  refine lv_bipush (v := 15) hx hb dX8_wordOfPc_4 (by decide) ?_
  refine kc_Vr (rest := []) (cx_Registers_read l G σ 15 (by unfold vp_in; decide)) ⟨hx, hb, hml, hown, hts⟩ (cwV 1 hts (gi_V kw_358 kw_359 kw_360 kw_19 kw_361) rfl rfl rfl ⟨rfl, mdX6_read⟩ ⟨by decide, by decide⟩) (va_recv hK hP (ci := 4) (q0 := 3) rfl rfl) cZ_ok hK hP hD hS hA hZ rfl hl.1 rfl (Nat.le_of_ble_eq_true rfl) dX8_wordOfPc_6 ⟨Nat.zero_le _, Nat.zero_le _⟩ (fun H locs hP hD hS => ?_)
  refine lv_bipush (v := (-4)) hx hb dX8_wordOfPc_9 (by decide) ?_
  refine lv_iand hx hb dX8_wordOfPc_11 ?_
  exact hret ((x_Registers_read σ 15) &&& (-4)) _ _ _ _ hf hP hD hS dX8_wordOfPc_12
def x_ThumbSet_loadBesidePc (σ : CS) (v0 : Int32) : Int32 × CS := (x_Transfers_plain σ true 0 (x_Bits_three v0 8) ((x_ThumbSet_wordOfPc σ) + (4 * (v0 &&& 255))))
set_option maxRecDepth 20000 in
set_option maxHeartbeats 4000000 in
theorem cx_ThumbSet_loadBesidePc (l : Launch) (G : KG) (σ : CS) (v0 : Int32) : KB l yX8_loadBesidePc (Cond.code yX8_loadBesidePc cX8_loadBesidePc 3 (some .int) :: lw_all) (kr 4) (gD G) vwCl (gT G) (cZ G) (cW G) [.ref (gA G 8), .int v0] σ (x_ThumbSet_loadBesidePc σ v0) := by
  refine kc_in_b (q := x_ThumbSet_loadBesidePc σ v0) (by decide) rfl (Nat.le_of_ble_eq_true rfl) ?_
  intro p e s m args below meth c A Q ls hx hb hml hown hts hK hP hD hA hS hZ hl hret
  have hts := fun w h => hts w (List.mem_cons_of_mem _ h)
  have hl : lv_has ls 3 [(0, .ref (gA G 8)), (1, .int v0)] := hl
  have hf : x_ThumbSet_loadBesidePc σ v0 = x_ThumbSet_loadBesidePc σ v0 := rfl
  refine lv_aload_n hx hb dX8_loadBesidePc_0 rfl (lv_at hl 0 rfl) ?_
  refine kc_Vr (rest := []) (cx_ThumbSet_wordOfPc l G σ) ⟨hx, hb, hml, hown, hts⟩ (cwV 0 hts (gi_V kw_450 kw_451 kw_452 kw_62 kw_453) rfl rfl rfl ⟨rfl, mdX8_wordOfPc⟩ ⟨by decide, by decide⟩) (va_recv hK hP (ci := 6) (q0 := 8) rfl rfl) cZ_ok hK hP hD hS hA hZ rfl hl.1 rfl (Nat.le_of_ble_eq_true rfl) dX8_loadBesidePc_1 ⟨Nat.zero_le _, Nat.zero_le _⟩ (fun H locs hP hD hS => ?_)
  refine lv_iconst (v := 4) hx hb dX8_loadBesidePc_4 (by decide) ?_
  refine lv_iload_n hx hb dX8_loadBesidePc_5 rfl (lv_at hl 1 rfl) ?_
  refine lv_sipush (v := 255) hx hb dX8_loadBesidePc_6 (by decide) ?_
  refine lv_iand hx hb dX8_loadBesidePc_9 ?_
  refine lv_imul hx hb dX8_loadBesidePc_10 ?_
  refine lv_iadd hx hb dX8_loadBesidePc_11 ?_
  refine lv_istore_n (lv' := [(2, .int ((x_ThumbSet_wordOfPc σ) + (4 * (v0 &&& 255)))), (0, .ref (gA G 8)), (1, .int v0)]) hx hb dX8_loadBesidePc_12 rfl hl (by decide) rfl (fun ls hl => ?_)
  refine lv_aload_n hx hb dX8_loadBesidePc_13 rfl (lv_at hl 1 rfl) ?_
  refine va_get (D := gD G) (ci := 6) hx hb hts ku_8 hown hK hP 8 rfl rfl 3 (by decide) (hts _ kw_100) (fun _ h9 => h9) rfl dX8_loadBesidePc_14 ?_
  refine lv_iconst (v := 1) hx hb dX8_loadBesidePc_17 (by decide) ?_
  refine lv_iconst (v := 0) hx hb dX8_loadBesidePc_18 (by decide) ?_
  refine lv_iload_n hx hb dX8_loadBesidePc_19 rfl (lv_at hl 2 rfl) ?_
  refine lv_bipush (v := 8) hx hb dX8_loadBesidePc_20 (by decide) ?_
  refine kp_Si (rest := [.int 0, .int 1, .ref (gA G 12)]) (cx_Bits_three l v0 8) ⟨hx, hb, hml, hown, hts⟩ (va_cwS 2 hts (gi_S kw_352 kw_353 kw_346 kw_354) rfl rfl rfl mdX2_three ⟨by decide, by decide⟩) rfl hl.1 rfl (Nat.le_of_ble_eq_true rfl) dX8_loadBesidePc_22 ⟨Nat.zero_le _, Nat.zero_le _⟩ ?_
  refine lv_iload_n hx hb dX8_loadBesidePc_25 rfl (lv_at hl 0 rfl) ?_
  refine kc_Vb (rest := []) (cx_Transfers_plain l G σ true 0 (x_Bits_three v0 8) ((x_ThumbSet_wordOfPc σ) + (4 * (v0 &&& 255))) (bt3_16 _ _)) ⟨hx, hb, hml, hown, hts⟩ (cwV 4 hts (gi_V kw_454 kw_455 kw_456 kw_55 kw_457) rfl rfl rfl ⟨rfl, mdX9_plain⟩ ⟨by decide, by decide⟩) (va_recv hK hP (ci := 7) (q0 := 12) rfl rfl) cZ_ok hK hP hD hS hA hZ rfl hl.1 rfl (Nat.le_of_ble_eq_true rfl) dX8_loadBesidePc_26 ⟨Nat.zero_le _, Nat.zero_le _⟩ (fun H locs hP hD hS => ?_)
  exact hret ((x_Transfers_plain σ true 0 (x_Bits_three v0 8) ((x_ThumbSet_wordOfPc σ) + (4 * (v0 &&& 255)))).1) ((x_Transfers_plain σ true 0 (x_Bits_three v0 8) ((x_ThumbSet_wordOfPc σ) + (4 * (v0 &&& 255)))).2) _ _ _ _ hf hP hD hS dX8_loadBesidePc_29
def x_ThumbSet_ofAllRegisters (σ : CS) (v0 : Int32) : Int32 × CS := (if ((iu v0 8) &&& 3) = 0 then ((-1), x_Registers_write σ ((x_Bits_three v0 0) ||| ((iu v0 4) &&& 8)) ((x_Registers_read σ ((x_Bits_three v0 0) ||| ((iu v0 4) &&& 8))) + (x_Registers_read σ (x_Bits_four v0 3)))) else (if ((iu v0 8) &&& 3) = 1 then ((-1), x_Alu_apply σ 10 ((x_Bits_three v0 0) ||| ((iu v0 4) &&& 8)) (x_Registers_read σ ((x_Bits_three v0 0) ||| ((iu v0 4) &&& 8))) (x_Registers_read σ (x_Bits_four v0 3))) else (if ((iu v0 8) &&& 3) = 2 then ((-1), x_Registers_write σ ((x_Bits_three v0 0) ||| ((iu v0 4) &&& 8)) (x_Registers_read σ (x_Bits_four v0 3))) else (if (x_Bits_on v0 7) = true then (0, σ) else ((-1), x_Registers_jumpAndChangeSet σ (x_Registers_read σ (x_Bits_four v0 3)))))))
set_option maxRecDepth 20000 in
set_option maxHeartbeats 4000000 in
theorem cx_ThumbSet_ofAllRegisters (l : Launch) (G : KG) (σ : CS) (v0 : Int32) : KB l yX8_ofAllRegisters (Cond.code yX8_ofAllRegisters cX8_ofAllRegisters 4 (some .int) :: lw_all) (kr 4) (gD G) vwCl (gT G) (cZ G) (cW G) [.ref (gA G 8), .int v0] σ (x_ThumbSet_ofAllRegisters σ v0) := by
  refine kc_in_b (q := x_ThumbSet_ofAllRegisters σ v0) (by decide) rfl (Nat.le_of_ble_eq_true rfl) ?_
  intro p e s m args below meth c A Q ls hx hb hml hown hts hK hP hD hA hS hZ hl hret
  have hts := fun w h => hts w (List.mem_cons_of_mem _ h)
  have hl : lv_has ls 4 [(0, .ref (gA G 8)), (1, .int v0)] := hl
  have hf : x_ThumbSet_ofAllRegisters σ v0 = x_ThumbSet_ofAllRegisters σ v0 := rfl
  refine lv_iload_n hx hb dX8_ofAllRegisters_0 rfl (lv_at hl 1 rfl) ?_
  refine lv_iconst (v := 0) hx hb dX8_ofAllRegisters_1 (by decide) ?_
  refine kp_Si (rest := []) (cx_Bits_three l v0 0) ⟨hx, hb, hml, hown, hts⟩ (va_cwS 2 hts (gi_S kw_352 kw_353 kw_346 kw_354) rfl rfl rfl mdX2_three ⟨by decide, by decide⟩) rfl hl.1 rfl (Nat.le_of_ble_eq_true rfl) dX8_ofAllRegisters_2 ⟨Nat.zero_le _, Nat.zero_le _⟩ ?_
  refine lv_iload_n hx hb dX8_ofAllRegisters_5 rfl (lv_at hl 1 rfl) ?_
  refine lv_iconst (v := 4) hx hb dX8_ofAllRegisters_6 (by decide) ?_
  refine lv_iushr (v := iu v0 4) hx hb dX8_ofAllRegisters_7 rfl ?_
  refine lv_bipush (v := 8) hx hb dX8_ofAllRegisters_8 (by decide) ?_
  refine lv_iand hx hb dX8_ofAllRegisters_10 ?_
  refine lv_ior hx hb dX8_ofAllRegisters_11 ?_
  refine lv_istore_n (lv' := [(2, .int ((x_Bits_three v0 0) ||| ((iu v0 4) &&& 8))), (0, .ref (gA G 8)), (1, .int v0)]) hx hb dX8_ofAllRegisters_12 rfl hl (by decide) rfl (fun ls hl => ?_)
  refine lv_aload_n hx hb dX8_ofAllRegisters_13 rfl (lv_at hl 1 rfl) ?_
  refine va_get (D := gD G) (ci := 6) hx hb hts ku_8 hown hK hP 8 rfl rfl 0 (by decide) (hts _ kw_97) (fun _ h9 => h9) rfl dX8_ofAllRegisters_14 ?_
  refine lv_iload_n hx hb dX8_ofAllRegisters_17 rfl (lv_at hl 2 rfl) ?_
  refine lv_iconst (v := 3) hx hb dX8_ofAllRegisters_18 (by decide) ?_
  refine kp_Si (rest := [.ref (gA G 3)]) (cx_Bits_four l v0 3) ⟨hx, hb, hml, hown, hts⟩ (va_cwS 2 hts (gi_S kw_344 kw_345 kw_346 kw_347) rfl rfl rfl mdX2_four ⟨by decide, by decide⟩) rfl hl.1 rfl (Nat.le_of_ble_eq_true rfl) dX8_ofAllRegisters_19 ⟨Nat.zero_le _, Nat.zero_le _⟩ ?_
  refine kc_Vr (rest := []) (cx_Registers_read l G σ (x_Bits_four v0 3) (bt4_16 _ _)) ⟨hx, hb, hml, hown, hts⟩ (cwV 1 hts (gi_V kw_358 kw_359 kw_360 kw_19 kw_361) rfl rfl rfl ⟨rfl, mdX6_read⟩ ⟨by decide, by decide⟩) (va_recv hK hP (ci := 4) (q0 := 3) rfl rfl) cZ_ok hK hP hD hS hA hZ rfl hl.1 rfl (Nat.le_of_ble_eq_true rfl) dX8_ofAllRegisters_22 ⟨Nat.zero_le _, Nat.zero_le _⟩ (fun H locs hP hD hS => ?_)
  refine lv_istore_n (lv' := [(3, .int (x_Registers_read σ (x_Bits_four v0 3))), (2, .int ((x_Bits_three v0 0) ||| ((iu v0 4) &&& 8))), (0, .ref (gA G 8)), (1, .int v0)]) hx hb dX8_ofAllRegisters_25 rfl hl (by decide) rfl (fun ls hl => ?_)
  refine lv_iload_n hx hb dX8_ofAllRegisters_26 rfl (lv_at hl 3 rfl) ?_
  refine lv_bipush (v := 8) hx hb dX8_ofAllRegisters_27 (by decide) ?_
  refine lv_iushr (v := iu v0 8) hx hb dX8_ofAllRegisters_29 rfl ?_
  refine lv_iconst (v := 3) hx hb dX8_ofAllRegisters_30 (by decide) ?_
  refine lv_iand hx hb dX8_ofAllRegisters_31 ?_
  by_cases h_5 : ((iu v0 8) &&& 3) = 0
  · have hf := hf.trans (if_pos h_5)
    refine lv_tableIn (tgt := 60) hx hb dX8_ofAllRegisters_32 (by rw [h_5]; decide) (by rw [h_5]; decide) (by rw [h_5]; rfl) (by decide) ?_
    refine lv_aload_n hx hb dX8_ofAllRegisters_60 rfl (lv_at hl 2 rfl) ?_
    refine va_get (D := gD G) (ci := 6) hx hb hts ku_8 hown hK hP 8 rfl rfl 0 (by decide) (hts _ kw_97) (fun _ h9 => h9) rfl dX8_ofAllRegisters_61 ?_
    refine lv_iload_n hx hb dX8_ofAllRegisters_64 rfl (lv_at hl 1 rfl) ?_
    refine lv_aload_n hx hb dX8_ofAllRegisters_65 rfl (lv_at hl 2 rfl) ?_
    refine va_get (D := gD G) (ci := 6) hx hb hts ku_8 hown hK hP 8 rfl rfl 0 (by decide) (hts _ kw_97) (fun _ h9 => h9) rfl dX8_ofAllRegisters_66 ?_
    refine lv_iload_n hx hb dX8_ofAllRegisters_69 rfl (lv_at hl 1 rfl) ?_
    refine kc_Vr (rest := [.int ((x_Bits_three v0 0) ||| ((iu v0 4) &&& 8)), .ref (gA G 3)]) (cx_Registers_read l G σ ((x_Bits_three v0 0) ||| ((iu v0 4) &&& 8)) (bt38_16 _ _)) ⟨hx, hb, hml, hown, hts⟩ (cwV 1 hts (gi_V kw_358 kw_359 kw_360 kw_19 kw_361) rfl rfl rfl ⟨rfl, mdX6_read⟩ ⟨by decide, by decide⟩) (va_recv hK hP (ci := 4) (q0 := 3) rfl rfl) cZ_ok hK hP hD hS hA hZ rfl hl.1 rfl (Nat.le_of_ble_eq_true rfl) dX8_ofAllRegisters_70 ⟨Nat.zero_le _, Nat.zero_le _⟩ (fun H locs hP hD hS => ?_)
    refine lv_iload_n hx hb dX8_ofAllRegisters_73 rfl (lv_at hl 0 rfl) ?_
    refine lv_iadd hx hb dX8_ofAllRegisters_74 ?_
    refine kc_Vv (rest := []) (cx_Registers_write l G σ ((x_Bits_three v0 0) ||| ((iu v0 4) &&& 8)) ((x_Registers_read σ ((x_Bits_three v0 0) ||| ((iu v0 4) &&& 8))) + (x_Registers_read σ (x_Bits_four v0 3))) (bt38_16 _ _)) ⟨hx, hb, hml, hown, hts⟩ (cwV 2 hts (gi_V kw_441 kw_403 kw_404 kw_19 kw_405) rfl rfl rfl ⟨rfl, mdX6_write⟩ ⟨by decide, by decide⟩) (va_recv hK hP (ci := 4) (q0 := 3) rfl rfl) cZ_ok hK hP hD hS hA hZ rfl hl.1 rfl (Nat.le_of_ble_eq_true rfl) dX8_ofAllRegisters_75 ⟨Nat.zero_le _, Nat.zero_le _⟩ (fun H locs hP hD hS => ?_)
    refine lv_iconst (v := (-1)) hx hb dX8_ofAllRegisters_78 (by decide) ?_
    exact hret (-1) (x_Registers_write σ ((x_Bits_three v0 0) ||| ((iu v0 4) &&& 8)) ((x_Registers_read σ ((x_Bits_three v0 0) ||| ((iu v0 4) &&& 8))) + (x_Registers_read σ (x_Bits_four v0 3)))) _ _ _ _ hf hP hD hS dX8_ofAllRegisters_79
  have hf := hf.trans (if_neg h_5)
  by_cases h_6 : ((iu v0 8) &&& 3) = 1
  · have hf := hf.trans (if_pos h_6)
    refine lv_tableIn (tgt := 80) hx hb dX8_ofAllRegisters_32 (by rw [h_6]; decide) (by rw [h_6]; decide) (by rw [h_6]; rfl) (by decide) ?_
    refine lv_aload_n hx hb dX8_ofAllRegisters_80 rfl (lv_at hl 2 rfl) ?_
    refine va_get (D := gD G) (ci := 6) hx hb hts ku_8 hown hK hP 8 rfl rfl 2 (by decide) (hts _ kw_99) (fun _ h9 => h9) rfl dX8_ofAllRegisters_81 ?_
    refine lv_bipush (v := 10) hx hb dX8_ofAllRegisters_84 (by decide) ?_
    refine lv_iload_n hx hb dX8_ofAllRegisters_86 rfl (lv_at hl 1 rfl) ?_
    refine lv_aload_n hx hb dX8_ofAllRegisters_87 rfl (lv_at hl 2 rfl) ?_
    refine va_get (D := gD G) (ci := 6) hx hb hts ku_8 hown hK hP 8 rfl rfl 0 (by decide) (hts _ kw_97) (fun _ h9 => h9) rfl dX8_ofAllRegisters_88 ?_
    refine lv_iload_n hx hb dX8_ofAllRegisters_91 rfl (lv_at hl 1 rfl) ?_
    refine kc_Vr (rest := [.int ((x_Bits_three v0 0) ||| ((iu v0 4) &&& 8)), .int 10, .ref (gA G 11)]) (cx_Registers_read l G σ ((x_Bits_three v0 0) ||| ((iu v0 4) &&& 8)) (bt38_16 _ _)) ⟨hx, hb, hml, hown, hts⟩ (cwV 1 hts (gi_V kw_358 kw_359 kw_360 kw_19 kw_361) rfl rfl rfl ⟨rfl, mdX6_read⟩ ⟨by decide, by decide⟩) (va_recv hK hP (ci := 4) (q0 := 3) rfl rfl) cZ_ok hK hP hD hS hA hZ rfl hl.1 rfl (Nat.le_of_ble_eq_true rfl) dX8_ofAllRegisters_92 ⟨Nat.zero_le _, Nat.zero_le _⟩ (fun H locs hP hD hS => ?_)
    refine lv_iload_n hx hb dX8_ofAllRegisters_95 rfl (lv_at hl 0 rfl) ?_
    refine kc_Vv (rest := []) (cx_Alu_apply l G σ 10 ((x_Bits_three v0 0) ||| ((iu v0 4) &&& 8)) (x_Registers_read σ ((x_Bits_three v0 0) ||| ((iu v0 4) &&& 8))) (x_Registers_read σ (x_Bits_four v0 3)) (bt38_16 _ _)) ⟨hx, hb, hml, hown, hts⟩ (cwV 4 hts (gi_V kw_362 kw_363 kw_364 kw_52 kw_365) rfl rfl rfl ⟨rfl, mdX0_apply⟩ ⟨by decide, by decide⟩) (va_recv hK hP (ci := 0) (q0 := 11) rfl rfl) cZ_ok hK hP hD hS hA hZ rfl hl.1 rfl (Nat.le_of_ble_eq_true rfl) dX8_ofAllRegisters_96 ⟨Nat.zero_le _, Nat.zero_le _⟩ (fun H locs hP hD hS => ?_)
    refine lv_iconst (v := (-1)) hx hb dX8_ofAllRegisters_99 (by decide) ?_
    exact hret (-1) (x_Alu_apply σ 10 ((x_Bits_three v0 0) ||| ((iu v0 4) &&& 8)) (x_Registers_read σ ((x_Bits_three v0 0) ||| ((iu v0 4) &&& 8))) (x_Registers_read σ (x_Bits_four v0 3))) _ _ _ _ hf hP hD hS dX8_ofAllRegisters_100
  have hf := hf.trans (if_neg h_6)
  by_cases h_7 : ((iu v0 8) &&& 3) = 2
  · have hf := hf.trans (if_pos h_7)
    refine lv_tableIn (tgt := 101) hx hb dX8_ofAllRegisters_32 (by rw [h_7]; decide) (by rw [h_7]; decide) (by rw [h_7]; rfl) (by decide) ?_
    refine lv_aload_n hx hb dX8_ofAllRegisters_101 rfl (lv_at hl 2 rfl) ?_
    refine va_get (D := gD G) (ci := 6) hx hb hts ku_8 hown hK hP 8 rfl rfl 0 (by decide) (hts _ kw_97) (fun _ h9 => h9) rfl dX8_ofAllRegisters_102 ?_
    refine lv_iload_n hx hb dX8_ofAllRegisters_105 rfl (lv_at hl 1 rfl) ?_
    refine lv_iload_n hx hb dX8_ofAllRegisters_106 rfl (lv_at hl 0 rfl) ?_
    refine kc_Vv (rest := []) (cx_Registers_write l G σ ((x_Bits_three v0 0) ||| ((iu v0 4) &&& 8)) (x_Registers_read σ (x_Bits_four v0 3)) (bt38_16 _ _)) ⟨hx, hb, hml, hown, hts⟩ (cwV 2 hts (gi_V kw_441 kw_403 kw_404 kw_19 kw_405) rfl rfl rfl ⟨rfl, mdX6_write⟩ ⟨by decide, by decide⟩) (va_recv hK hP (ci := 4) (q0 := 3) rfl rfl) cZ_ok hK hP hD hS hA hZ rfl hl.1 rfl (Nat.le_of_ble_eq_true rfl) dX8_ofAllRegisters_107 ⟨Nat.zero_le _, Nat.zero_le _⟩ (fun H locs hP hD hS => ?_)
    refine lv_iconst (v := (-1)) hx hb dX8_ofAllRegisters_110 (by decide) ?_
    exact hret (-1) (x_Registers_write σ ((x_Bits_three v0 0) ||| ((iu v0 4) &&& 8)) (x_Registers_read σ (x_Bits_four v0 3))) _ _ _ _ hf hP hD hS dX8_ofAllRegisters_111
  have hf := hf.trans (if_neg h_7)
  refine ksw_dflt (tgt := 112) hx hb dX8_ofAllRegisters_32 [0, 1, 2] (ksw_c h_5 (ksw_c h_6 (ksw_c h_7 ksw_n))) (by decide) (by decide) ?_
  refine lv_iload_n hx hb dX8_ofAllRegisters_112 rfl (lv_at hl 3 rfl) ?_
  refine lv_bipush (v := 7) hx hb dX8_ofAllRegisters_113 (by decide) ?_
  refine kp_Si (rest := []) (cx_Bits_on l v0 7) ⟨hx, hb, hml, hown, hts⟩ (va_cwS 2 hts (gi_S kw_355 kw_356 kw_346 kw_357) rfl rfl rfl mdX2_on ⟨by decide, by decide⟩) rfl hl.1 rfl (Nat.le_of_ble_eq_true rfl) dX8_ofAllRegisters_115 ⟨Nat.zero_le _, Nat.zero_le _⟩ ?_
  refine kz_eq (tgt := 123) hx hb dX8_ofAllRegisters_118 (by decide) (fun h_8 => ?_) (fun h_8 => ?_)
  · have hf := hf.trans (if_neg h_8)
    refine lv_aload_n hx hb dX8_ofAllRegisters_123 rfl (lv_at hl 2 rfl) ?_
    refine va_get (D := gD G) (ci := 6) hx hb hts ku_8 hown hK hP 8 rfl rfl 0 (by decide) (hts _ kw_97) (fun _ h9 => h9) rfl dX8_ofAllRegisters_124 ?_
    refine lv_iload_n hx hb dX8_ofAllRegisters_127 rfl (lv_at hl 0 rfl) ?_
    refine kc_Vv (rest := []) (cx_Registers_jumpAndChangeSet l G σ (x_Registers_read σ (x_Bits_four v0 3))) ⟨hx, hb, hml, hown, hts⟩ (cwV 1 hts (gi_V kw_475 kw_476 kw_477 kw_19 kw_478) rfl rfl rfl ⟨rfl, mdX6_jumpAndChangeSet⟩ ⟨by decide, by decide⟩) (va_recv hK hP (ci := 4) (q0 := 3) rfl rfl) cZ_ok hK hP hD hS hA hZ rfl hl.1 rfl (Nat.le_of_ble_eq_true rfl) dX8_ofAllRegisters_128 ⟨Nat.zero_le _, Nat.zero_le _⟩ (fun H locs hP hD hS => ?_)
    refine lv_iconst (v := (-1)) hx hb dX8_ofAllRegisters_131 (by decide) ?_
    exact hret (-1) (x_Registers_jumpAndChangeSet σ (x_Registers_read σ (x_Bits_four v0 3))) _ _ _ _ hf hP hD hS dX8_ofAllRegisters_132
  · have hf := hf.trans (if_pos h_8)
    refine lv_iconst (v := 0) hx hb dX8_ofAllRegisters_121 (by decide) ?_
    exact hret 0 σ _ _ _ _ hf hP hD hS dX8_ofAllRegisters_122
def x_ThumbSet_ofTwoRegisters_100 (σ : CS) (v0 : Int32) : Int32 × CS := (x_ThumbSet_keepShifted ((x_Shifter_shift σ ((x_Bits_four v0 6) - 2) (x_Registers_read σ (x_Bits_three v0 0)) ((x_Registers_read σ (x_Bits_three v0 3)) &&& 255) (x_Registers_carry σ)).2) (x_Bits_three v0 0) ((x_Shifter_shift σ ((x_Bits_four v0 6) - 2) (x_Registers_read σ (x_Bits_three v0 0)) ((x_Registers_read σ (x_Bits_three v0 3)) &&& 255) (x_Registers_carry σ)).1))
def x_ThumbSet_ofTwoRegisters_202 (σ : CS) (v0 : Int32) : Int32 × CS := ((-1), x_Alu_apply σ (x_Bits_four v0 6) (x_Bits_three v0 0) (x_Registers_read σ (x_Bits_three v0 0)) (x_Registers_read σ (x_Bits_three v0 3)))
def x_ThumbSet_ofTwoRegisters (σ : CS) (v0 : Int32) : Int32 × CS := (if (x_Bits_four v0 6) = 2 then x_ThumbSet_ofTwoRegisters_100 σ v0 else (if (x_Bits_four v0 6) = 3 then x_ThumbSet_ofTwoRegisters_100 σ v0 else (if (x_Bits_four v0 6) = 4 then x_ThumbSet_ofTwoRegisters_100 σ v0 else (if (x_Bits_four v0 6) = 7 then (x_ThumbSet_keepShifted ((x_Shifter_shift σ 3 (x_Registers_read σ (x_Bits_three v0 0)) ((x_Registers_read σ (x_Bits_three v0 3)) &&& 255) (x_Registers_carry σ)).2) (x_Bits_three v0 0) ((x_Shifter_shift σ 3 (x_Registers_read σ (x_Bits_three v0 0)) ((x_Registers_read σ (x_Bits_three v0 3)) &&& 255) (x_Registers_carry σ)).1)) else (if (x_Bits_four v0 6) = 9 then ((-1), x_Alu_apply σ 3 (x_Bits_three v0 0) (x_Registers_read σ (x_Bits_three v0 3)) 0) else (if (x_Bits_four v0 6) = 13 then ((-1), x_Alu_flagsOfProduct (x_Registers_write σ (x_Bits_three v0 0) ((x_Registers_read σ (x_Bits_three v0 0)) * (x_Registers_read σ (x_Bits_three v0 3)))) (((x_Registers_read σ (x_Bits_three v0 0)) * (x_Registers_read σ (x_Bits_three v0 3))).toInt64)) else x_ThumbSet_ofTwoRegisters_202 σ v0))))))
set_option maxRecDepth 20000 in
set_option maxHeartbeats 4000000 in
theorem cx_ThumbSet_ofTwoRegisters (l : Launch) (G : KG) (σ : CS) (v0 : Int32) : KB l yX8_ofTwoRegisters (Cond.code yX8_ofTwoRegisters cX8_ofTwoRegisters 6 (some .int) :: lw_all) (kr 4) (gD G) vwCl (gT G) (cZ G) (cW G) [.ref (gA G 8), .int v0] σ (x_ThumbSet_ofTwoRegisters σ v0) := by
  refine kc_in_b (q := x_ThumbSet_ofTwoRegisters σ v0) (by decide) rfl (Nat.le_of_ble_eq_true rfl) ?_
  intro p e s m args below meth c A Q ls hx hb hml hown hts hK hP hD hA hS hZ hl hret
  have hts := fun w h => hts w (List.mem_cons_of_mem _ h)
  have hl : lv_has ls 6 [(0, .ref (gA G 8)), (1, .int v0)] := hl
  have hf : x_ThumbSet_ofTwoRegisters σ v0 = x_ThumbSet_ofTwoRegisters σ v0 := rfl
  have J100 : ∀ (H : Heap) (locs : List Loc) (ls : Array Slot), va_P (gD G) vwCl (cW G (σ)) H → va_D A (cW G (σ)) → va_S A s.heap H locs → lv_has ls 6 [(0, .ref (gA G 8)), (2, .int (x_Bits_three v0 0)), (3, .int (x_Bits_four v0 6)), (4, .int (x_Registers_read σ (x_Bits_three v0 0))), (5, .int (x_Registers_read σ (x_Bits_three v0 3)))] → x_ThumbSet_ofTwoRegisters σ v0 = x_ThumbSet_ofTwoRegisters_100 σ v0 → W p l e (kr 4) s m args below meth c H locs 0 0 Q (F0 m 100 ls []) := by
    intro H locs ls hP hD hS hl hf
    refine lv_aload_n hx hb dX8_ofTwoRegisters_100 rfl (lv_at hl 0 rfl) ?_
    refine lv_iload_n hx hb dX8_ofTwoRegisters_101 rfl (lv_at hl 1 rfl) ?_
    refine lv_aload_n hx hb dX8_ofTwoRegisters_102 rfl (lv_at hl 0 rfl) ?_
    refine va_get (D := gD G) (ci := 6) hx hb hts ku_8 hown hK hP 8 rfl rfl 1 (by decide) (hts _ kw_98) (fun _ h9 => h9) rfl dX8_ofTwoRegisters_103 ?_
    refine lv_iload_n hx hb dX8_ofTwoRegisters_106 rfl (lv_at hl 2 rfl) ?_
    refine lv_iconst (v := 2) hx hb dX8_ofTwoRegisters_107 (by decide) ?_
    refine lv_isub hx hb dX8_ofTwoRegisters_108 ?_
    refine lv_iload hx hb dX8_ofTwoRegisters_109 (lv_at hl 3 rfl) ?_
    refine lv_iload hx hb dX8_ofTwoRegisters_111 (lv_at hl 4 rfl) ?_
    refine lv_sipush (v := 255) hx hb dX8_ofTwoRegisters_113 (by decide) ?_
    refine lv_iand hx hb dX8_ofTwoRegisters_116 ?_
    refine lv_aload_n hx hb dX8_ofTwoRegisters_117 rfl (lv_at hl 0 rfl) ?_
    refine va_get (D := gD G) (ci := 6) hx hb hts ku_8 hown hK hP 8 rfl rfl 0 (by decide) (hts _ kw_97) (fun _ h9 => h9) rfl dX8_ofTwoRegisters_118 ?_
    refine kc_Vr (rest := [.int ((x_Registers_read σ (x_Bits_three v0 3)) &&& 255), .int (x_Registers_read σ (x_Bits_three v0 0)), .int ((x_Bits_four v0 6) - 2), .ref (gA G 10), .int (x_Bits_three v0 0), .ref (gA G 8)]) (cx_Registers_carry l G σ) ⟨hx, hb, hml, hown, hts⟩ (cwV 0 hts (gi_V kw_415 kw_367 kw_368 kw_19 kw_369) rfl rfl rfl ⟨rfl, mdX6_carry⟩ ⟨by decide, by decide⟩) (va_recv hK hP (ci := 4) (q0 := 3) rfl rfl) cZ_ok hK hP hD hS hA hZ rfl hl.1 rfl (Nat.le_of_ble_eq_true rfl) dX8_ofTwoRegisters_121 ⟨Nat.zero_le _, Nat.zero_le _⟩ (fun H locs hP hD hS => ?_)
    refine kc_Vb (rest := [.int (x_Bits_three v0 0), .ref (gA G 8)]) (cx_Shifter_shift l G σ ((x_Bits_four v0 6) - 2) (x_Registers_read σ (x_Bits_three v0 0)) ((x_Registers_read σ (x_Bits_three v0 3)) &&& 255) (x_Registers_carry σ)) ⟨hx, hb, hml, hown, hts⟩ (cwV 4 hts (gi_V kw_483 kw_421 kw_422 kw_49 kw_423) rfl rfl rfl ⟨rfl, mdX7_shift⟩ ⟨by decide, by decide⟩) (va_recv hK hP (ci := 5) (q0 := 10) rfl rfl) cZ_ok hK hP hD hS hA hZ rfl hl.1 rfl (Nat.le_of_ble_eq_true rfl) dX8_ofTwoRegisters_124 ⟨Nat.zero_le _, Nat.zero_le _⟩ (fun H locs hP hD hS => ?_)
    refine kc_Vb (rest := []) (cx_ThumbSet_keepShifted l G ((x_Shifter_shift σ ((x_Bits_four v0 6) - 2) (x_Registers_read σ (x_Bits_three v0 0)) ((x_Registers_read σ (x_Bits_three v0 3)) &&& 255) (x_Registers_carry σ)).2) (x_Bits_three v0 0) ((x_Shifter_shift σ ((x_Bits_four v0 6) - 2) (x_Registers_read σ (x_Bits_three v0 0)) ((x_Registers_read σ (x_Bits_three v0 3)) &&& 255) (x_Registers_carry σ)).1) (bt3_16 _ _)) ⟨hx, hb, hml, hown, hts⟩ (cwV 2 hts (gi_V kw_427 kw_428 kw_429 kw_62 kw_430) rfl rfl rfl ⟨rfl, mdX8_keepShifted⟩ ⟨by decide, by decide⟩) (va_recv hK hP (ci := 6) (q0 := 8) rfl rfl) cZ_ok hK hP hD hS hA hZ rfl hl.1 rfl (Nat.le_of_ble_eq_true rfl) dX8_ofTwoRegisters_127 ⟨Nat.zero_le _, Nat.zero_le _⟩ (fun H locs hP hD hS => ?_)
    exact hret ((x_ThumbSet_keepShifted ((x_Shifter_shift σ ((x_Bits_four v0 6) - 2) (x_Registers_read σ (x_Bits_three v0 0)) ((x_Registers_read σ (x_Bits_three v0 3)) &&& 255) (x_Registers_carry σ)).2) (x_Bits_three v0 0) ((x_Shifter_shift σ ((x_Bits_four v0 6) - 2) (x_Registers_read σ (x_Bits_three v0 0)) ((x_Registers_read σ (x_Bits_three v0 3)) &&& 255) (x_Registers_carry σ)).1)).1) ((x_ThumbSet_keepShifted ((x_Shifter_shift σ ((x_Bits_four v0 6) - 2) (x_Registers_read σ (x_Bits_three v0 0)) ((x_Registers_read σ (x_Bits_three v0 3)) &&& 255) (x_Registers_carry σ)).2) (x_Bits_three v0 0) ((x_Shifter_shift σ ((x_Bits_four v0 6) - 2) (x_Registers_read σ (x_Bits_three v0 0)) ((x_Registers_read σ (x_Bits_three v0 3)) &&& 255) (x_Registers_carry σ)).1)).2) _ _ _ _ hf hP hD hS dX8_ofTwoRegisters_130
  have J202 : ∀ (H : Heap) (locs : List Loc) (ls : Array Slot), va_P (gD G) vwCl (cW G (σ)) H → va_D A (cW G (σ)) → va_S A s.heap H locs → lv_has ls 6 [(0, .ref (gA G 8)), (2, .int (x_Bits_three v0 0)), (3, .int (x_Bits_four v0 6)), (4, .int (x_Registers_read σ (x_Bits_three v0 0))), (5, .int (x_Registers_read σ (x_Bits_three v0 3)))] → x_ThumbSet_ofTwoRegisters σ v0 = x_ThumbSet_ofTwoRegisters_202 σ v0 → W p l e (kr 4) s m args below meth c H locs 0 0 Q (F0 m 202 ls []) := by
    intro H locs ls hP hD hS hl hf
    refine lv_aload_n hx hb dX8_ofTwoRegisters_202 rfl (lv_at hl 0 rfl) ?_
    refine va_get (D := gD G) (ci := 6) hx hb hts ku_8 hown hK hP 8 rfl rfl 2 (by decide) (hts _ kw_99) (fun _ h9 => h9) rfl dX8_ofTwoRegisters_203 ?_
    refine lv_iload_n hx hb dX8_ofTwoRegisters_206 rfl (lv_at hl 2 rfl) ?_
    refine lv_iload_n hx hb dX8_ofTwoRegisters_207 rfl (lv_at hl 1 rfl) ?_
    refine lv_iload hx hb dX8_ofTwoRegisters_208 (lv_at hl 3 rfl) ?_
    refine lv_iload hx hb dX8_ofTwoRegisters_210 (lv_at hl 4 rfl) ?_
    refine kc_Vv (rest := []) (cx_Alu_apply l G σ (x_Bits_four v0 6) (x_Bits_three v0 0) (x_Registers_read σ (x_Bits_three v0 0)) (x_Registers_read σ (x_Bits_three v0 3)) (bt3_16 _ _)) ⟨hx, hb, hml, hown, hts⟩ (cwV 4 hts (gi_V kw_362 kw_363 kw_364 kw_52 kw_365) rfl rfl rfl ⟨rfl, mdX0_apply⟩ ⟨by decide, by decide⟩) (va_recv hK hP (ci := 0) (q0 := 11) rfl rfl) cZ_ok hK hP hD hS hA hZ rfl hl.1 rfl (Nat.le_of_ble_eq_true rfl) dX8_ofTwoRegisters_212 ⟨Nat.zero_le _, Nat.zero_le _⟩ (fun H locs hP hD hS => ?_)
    refine lv_iconst (v := (-1)) hx hb dX8_ofTwoRegisters_215 (by decide) ?_
    exact hret (-1) (x_Alu_apply σ (x_Bits_four v0 6) (x_Bits_three v0 0) (x_Registers_read σ (x_Bits_three v0 0)) (x_Registers_read σ (x_Bits_three v0 3))) _ _ _ _ hf hP hD hS dX8_ofTwoRegisters_216
  refine lv_iload_n hx hb dX8_ofTwoRegisters_0 rfl (lv_at hl 1 rfl) ?_
  refine lv_iconst (v := 0) hx hb dX8_ofTwoRegisters_1 (by decide) ?_
  refine kp_Si (rest := []) (cx_Bits_three l v0 0) ⟨hx, hb, hml, hown, hts⟩ (va_cwS 2 hts (gi_S kw_352 kw_353 kw_346 kw_354) rfl rfl rfl mdX2_three ⟨by decide, by decide⟩) rfl hl.1 rfl (Nat.le_of_ble_eq_true rfl) dX8_ofTwoRegisters_2 ⟨Nat.zero_le _, Nat.zero_le _⟩ ?_
  refine lv_istore_n (lv' := [(2, .int (x_Bits_three v0 0)), (0, .ref (gA G 8)), (1, .int v0)]) hx hb dX8_ofTwoRegisters_5 rfl hl (by decide) rfl (fun ls hl => ?_)
  refine lv_iload_n hx hb dX8_ofTwoRegisters_6 rfl (lv_at hl 2 rfl) ?_
  refine lv_bipush (v := 6) hx hb dX8_ofTwoRegisters_7 (by decide) ?_
  refine kp_Si (rest := []) (cx_Bits_four l v0 6) ⟨hx, hb, hml, hown, hts⟩ (va_cwS 2 hts (gi_S kw_344 kw_345 kw_346 kw_347) rfl rfl rfl mdX2_four ⟨by decide, by decide⟩) rfl hl.1 rfl (Nat.le_of_ble_eq_true rfl) dX8_ofTwoRegisters_9 ⟨Nat.zero_le _, Nat.zero_le _⟩ ?_
  refine lv_istore_n (lv' := [(3, .int (x_Bits_four v0 6)), (2, .int (x_Bits_three v0 0)), (0, .ref (gA G 8)), (1, .int v0)]) hx hb dX8_ofTwoRegisters_12 rfl hl (by decide) rfl (fun ls hl => ?_)
  refine lv_aload_n hx hb dX8_ofTwoRegisters_13 rfl (lv_at hl 2 rfl) ?_
  refine va_get (D := gD G) (ci := 6) hx hb hts ku_8 hown hK hP 8 rfl rfl 0 (by decide) (hts _ kw_97) (fun _ h9 => h9) rfl dX8_ofTwoRegisters_14 ?_
  refine lv_iload_n hx hb dX8_ofTwoRegisters_17 rfl (lv_at hl 1 rfl) ?_
  refine kc_Vr (rest := []) (cx_Registers_read l G σ (x_Bits_three v0 0) (bt3_16 _ _)) ⟨hx, hb, hml, hown, hts⟩ (cwV 1 hts (gi_V kw_358 kw_359 kw_360 kw_19 kw_361) rfl rfl rfl ⟨rfl, mdX6_read⟩ ⟨by decide, by decide⟩) (va_recv hK hP (ci := 4) (q0 := 3) rfl rfl) cZ_ok hK hP hD hS hA hZ rfl hl.1 rfl (Nat.le_of_ble_eq_true rfl) dX8_ofTwoRegisters_18 ⟨Nat.zero_le _, Nat.zero_le _⟩ (fun H locs hP hD hS => ?_)
  refine lv_istore (lv' := [(4, .int (x_Registers_read σ (x_Bits_three v0 0))), (3, .int (x_Bits_four v0 6)), (2, .int (x_Bits_three v0 0)), (0, .ref (gA G 8)), (1, .int v0)]) hx hb dX8_ofTwoRegisters_21 hl (by decide) rfl (fun ls hl => ?_)
  refine lv_aload_n hx hb dX8_ofTwoRegisters_23 rfl (lv_at hl 3 rfl) ?_
  refine va_get (D := gD G) (ci := 6) hx hb hts ku_8 hown hK hP 8 rfl rfl 0 (by decide) (hts _ kw_97) (fun _ h9 => h9) rfl dX8_ofTwoRegisters_24 ?_
  refine lv_iload_n hx hb dX8_ofTwoRegisters_27 rfl (lv_at hl 4 rfl) ?_
  refine lv_iconst (v := 3) hx hb dX8_ofTwoRegisters_28 (by decide) ?_
  refine kp_Si (rest := [.ref (gA G 3)]) (cx_Bits_three l v0 3) ⟨hx, hb, hml, hown, hts⟩ (va_cwS 2 hts (gi_S kw_352 kw_353 kw_346 kw_354) rfl rfl rfl mdX2_three ⟨by decide, by decide⟩) rfl hl.1 rfl (Nat.le_of_ble_eq_true rfl) dX8_ofTwoRegisters_29 ⟨Nat.zero_le _, Nat.zero_le _⟩ ?_
  refine kc_Vr (rest := []) (cx_Registers_read l G σ (x_Bits_three v0 3) (bt3_16 _ _)) ⟨hx, hb, hml, hown, hts⟩ (cwV 1 hts (gi_V kw_358 kw_359 kw_360 kw_19 kw_361) rfl rfl rfl ⟨rfl, mdX6_read⟩ ⟨by decide, by decide⟩) (va_recv hK hP (ci := 4) (q0 := 3) rfl rfl) cZ_ok hK hP hD hS hA hZ rfl hl.1 rfl (Nat.le_of_ble_eq_true rfl) dX8_ofTwoRegisters_32 ⟨Nat.zero_le _, Nat.zero_le _⟩ (fun H locs hP hD hS => ?_)
  refine lv_istore (lv' := [(5, .int (x_Registers_read σ (x_Bits_three v0 3))), (4, .int (x_Registers_read σ (x_Bits_three v0 0))), (3, .int (x_Bits_four v0 6)), (2, .int (x_Bits_three v0 0)), (0, .ref (gA G 8)), (1, .int v0)]) hx hb dX8_ofTwoRegisters_35 hl (by decide) rfl (fun ls hl => ?_)
  refine lv_iload_n hx hb dX8_ofTwoRegisters_37 rfl (lv_at hl 2 rfl) ?_
  by_cases h_7 : (x_Bits_four v0 6) = 2
  · have hf := hf.trans (if_pos h_7)
    refine lv_tableIn (tgt := 100) hx hb dX8_ofTwoRegisters_38 (by rw [h_7]; decide) (by rw [h_7]; decide) (by rw [h_7]; rfl) (by decide) ?_
    exact J100 _ _ _ hP hD hS (lv_sub hl [4, 3, 2, 1, 0] rfl) hf
  have hf := hf.trans (if_neg h_7)
  by_cases h_8 : (x_Bits_four v0 6) = 3
  · have hf := hf.trans (if_pos h_8)
    refine lv_tableIn (tgt := 100) hx hb dX8_ofTwoRegisters_38 (by rw [h_8]; decide) (by rw [h_8]; decide) (by rw [h_8]; rfl) (by decide) ?_
    exact J100 _ _ _ hP hD hS (lv_sub hl [4, 3, 2, 1, 0] rfl) hf
  have hf := hf.trans (if_neg h_8)
  by_cases h_9 : (x_Bits_four v0 6) = 4
  · have hf := hf.trans (if_pos h_9)
    refine lv_tableIn (tgt := 100) hx hb dX8_ofTwoRegisters_38 (by rw [h_9]; decide) (by rw [h_9]; decide) (by rw [h_9]; rfl) (by decide) ?_
    exact J100 _ _ _ hP hD hS (lv_sub hl [4, 3, 2, 1, 0] rfl) hf
  have hf := hf.trans (if_neg h_9)
  by_cases h_10 : (x_Bits_four v0 6) = 7
  · have hf := hf.trans (if_pos h_10)
    refine lv_tableIn (tgt := 131) hx hb dX8_ofTwoRegisters_38 (by rw [h_10]; decide) (by rw [h_10]; decide) (by rw [h_10]; rfl) (by decide) ?_
    refine lv_aload_n hx hb dX8_ofTwoRegisters_131 rfl (lv_at hl 4 rfl) ?_
    refine lv_iload_n hx hb dX8_ofTwoRegisters_132 rfl (lv_at hl 3 rfl) ?_
    refine lv_aload_n hx hb dX8_ofTwoRegisters_133 rfl (lv_at hl 4 rfl) ?_
    refine va_get (D := gD G) (ci := 6) hx hb hts ku_8 hown hK hP 8 rfl rfl 1 (by decide) (hts _ kw_98) (fun _ h9 => h9) rfl dX8_ofTwoRegisters_134 ?_
    refine lv_iconst (v := 3) hx hb dX8_ofTwoRegisters_137 (by decide) ?_
    refine lv_iload hx hb dX8_ofTwoRegisters_138 (lv_at hl 1 rfl) ?_
    refine lv_iload hx hb dX8_ofTwoRegisters_140 (lv_at hl 0 rfl) ?_
    refine lv_sipush (v := 255) hx hb dX8_ofTwoRegisters_142 (by decide) ?_
    refine lv_iand hx hb dX8_ofTwoRegisters_145 ?_
    refine lv_aload_n hx hb dX8_ofTwoRegisters_146 rfl (lv_at hl 4 rfl) ?_
    refine va_get (D := gD G) (ci := 6) hx hb hts ku_8 hown hK hP 8 rfl rfl 0 (by decide) (hts _ kw_97) (fun _ h9 => h9) rfl dX8_ofTwoRegisters_147 ?_
    refine kc_Vr (rest := [.int ((x_Registers_read σ (x_Bits_three v0 3)) &&& 255), .int (x_Registers_read σ (x_Bits_three v0 0)), .int 3, .ref (gA G 10), .int (x_Bits_three v0 0), .ref (gA G 8)]) (cx_Registers_carry l G σ) ⟨hx, hb, hml, hown, hts⟩ (cwV 0 hts (gi_V kw_415 kw_367 kw_368 kw_19 kw_369) rfl rfl rfl ⟨rfl, mdX6_carry⟩ ⟨by decide, by decide⟩) (va_recv hK hP (ci := 4) (q0 := 3) rfl rfl) cZ_ok hK hP hD hS hA hZ rfl hl.1 rfl (Nat.le_of_ble_eq_true rfl) dX8_ofTwoRegisters_150 ⟨Nat.zero_le _, Nat.zero_le _⟩ (fun H locs hP hD hS => ?_)
    refine kc_Vb (rest := [.int (x_Bits_three v0 0), .ref (gA G 8)]) (cx_Shifter_shift l G σ 3 (x_Registers_read σ (x_Bits_three v0 0)) ((x_Registers_read σ (x_Bits_three v0 3)) &&& 255) (x_Registers_carry σ)) ⟨hx, hb, hml, hown, hts⟩ (cwV 4 hts (gi_V kw_483 kw_421 kw_422 kw_49 kw_423) rfl rfl rfl ⟨rfl, mdX7_shift⟩ ⟨by decide, by decide⟩) (va_recv hK hP (ci := 5) (q0 := 10) rfl rfl) cZ_ok hK hP hD hS hA hZ rfl hl.1 rfl (Nat.le_of_ble_eq_true rfl) dX8_ofTwoRegisters_153 ⟨Nat.zero_le _, Nat.zero_le _⟩ (fun H locs hP hD hS => ?_)
    refine kc_Vb (rest := []) (cx_ThumbSet_keepShifted l G ((x_Shifter_shift σ 3 (x_Registers_read σ (x_Bits_three v0 0)) ((x_Registers_read σ (x_Bits_three v0 3)) &&& 255) (x_Registers_carry σ)).2) (x_Bits_three v0 0) ((x_Shifter_shift σ 3 (x_Registers_read σ (x_Bits_three v0 0)) ((x_Registers_read σ (x_Bits_three v0 3)) &&& 255) (x_Registers_carry σ)).1) (bt3_16 _ _)) ⟨hx, hb, hml, hown, hts⟩ (cwV 2 hts (gi_V kw_427 kw_428 kw_429 kw_62 kw_430) rfl rfl rfl ⟨rfl, mdX8_keepShifted⟩ ⟨by decide, by decide⟩) (va_recv hK hP (ci := 6) (q0 := 8) rfl rfl) cZ_ok hK hP hD hS hA hZ rfl hl.1 rfl (Nat.le_of_ble_eq_true rfl) dX8_ofTwoRegisters_156 ⟨Nat.zero_le _, Nat.zero_le _⟩ (fun H locs hP hD hS => ?_)
    exact hret ((x_ThumbSet_keepShifted ((x_Shifter_shift σ 3 (x_Registers_read σ (x_Bits_three v0 0)) ((x_Registers_read σ (x_Bits_three v0 3)) &&& 255) (x_Registers_carry σ)).2) (x_Bits_three v0 0) ((x_Shifter_shift σ 3 (x_Registers_read σ (x_Bits_three v0 0)) ((x_Registers_read σ (x_Bits_three v0 3)) &&& 255) (x_Registers_carry σ)).1)).1) ((x_ThumbSet_keepShifted ((x_Shifter_shift σ 3 (x_Registers_read σ (x_Bits_three v0 0)) ((x_Registers_read σ (x_Bits_three v0 3)) &&& 255) (x_Registers_carry σ)).2) (x_Bits_three v0 0) ((x_Shifter_shift σ 3 (x_Registers_read σ (x_Bits_three v0 0)) ((x_Registers_read σ (x_Bits_three v0 3)) &&& 255) (x_Registers_carry σ)).1)).2) _ _ _ _ hf hP hD hS dX8_ofTwoRegisters_159
  have hf := hf.trans (if_neg h_10)
  by_cases h_11 : (x_Bits_four v0 6) = 9
  · have hf := hf.trans (if_pos h_11)
    refine lv_tableIn (tgt := 160) hx hb dX8_ofTwoRegisters_38 (by rw [h_11]; decide) (by rw [h_11]; decide) (by rw [h_11]; rfl) (by decide) ?_
    refine lv_aload_n hx hb dX8_ofTwoRegisters_160 rfl (lv_at hl 4 rfl) ?_
    refine va_get (D := gD G) (ci := 6) hx hb hts ku_8 hown hK hP 8 rfl rfl 2 (by decide) (hts _ kw_99) (fun _ h9 => h9) rfl dX8_ofTwoRegisters_161 ?_
    refine lv_iconst (v := 3) hx hb dX8_ofTwoRegisters_164 (by decide) ?_
    refine lv_iload_n hx hb dX8_ofTwoRegisters_165 rfl (lv_at hl 3 rfl) ?_
    refine lv_iload hx hb dX8_ofTwoRegisters_166 (lv_at hl 0 rfl) ?_
    refine lv_iconst (v := 0) hx hb dX8_ofTwoRegisters_168 (by decide) ?_
    refine kc_Vv (rest := []) (cx_Alu_apply l G σ 3 (x_Bits_three v0 0) (x_Registers_read σ (x_Bits_three v0 3)) 0 (bt3_16 _ _)) ⟨hx, hb, hml, hown, hts⟩ (cwV 4 hts (gi_V kw_362 kw_363 kw_364 kw_52 kw_365) rfl rfl rfl ⟨rfl, mdX0_apply⟩ ⟨by decide, by decide⟩) (va_recv hK hP (ci := 0) (q0 := 11) rfl rfl) cZ_ok hK hP hD hS hA hZ rfl hl.1 rfl (Nat.le_of_ble_eq_true rfl) dX8_ofTwoRegisters_169 ⟨Nat.zero_le _, Nat.zero_le _⟩ (fun H locs hP hD hS => ?_)
    refine lv_iconst (v := (-1)) hx hb dX8_ofTwoRegisters_172 (by decide) ?_
    exact hret (-1) (x_Alu_apply σ 3 (x_Bits_three v0 0) (x_Registers_read σ (x_Bits_three v0 3)) 0) _ _ _ _ hf hP hD hS dX8_ofTwoRegisters_173
  have hf := hf.trans (if_neg h_11)
  by_cases h_12 : (x_Bits_four v0 6) = 13
  · have hf := hf.trans (if_pos h_12)
    refine lv_tableIn (tgt := 174) hx hb dX8_ofTwoRegisters_38 (by rw [h_12]; decide) (by rw [h_12]; decide) (by rw [h_12]; rfl) (by decide) ?_
    refine lv_aload_n hx hb dX8_ofTwoRegisters_174 rfl (lv_at hl 4 rfl) ?_
    refine va_get (D := gD G) (ci := 6) hx hb hts ku_8 hown hK hP 8 rfl rfl 0 (by decide) (hts _ kw_97) (fun _ h9 => h9) rfl dX8_ofTwoRegisters_175 ?_
    refine lv_iload_n hx hb dX8_ofTwoRegisters_178 rfl (lv_at hl 3 rfl) ?_
    refine lv_iload hx hb dX8_ofTwoRegisters_179 (lv_at hl 1 rfl) ?_
    refine lv_iload hx hb dX8_ofTwoRegisters_181 (lv_at hl 0 rfl) ?_
    refine lv_imul hx hb dX8_ofTwoRegisters_183 ?_
    refine kc_Vv (rest := []) (cx_Registers_write l G σ (x_Bits_three v0 0) ((x_Registers_read σ (x_Bits_three v0 0)) * (x_Registers_read σ (x_Bits_three v0 3))) (bt3_16 _ _)) ⟨hx, hb, hml, hown, hts⟩ (cwV 2 hts (gi_V kw_441 kw_403 kw_404 kw_19 kw_405) rfl rfl rfl ⟨rfl, mdX6_write⟩ ⟨by decide, by decide⟩) (va_recv hK hP (ci := 4) (q0 := 3) rfl rfl) cZ_ok hK hP hD hS hA hZ rfl hl.1 rfl (Nat.le_of_ble_eq_true rfl) dX8_ofTwoRegisters_184 ⟨Nat.zero_le _, Nat.zero_le _⟩ (fun H locs hP hD hS => ?_)
    refine lv_aload_n hx hb dX8_ofTwoRegisters_187 rfl (lv_at hl 4 rfl) ?_
    refine va_get (D := gD G) (ci := 6) hx hb hts ku_8 hown hK hP 8 rfl rfl 2 (by decide) (hts _ kw_99) (fun _ h9 => h9) rfl dX8_ofTwoRegisters_188 ?_
    refine lv_iload hx hb dX8_ofTwoRegisters_191 (lv_at hl 1 rfl) ?_
    refine lv_iload hx hb dX8_ofTwoRegisters_193 (lv_at hl 0 rfl) ?_
    refine lv_imul hx hb dX8_ofTwoRegisters_195 ?_
    refine lv_i2l (v := ((x_Registers_read σ (x_Bits_three v0 0)) * (x_Registers_read σ (x_Bits_three v0 3))).toInt64) hx hb dX8_ofTwoRegisters_196 rfl ?_
    refine kc_Vv (rest := []) (cx_Alu_flagsOfProduct l G (x_Registers_write σ (x_Bits_three v0 0) ((x_Registers_read σ (x_Bits_three v0 0)) * (x_Registers_read σ (x_Bits_three v0 3)))) (((x_Registers_read σ (x_Bits_three v0 0)) * (x_Registers_read σ (x_Bits_three v0 3))).toInt64)) ⟨hx, hb, hml, hown, hts⟩ (cwV 1 hts (gi_V kw_484 kw_485 kw_486 kw_52 kw_487) rfl rfl rfl ⟨rfl, mdX0_flagsOfProduct⟩ ⟨by decide, by decide⟩) (va_recv hK hP (ci := 0) (q0 := 11) rfl rfl) cZ_ok hK hP hD hS hA hZ rfl hl.1 rfl (Nat.le_of_ble_eq_true rfl) dX8_ofTwoRegisters_197 ⟨Nat.zero_le _, Nat.zero_le _⟩ (fun H locs hP hD hS => ?_)
    refine lv_iconst (v := (-1)) hx hb dX8_ofTwoRegisters_200 (by decide) ?_
    exact hret (-1) (x_Alu_flagsOfProduct (x_Registers_write σ (x_Bits_three v0 0) ((x_Registers_read σ (x_Bits_three v0 0)) * (x_Registers_read σ (x_Bits_three v0 3)))) (((x_Registers_read σ (x_Bits_three v0 0)) * (x_Registers_read σ (x_Bits_three v0 3))).toInt64)) _ _ _ _ hf hP hD hS dX8_ofTwoRegisters_201
  have hf := hf.trans (if_neg h_12)
  refine ksw_dflt (tgt := 202) hx hb dX8_ofTwoRegisters_38 [2, 3, 4, 7, 9, 13] (ksw_c h_7 (ksw_c h_8 (ksw_c h_9 (ksw_c h_10 (ksw_c h_11 (ksw_c h_12 ksw_n)))))) (by decide) (by decide) ?_
  exact J202 _ _ _ hP hD hS (lv_sub hl [4, 3, 2, 1, 0] rfl) hf
def x_ThumbSet_byRegisterOffset (σ : CS) (v0 : Int32) : Int32 × CS := (x_Transfers_plain σ (decide (¬ (x_Bits_three v0 9) < 3)) (tKI (x_Bits_three v0 9).toNatClampNeg) (x_Bits_three v0 0) ((x_Registers_read σ (x_Bits_three v0 3)) + (x_Registers_read σ (x_Bits_three v0 6))))
set_option maxRecDepth 20000 in
set_option maxHeartbeats 4000000 in
theorem cx_ThumbSet_byRegisterOffset (l : Launch) (G : KG) (σ : CS) (v0 : Int32) : KB l yX8_byRegisterOffset (Cond.code yX8_byRegisterOffset cX8_byRegisterOffset 4 (some .int) :: lw_all) (kr 4) (gD G) vwCl (gT G) (cZ G) (cW G) [.ref (gA G 8), .int v0] σ (x_ThumbSet_byRegisterOffset σ v0) := by
  refine kc_in_b (q := x_ThumbSet_byRegisterOffset σ v0) (by decide) rfl (Nat.le_of_ble_eq_true rfl) ?_
  intro p e s m args below meth c A Q ls hx hb hml hown hts hK hP hD hA hS hZ hl hret
  have hts := fun w h => hts w (List.mem_cons_of_mem _ h)
  have hl : lv_has ls 4 [(0, .ref (gA G 8)), (1, .int v0)] := hl
  have hf : x_ThumbSet_byRegisterOffset σ v0 = x_ThumbSet_byRegisterOffset σ v0 := rfl
  refine lv_iload_n hx hb dX8_byRegisterOffset_0 rfl (lv_at hl 1 rfl) ?_
  refine lv_bipush (v := 9) hx hb dX8_byRegisterOffset_1 (by decide) ?_
  refine kp_Si (rest := []) (cx_Bits_three l v0 9) ⟨hx, hb, hml, hown, hts⟩ (va_cwS 2 hts (gi_S kw_352 kw_353 kw_346 kw_354) rfl rfl rfl mdX2_three ⟨by decide, by decide⟩) rfl hl.1 rfl (Nat.le_of_ble_eq_true rfl) dX8_byRegisterOffset_3 ⟨Nat.zero_le _, Nat.zero_le _⟩ ?_
  refine lv_istore_n (lv' := [(2, .int (x_Bits_three v0 9)), (0, .ref (gA G 8)), (1, .int v0)]) hx hb dX8_byRegisterOffset_6 rfl hl (by decide) rfl (fun ls hl => ?_)
  refine lv_aload_n hx hb dX8_byRegisterOffset_7 rfl (lv_at hl 1 rfl) ?_
  refine va_get (D := gD G) (ci := 6) hx hb hts ku_8 hown hK hP 8 rfl rfl 0 (by decide) (hts _ kw_97) (fun _ h9 => h9) rfl dX8_byRegisterOffset_8 ?_
  refine lv_iload_n hx hb dX8_byRegisterOffset_11 rfl (lv_at hl 2 rfl) ?_
  refine lv_iconst (v := 3) hx hb dX8_byRegisterOffset_12 (by decide) ?_
  refine kp_Si (rest := [.ref (gA G 3)]) (cx_Bits_three l v0 3) ⟨hx, hb, hml, hown, hts⟩ (va_cwS 2 hts (gi_S kw_352 kw_353 kw_346 kw_354) rfl rfl rfl mdX2_three ⟨by decide, by decide⟩) rfl hl.1 rfl (Nat.le_of_ble_eq_true rfl) dX8_byRegisterOffset_13 ⟨Nat.zero_le _, Nat.zero_le _⟩ ?_
  refine kc_Vr (rest := []) (cx_Registers_read l G σ (x_Bits_three v0 3) (bt3_16 _ _)) ⟨hx, hb, hml, hown, hts⟩ (cwV 1 hts (gi_V kw_358 kw_359 kw_360 kw_19 kw_361) rfl rfl rfl ⟨rfl, mdX6_read⟩ ⟨by decide, by decide⟩) (va_recv hK hP (ci := 4) (q0 := 3) rfl rfl) cZ_ok hK hP hD hS hA hZ rfl hl.1 rfl (Nat.le_of_ble_eq_true rfl) dX8_byRegisterOffset_16 ⟨Nat.zero_le _, Nat.zero_le _⟩ (fun H locs hP hD hS => ?_)
  refine lv_aload_n hx hb dX8_byRegisterOffset_19 rfl (lv_at hl 1 rfl) ?_
  refine va_get (D := gD G) (ci := 6) hx hb hts ku_8 hown hK hP 8 rfl rfl 0 (by decide) (hts _ kw_97) (fun _ h9 => h9) rfl dX8_byRegisterOffset_20 ?_
  refine lv_iload_n hx hb dX8_byRegisterOffset_23 rfl (lv_at hl 2 rfl) ?_
  refine lv_bipush (v := 6) hx hb dX8_byRegisterOffset_24 (by decide) ?_
  refine kp_Si (rest := [.ref (gA G 3), .int (x_Registers_read σ (x_Bits_three v0 3))]) (cx_Bits_three l v0 6) ⟨hx, hb, hml, hown, hts⟩ (va_cwS 2 hts (gi_S kw_352 kw_353 kw_346 kw_354) rfl rfl rfl mdX2_three ⟨by decide, by decide⟩) rfl hl.1 rfl (Nat.le_of_ble_eq_true rfl) dX8_byRegisterOffset_26 ⟨Nat.zero_le _, Nat.zero_le _⟩ ?_
  refine kc_Vr (rest := [.int (x_Registers_read σ (x_Bits_three v0 3))]) (cx_Registers_read l G σ (x_Bits_three v0 6) (bt3_16 _ _)) ⟨hx, hb, hml, hown, hts⟩ (cwV 1 hts (gi_V kw_358 kw_359 kw_360 kw_19 kw_361) rfl rfl rfl ⟨rfl, mdX6_read⟩ ⟨by decide, by decide⟩) (va_recv hK hP (ci := 4) (q0 := 3) rfl rfl) cZ_ok hK hP hD hS hA hZ rfl hl.1 rfl (Nat.le_of_ble_eq_true rfl) dX8_byRegisterOffset_29 ⟨Nat.zero_le _, Nat.zero_le _⟩ (fun H locs hP hD hS => ?_)
  refine lv_iadd hx hb dX8_byRegisterOffset_32 ?_
  refine lv_istore_n (lv' := [(3, .int ((x_Registers_read σ (x_Bits_three v0 3)) + (x_Registers_read σ (x_Bits_three v0 6)))), (2, .int (x_Bits_three v0 9)), (0, .ref (gA G 8)), (1, .int v0)]) hx hb dX8_byRegisterOffset_33 rfl hl (by decide) rfl (fun ls hl => ?_)
  refine lv_aload_n hx hb dX8_byRegisterOffset_34 rfl (lv_at hl 2 rfl) ?_
  refine va_get (D := gD G) (ci := 6) hx hb hts ku_8 hown hK hP 8 rfl rfl 3 (by decide) (hts _ kw_100) (fun _ h9 => h9) rfl dX8_byRegisterOffset_35 ?_
  refine lv_iload_n hx hb dX8_byRegisterOffset_38 rfl (lv_at hl 1 rfl) ?_
  refine lv_iconst (v := 3) hx hb dX8_byRegisterOffset_39 (by decide) ?_
  refine kz_dP0 (P := (x_Bits_three v0 9) < 3) (tgt := 47) (M := 48) (fun a b => lv_icmp_lt (tgt := 47) hx hb dX8_byRegisterOffset_40 (by decide) a b) hx hb dX8_byRegisterOffset_43 dX8_byRegisterOffset_44 (by decide) dX8_byRegisterOffset_47 rfl ?_
  refine va_gets hx hb hZ.1.2.2.2.1 hS hown (hts _ kw_492) (fun _ h => h) dX8_byRegisterOffset_48 ?_
  refine lv_iload_n hx hb dX8_byRegisterOffset_51 rfl (lv_at hl 1 rfl) ?_
  refine va_ti hx hb hZ.1.2.2.2.2 hS (i := (x_Bits_three v0 9)) (bt3_8 _ _) rfl dX8_byRegisterOffset_52 ?_
  refine lv_iload_n hx hb dX8_byRegisterOffset_53 rfl (lv_at hl 3 rfl) ?_
  refine lv_iconst (v := 0) hx hb dX8_byRegisterOffset_54 (by decide) ?_
  refine kp_Si (rest := [.int (tKI (x_Bits_three v0 9).toNatClampNeg), .int (b01 (decide (¬ (x_Bits_three v0 9) < 3))), .ref (gA G 12)]) (cx_Bits_three l v0 0) ⟨hx, hb, hml, hown, hts⟩ (va_cwS 2 hts (gi_S kw_352 kw_353 kw_346 kw_354) rfl rfl rfl mdX2_three ⟨by decide, by decide⟩) rfl hl.1 rfl (Nat.le_of_ble_eq_true rfl) dX8_byRegisterOffset_55 ⟨Nat.zero_le _, Nat.zero_le _⟩ ?_
  refine lv_iload_n hx hb dX8_byRegisterOffset_58 rfl (lv_at hl 0 rfl) ?_
  refine kc_Vb (rest := []) (cx_Transfers_plain l G σ (decide (¬ (x_Bits_three v0 9) < 3)) (tKI (x_Bits_three v0 9).toNatClampNeg) (x_Bits_three v0 0) ((x_Registers_read σ (x_Bits_three v0 3)) + (x_Registers_read σ (x_Bits_three v0 6))) (bt3_16 _ _)) ⟨hx, hb, hml, hown, hts⟩ (cwV 4 hts (gi_V kw_454 kw_455 kw_456 kw_55 kw_457) rfl rfl rfl ⟨rfl, mdX9_plain⟩ ⟨by decide, by decide⟩) (va_recv hK hP (ci := 7) (q0 := 12) rfl rfl) cZ_ok hK hP hD hS hA hZ rfl hl.1 rfl (Nat.le_of_ble_eq_true rfl) dX8_byRegisterOffset_59 ⟨Nat.zero_le _, Nat.zero_le _⟩ (fun H locs hP hD hS => ?_)
  exact hret ((x_Transfers_plain σ (decide (¬ (x_Bits_three v0 9) < 3)) (tKI (x_Bits_three v0 9).toNatClampNeg) (x_Bits_three v0 0) ((x_Registers_read σ (x_Bits_three v0 3)) + (x_Registers_read σ (x_Bits_three v0 6)))).1) ((x_Transfers_plain σ (decide (¬ (x_Bits_three v0 9) < 3)) (tKI (x_Bits_three v0 9).toNatClampNeg) (x_Bits_three v0 0) ((x_Registers_read σ (x_Bits_three v0 3)) + (x_Registers_read σ (x_Bits_three v0 6)))).2) _ _ _ _ hf hP hD hS dX8_byRegisterOffset_62
def x_ThumbSet_byNumberOffset (σ : CS) (v0 : Int32) : Int32 × CS := (if (iu v0 12) = 6 then (x_Transfers_plain σ (x_Bits_on v0 11) 0 (x_Bits_three v0 0) ((x_Registers_read σ (x_Bits_three v0 3)) + (4 * (x_Bits_five v0 6)))) else (if (iu v0 12) = 7 then (x_Transfers_plain σ (x_Bits_on v0 11) 1 (x_Bits_three v0 0) ((x_Registers_read σ (x_Bits_three v0 3)) + (x_Bits_five v0 6))) else (x_Transfers_plain σ (x_Bits_on v0 11) 2 (x_Bits_three v0 0) ((x_Registers_read σ (x_Bits_three v0 3)) + (2 * (x_Bits_five v0 6))))))
set_option maxRecDepth 20000 in
set_option maxHeartbeats 4000000 in
theorem cx_ThumbSet_byNumberOffset (l : Launch) (G : KG) (σ : CS) (v0 : Int32) : KB l yX8_byNumberOffset (Cond.code yX8_byNumberOffset cX8_byNumberOffset 6 (some .int) :: lw_all) (kr 4) (gD G) vwCl (gT G) (cZ G) (cW G) [.ref (gA G 8), .int v0] σ (x_ThumbSet_byNumberOffset σ v0) := by
  refine kc_in_b (q := x_ThumbSet_byNumberOffset σ v0) (by decide) rfl (Nat.le_of_ble_eq_true rfl) ?_
  intro p e s m args below meth c A Q ls hx hb hml hown hts hK hP hD hA hS hZ hl hret
  have hts := fun w h => hts w (List.mem_cons_of_mem _ h)
  have hl : lv_has ls 6 [(0, .ref (gA G 8)), (1, .int v0)] := hl
  have hf : x_ThumbSet_byNumberOffset σ v0 = x_ThumbSet_byNumberOffset σ v0 := rfl
  refine lv_aload_n hx hb dX8_byNumberOffset_0 rfl (lv_at hl 0 rfl) ?_
  refine va_get (D := gD G) (ci := 6) hx hb hts ku_8 hown hK hP 8 rfl rfl 0 (by decide) (hts _ kw_97) (fun _ h9 => h9) rfl dX8_byNumberOffset_1 ?_
  refine lv_iload_n hx hb dX8_byNumberOffset_4 rfl (lv_at hl 1 rfl) ?_
  refine lv_iconst (v := 3) hx hb dX8_byNumberOffset_5 (by decide) ?_
  refine kp_Si (rest := [.ref (gA G 3)]) (cx_Bits_three l v0 3) ⟨hx, hb, hml, hown, hts⟩ (va_cwS 2 hts (gi_S kw_352 kw_353 kw_346 kw_354) rfl rfl rfl mdX2_three ⟨by decide, by decide⟩) rfl hl.1 rfl (Nat.le_of_ble_eq_true rfl) dX8_byNumberOffset_6 ⟨Nat.zero_le _, Nat.zero_le _⟩ ?_
  refine kc_Vr (rest := []) (cx_Registers_read l G σ (x_Bits_three v0 3) (bt3_16 _ _)) ⟨hx, hb, hml, hown, hts⟩ (cwV 1 hts (gi_V kw_358 kw_359 kw_360 kw_19 kw_361) rfl rfl rfl ⟨rfl, mdX6_read⟩ ⟨by decide, by decide⟩) (va_recv hK hP (ci := 4) (q0 := 3) rfl rfl) cZ_ok hK hP hD hS hA hZ rfl hl.1 rfl (Nat.le_of_ble_eq_true rfl) dX8_byNumberOffset_9 ⟨Nat.zero_le _, Nat.zero_le _⟩ (fun H locs hP hD hS => ?_)
  refine lv_istore_n (lv' := [(2, .int (x_Registers_read σ (x_Bits_three v0 3))), (0, .ref (gA G 8)), (1, .int v0)]) hx hb dX8_byNumberOffset_12 rfl hl (by decide) rfl (fun ls hl => ?_)
  refine lv_iload_n hx hb dX8_byNumberOffset_13 rfl (lv_at hl 2 rfl) ?_
  refine lv_bipush (v := 6) hx hb dX8_byNumberOffset_14 (by decide) ?_
  refine kp_Si (rest := []) (cx_Bits_five l v0 6) ⟨hx, hb, hml, hown, hts⟩ (va_cwS 2 hts (gi_S kw_412 kw_413 kw_346 kw_414) rfl rfl rfl mdX2_five ⟨by decide, by decide⟩) rfl hl.1 rfl (Nat.le_of_ble_eq_true rfl) dX8_byNumberOffset_16 ⟨Nat.zero_le _, Nat.zero_le _⟩ ?_
  refine lv_istore_n (lv' := [(3, .int (x_Bits_five v0 6)), (2, .int (x_Registers_read σ (x_Bits_three v0 3))), (0, .ref (gA G 8)), (1, .int v0)]) hx hb dX8_byNumberOffset_19 rfl hl (by decide) rfl (fun ls hl => ?_)
  refine lv_iload_n hx hb dX8_byNumberOffset_20 rfl (lv_at hl 3 rfl) ?_
  refine lv_iconst (v := 0) hx hb dX8_byNumberOffset_21 (by decide) ?_
  refine kp_Si (rest := []) (cx_Bits_three l v0 0) ⟨hx, hb, hml, hown, hts⟩ (va_cwS 2 hts (gi_S kw_352 kw_353 kw_346 kw_354) rfl rfl rfl mdX2_three ⟨by decide, by decide⟩) rfl hl.1 rfl (Nat.le_of_ble_eq_true rfl) dX8_byNumberOffset_22 ⟨Nat.zero_le _, Nat.zero_le _⟩ ?_
  refine lv_istore (lv' := [(4, .int (x_Bits_three v0 0)), (3, .int (x_Bits_five v0 6)), (2, .int (x_Registers_read σ (x_Bits_three v0 3))), (0, .ref (gA G 8)), (1, .int v0)]) hx hb dX8_byNumberOffset_25 hl (by decide) rfl (fun ls hl => ?_)
  refine lv_iload_n hx hb dX8_byNumberOffset_27 rfl (lv_at hl 4 rfl) ?_
  refine lv_bipush (v := 11) hx hb dX8_byNumberOffset_28 (by decide) ?_
  refine kp_Si (rest := []) (cx_Bits_on l v0 11) ⟨hx, hb, hml, hown, hts⟩ (va_cwS 2 hts (gi_S kw_355 kw_356 kw_346 kw_357) rfl rfl rfl mdX2_on ⟨by decide, by decide⟩) rfl hl.1 rfl (Nat.le_of_ble_eq_true rfl) dX8_byNumberOffset_30 ⟨Nat.zero_le _, Nat.zero_le _⟩ ?_
  refine lv_istore (lv' := [(5, .int (b01 (x_Bits_on v0 11))), (4, .int (x_Bits_three v0 0)), (3, .int (x_Bits_five v0 6)), (2, .int (x_Registers_read σ (x_Bits_three v0 3))), (0, .ref (gA G 8)), (1, .int v0)]) hx hb dX8_byNumberOffset_33 hl (by decide) rfl (fun ls hl => ?_)
  refine lv_iload_n hx hb dX8_byNumberOffset_35 rfl (lv_at hl 5 rfl) ?_
  refine lv_bipush (v := 12) hx hb dX8_byNumberOffset_36 (by decide) ?_
  refine lv_iushr (v := iu v0 12) hx hb dX8_byNumberOffset_38 rfl ?_
  by_cases h_3 : (iu v0 12) = 6
  · have hf := hf.trans (if_pos h_3)
    refine lv_lookup (tgt := 64) hx hb dX8_byNumberOffset_39 (by decide) (by first | (rw [h_3]; done) | (rw [h_3]; rfl)) (by decide) ?_
    refine lv_aload_n hx hb dX8_byNumberOffset_64 rfl (lv_at hl 4 rfl) ?_
    refine va_get (D := gD G) (ci := 6) hx hb hts ku_8 hown hK hP 8 rfl rfl 3 (by decide) (hts _ kw_100) (fun _ h9 => h9) rfl dX8_byNumberOffset_65 ?_
    refine lv_iload hx hb dX8_byNumberOffset_68 (lv_at hl 0 rfl) ?_
    refine lv_iconst (v := 0) hx hb dX8_byNumberOffset_70 (by decide) ?_
    refine lv_iload hx hb dX8_byNumberOffset_71 (lv_at hl 1 rfl) ?_
    refine lv_iload_n hx hb dX8_byNumberOffset_73 rfl (lv_at hl 3 rfl) ?_
    refine lv_iconst (v := 4) hx hb dX8_byNumberOffset_74 (by decide) ?_
    refine lv_iload_n hx hb dX8_byNumberOffset_75 rfl (lv_at hl 2 rfl) ?_
    refine lv_imul hx hb dX8_byNumberOffset_76 ?_
    refine lv_iadd hx hb dX8_byNumberOffset_77 ?_
    refine kc_Vb (rest := []) (cx_Transfers_plain l G σ (x_Bits_on v0 11) 0 (x_Bits_three v0 0) ((x_Registers_read σ (x_Bits_three v0 3)) + (4 * (x_Bits_five v0 6))) (bt3_16 _ _)) ⟨hx, hb, hml, hown, hts⟩ (cwV 4 hts (gi_V kw_454 kw_455 kw_456 kw_55 kw_457) rfl rfl rfl ⟨rfl, mdX9_plain⟩ ⟨by decide, by decide⟩) (va_recv hK hP (ci := 7) (q0 := 12) rfl rfl) cZ_ok hK hP hD hS hA hZ rfl hl.1 rfl (Nat.le_of_ble_eq_true rfl) dX8_byNumberOffset_78 ⟨Nat.zero_le _, Nat.zero_le _⟩ (fun H locs hP hD hS => ?_)
    exact hret ((x_Transfers_plain σ (x_Bits_on v0 11) 0 (x_Bits_three v0 0) ((x_Registers_read σ (x_Bits_three v0 3)) + (4 * (x_Bits_five v0 6)))).1) ((x_Transfers_plain σ (x_Bits_on v0 11) 0 (x_Bits_three v0 0) ((x_Registers_read σ (x_Bits_three v0 3)) + (4 * (x_Bits_five v0 6)))).2) _ _ _ _ hf hP hD hS dX8_byNumberOffset_81
  have hf := hf.trans (if_neg h_3)
  by_cases h_4 : (iu v0 12) = 7
  · have hf := hf.trans (if_pos h_4)
    refine lv_lookup (tgt := 82) hx hb dX8_byNumberOffset_39 (by decide) (by first | (rw [h_4]; done) | (rw [h_4]; rfl)) (by decide) ?_
    refine lv_aload_n hx hb dX8_byNumberOffset_82 rfl (lv_at hl 4 rfl) ?_
    refine va_get (D := gD G) (ci := 6) hx hb hts ku_8 hown hK hP 8 rfl rfl 3 (by decide) (hts _ kw_100) (fun _ h9 => h9) rfl dX8_byNumberOffset_83 ?_
    refine lv_iload hx hb dX8_byNumberOffset_86 (lv_at hl 0 rfl) ?_
    refine lv_iconst (v := 1) hx hb dX8_byNumberOffset_88 (by decide) ?_
    refine lv_iload hx hb dX8_byNumberOffset_89 (lv_at hl 1 rfl) ?_
    refine lv_iload_n hx hb dX8_byNumberOffset_91 rfl (lv_at hl 3 rfl) ?_
    refine lv_iload_n hx hb dX8_byNumberOffset_92 rfl (lv_at hl 2 rfl) ?_
    refine lv_iadd hx hb dX8_byNumberOffset_93 ?_
    refine kc_Vb (rest := []) (cx_Transfers_plain l G σ (x_Bits_on v0 11) 1 (x_Bits_three v0 0) ((x_Registers_read σ (x_Bits_three v0 3)) + (x_Bits_five v0 6)) (bt3_16 _ _)) ⟨hx, hb, hml, hown, hts⟩ (cwV 4 hts (gi_V kw_454 kw_455 kw_456 kw_55 kw_457) rfl rfl rfl ⟨rfl, mdX9_plain⟩ ⟨by decide, by decide⟩) (va_recv hK hP (ci := 7) (q0 := 12) rfl rfl) cZ_ok hK hP hD hS hA hZ rfl hl.1 rfl (Nat.le_of_ble_eq_true rfl) dX8_byNumberOffset_94 ⟨Nat.zero_le _, Nat.zero_le _⟩ (fun H locs hP hD hS => ?_)
    exact hret ((x_Transfers_plain σ (x_Bits_on v0 11) 1 (x_Bits_three v0 0) ((x_Registers_read σ (x_Bits_three v0 3)) + (x_Bits_five v0 6))).1) ((x_Transfers_plain σ (x_Bits_on v0 11) 1 (x_Bits_three v0 0) ((x_Registers_read σ (x_Bits_three v0 3)) + (x_Bits_five v0 6))).2) _ _ _ _ hf hP hD hS dX8_byNumberOffset_97
  have hf := hf.trans (if_neg h_4)
  refine lv_lookup (tgt := 98) (off := 59) hx hb dX8_byNumberOffset_39 (by decide) ((lv_osw h_3 (by decide)).trans ((lv_osw h_4 (by decide)).trans rfl)) (by decide) ?_
  refine lv_aload_n hx hb dX8_byNumberOffset_98 rfl (lv_at hl 4 rfl) ?_
  refine va_get (D := gD G) (ci := 6) hx hb hts ku_8 hown hK hP 8 rfl rfl 3 (by decide) (hts _ kw_100) (fun _ h9 => h9) rfl dX8_byNumberOffset_99 ?_
  refine lv_iload hx hb dX8_byNumberOffset_102 (lv_at hl 0 rfl) ?_
  refine lv_iconst (v := 2) hx hb dX8_byNumberOffset_104 (by decide) ?_
  refine lv_iload hx hb dX8_byNumberOffset_105 (lv_at hl 1 rfl) ?_
  refine lv_iload_n hx hb dX8_byNumberOffset_107 rfl (lv_at hl 3 rfl) ?_
  refine lv_iconst (v := 2) hx hb dX8_byNumberOffset_108 (by decide) ?_
  refine lv_iload_n hx hb dX8_byNumberOffset_109 rfl (lv_at hl 2 rfl) ?_
  refine lv_imul hx hb dX8_byNumberOffset_110 ?_
  refine lv_iadd hx hb dX8_byNumberOffset_111 ?_
  refine kc_Vb (rest := []) (cx_Transfers_plain l G σ (x_Bits_on v0 11) 2 (x_Bits_three v0 0) ((x_Registers_read σ (x_Bits_three v0 3)) + (2 * (x_Bits_five v0 6))) (bt3_16 _ _)) ⟨hx, hb, hml, hown, hts⟩ (cwV 4 hts (gi_V kw_454 kw_455 kw_456 kw_55 kw_457) rfl rfl rfl ⟨rfl, mdX9_plain⟩ ⟨by decide, by decide⟩) (va_recv hK hP (ci := 7) (q0 := 12) rfl rfl) cZ_ok hK hP hD hS hA hZ rfl hl.1 rfl (Nat.le_of_ble_eq_true rfl) dX8_byNumberOffset_112 ⟨Nat.zero_le _, Nat.zero_le _⟩ (fun H locs hP hD hS => ?_)
  exact hret ((x_Transfers_plain σ (x_Bits_on v0 11) 2 (x_Bits_three v0 0) ((x_Registers_read σ (x_Bits_three v0 3)) + (2 * (x_Bits_five v0 6)))).1) ((x_Transfers_plain σ (x_Bits_on v0 11) 2 (x_Bits_three v0 0) ((x_Registers_read σ (x_Bits_three v0 3)) + (2 * (x_Bits_five v0 6)))).2) _ _ _ _ hf hP hD hS dX8_byNumberOffset_115
def x_ThumbSet_besideSp (σ : CS) (v0 : Int32) : Int32 × CS := (x_Transfers_plain σ (x_Bits_on v0 11) 0 (x_Bits_three v0 8) ((x_Registers_read σ 13) + (4 * (v0 &&& 255))))
set_option maxRecDepth 20000 in
set_option maxHeartbeats 4000000 in
theorem cx_ThumbSet_besideSp (l : Launch) (G : KG) (σ : CS) (v0 : Int32) : KB l yX8_besideSp (Cond.code yX8_besideSp cX8_besideSp 3 (some .int) :: lw_all) (kr 4) (gD G) vwCl (gT G) (cZ G) (cW G) [.ref (gA G 8), .int v0] σ (x_ThumbSet_besideSp σ v0) := by
  refine kc_in_b (q := x_ThumbSet_besideSp σ v0) (by decide) rfl (Nat.le_of_ble_eq_true rfl) ?_
  intro p e s m args below meth c A Q ls hx hb hml hown hts hK hP hD hA hS hZ hl hret
  have hts := fun w h => hts w (List.mem_cons_of_mem _ h)
  have hl : lv_has ls 3 [(0, .ref (gA G 8)), (1, .int v0)] := hl
  have hf : x_ThumbSet_besideSp σ v0 = x_ThumbSet_besideSp σ v0 := rfl
  refine lv_aload_n hx hb dX8_besideSp_0 rfl (lv_at hl 0 rfl) ?_
  refine va_get (D := gD G) (ci := 6) hx hb hts ku_8 hown hK hP 8 rfl rfl 0 (by decide) (hts _ kw_97) (fun _ h9 => h9) rfl dX8_besideSp_1 ?_
  refine lv_bipush (v := 13) hx hb dX8_besideSp_4 (by decide) ?_
  refine kc_Vr (rest := []) (cx_Registers_read l G σ 13 (by unfold vp_in; decide)) ⟨hx, hb, hml, hown, hts⟩ (cwV 1 hts (gi_V kw_358 kw_359 kw_360 kw_19 kw_361) rfl rfl rfl ⟨rfl, mdX6_read⟩ ⟨by decide, by decide⟩) (va_recv hK hP (ci := 4) (q0 := 3) rfl rfl) cZ_ok hK hP hD hS hA hZ rfl hl.1 rfl (Nat.le_of_ble_eq_true rfl) dX8_besideSp_6 ⟨Nat.zero_le _, Nat.zero_le _⟩ (fun H locs hP hD hS => ?_)
  refine lv_iconst (v := 4) hx hb dX8_besideSp_9 (by decide) ?_
  refine lv_iload_n hx hb dX8_besideSp_10 rfl (lv_at hl 1 rfl) ?_
  refine lv_sipush (v := 255) hx hb dX8_besideSp_11 (by decide) ?_
  refine lv_iand hx hb dX8_besideSp_14 ?_
  refine lv_imul hx hb dX8_besideSp_15 ?_
  refine lv_iadd hx hb dX8_besideSp_16 ?_
  refine lv_istore_n (lv' := [(2, .int ((x_Registers_read σ 13) + (4 * (v0 &&& 255)))), (0, .ref (gA G 8)), (1, .int v0)]) hx hb dX8_besideSp_17 rfl hl (by decide) rfl (fun ls hl => ?_)
  refine lv_aload_n hx hb dX8_besideSp_18 rfl (lv_at hl 1 rfl) ?_
  refine va_get (D := gD G) (ci := 6) hx hb hts ku_8 hown hK hP 8 rfl rfl 3 (by decide) (hts _ kw_100) (fun _ h9 => h9) rfl dX8_besideSp_19 ?_
  refine lv_iload_n hx hb dX8_besideSp_22 rfl (lv_at hl 2 rfl) ?_
  refine lv_bipush (v := 11) hx hb dX8_besideSp_23 (by decide) ?_
  refine kp_Si (rest := [.ref (gA G 12)]) (cx_Bits_on l v0 11) ⟨hx, hb, hml, hown, hts⟩ (va_cwS 2 hts (gi_S kw_355 kw_356 kw_346 kw_357) rfl rfl rfl mdX2_on ⟨by decide, by decide⟩) rfl hl.1 rfl (Nat.le_of_ble_eq_true rfl) dX8_besideSp_25 ⟨Nat.zero_le _, Nat.zero_le _⟩ ?_
  refine lv_iconst (v := 0) hx hb dX8_besideSp_28 (by decide) ?_
  refine lv_iload_n hx hb dX8_besideSp_29 rfl (lv_at hl 2 rfl) ?_
  refine lv_bipush (v := 8) hx hb dX8_besideSp_30 (by decide) ?_
  refine kp_Si (rest := [.int 0, .int (b01 (x_Bits_on v0 11)), .ref (gA G 12)]) (cx_Bits_three l v0 8) ⟨hx, hb, hml, hown, hts⟩ (va_cwS 2 hts (gi_S kw_352 kw_353 kw_346 kw_354) rfl rfl rfl mdX2_three ⟨by decide, by decide⟩) rfl hl.1 rfl (Nat.le_of_ble_eq_true rfl) dX8_besideSp_32 ⟨Nat.zero_le _, Nat.zero_le _⟩ ?_
  refine lv_iload_n hx hb dX8_besideSp_35 rfl (lv_at hl 0 rfl) ?_
  refine kc_Vb (rest := []) (cx_Transfers_plain l G σ (x_Bits_on v0 11) 0 (x_Bits_three v0 8) ((x_Registers_read σ 13) + (4 * (v0 &&& 255))) (bt3_16 _ _)) ⟨hx, hb, hml, hown, hts⟩ (cwV 4 hts (gi_V kw_454 kw_455 kw_456 kw_55 kw_457) rfl rfl rfl ⟨rfl, mdX9_plain⟩ ⟨by decide, by decide⟩) (va_recv hK hP (ci := 7) (q0 := 12) rfl rfl) cZ_ok hK hP hD hS hA hZ rfl hl.1 rfl (Nat.le_of_ble_eq_true rfl) dX8_besideSp_36 ⟨Nat.zero_le _, Nat.zero_le _⟩ (fun H locs hP hD hS => ?_)
  exact hret ((x_Transfers_plain σ (x_Bits_on v0 11) 0 (x_Bits_three v0 8) ((x_Registers_read σ 13) + (4 * (v0 &&& 255)))).1) ((x_Transfers_plain σ (x_Bits_on v0 11) 0 (x_Bits_three v0 8) ((x_Registers_read σ 13) + (4 * (v0 &&& 255)))).2) _ _ _ _ hf hP hD hS dX8_besideSp_39
def x_ThumbSet_addressOf_25 (σ : CS) (v0 : Int32) (k0_25 : Int32) : Int32 × CS := ((-1), x_Registers_write σ (x_Bits_three v0 8) (k0_25 + (4 * (v0 &&& 255))))
def x_ThumbSet_addressOf (σ : CS) (v0 : Int32) : Int32 × CS := (if (x_Bits_on v0 11) = true then x_ThumbSet_addressOf_25 σ v0 (x_Registers_read σ 13) else x_ThumbSet_addressOf_25 σ v0 (x_ThumbSet_wordOfPc σ))
set_option maxRecDepth 20000 in
set_option maxHeartbeats 4000000 in
theorem cx_ThumbSet_addressOf (l : Launch) (G : KG) (σ : CS) (v0 : Int32) : KB l yX8_addressOf (Cond.code yX8_addressOf cX8_addressOf 3 (some .int) :: lw_all) (kr 3) (gD G) vwCl (gT G) (cZ G) (cW G) [.ref (gA G 8), .int v0] σ (x_ThumbSet_addressOf σ v0) := by
  refine kc_in_b (q := x_ThumbSet_addressOf σ v0) (by decide) rfl (Nat.le_of_ble_eq_true rfl) ?_
  intro p e s m args below meth c A Q ls hx hb hml hown hts hK hP hD hA hS hZ hl hret
  have hts := fun w h => hts w (List.mem_cons_of_mem _ h)
  have hl : lv_has ls 3 [(0, .ref (gA G 8)), (1, .int v0)] := hl
  have hf : x_ThumbSet_addressOf σ v0 = x_ThumbSet_addressOf σ v0 := rfl
  have J25 : ∀ (k0_25 : Int32) (H : Heap) (locs : List Loc) (ls : Array Slot), va_P (gD G) vwCl (cW G (σ)) H → va_D A (cW G (σ)) → va_S A s.heap H locs → lv_has ls 3 [(0, .ref (gA G 8)), (1, .int v0)] → x_ThumbSet_addressOf σ v0 = x_ThumbSet_addressOf_25 σ v0 k0_25 → W p l e (kr 3) s m args below meth c H locs 0 0 Q (F0 m 25 ls [.int k0_25]) := by
    intro k0_25 H locs ls hP hD hS hl hf
    refine lv_istore_n (lv' := [(2, .int k0_25), (0, .ref (gA G 8)), (1, .int v0)]) hx hb dX8_addressOf_25 rfl hl (by decide) rfl (fun ls hl => ?_)
    refine lv_aload_n hx hb dX8_addressOf_26 rfl (lv_at hl 1 rfl) ?_
    refine va_get (D := gD G) (ci := 6) hx hb hts ku_8 hown hK hP 8 rfl rfl 0 (by decide) (hts _ kw_97) (fun _ h9 => h9) rfl dX8_addressOf_27 ?_
    refine lv_iload_n hx hb dX8_addressOf_30 rfl (lv_at hl 2 rfl) ?_
    refine lv_bipush (v := 8) hx hb dX8_addressOf_31 (by decide) ?_
    refine kp_Si (rest := [.ref (gA G 3)]) (cx_Bits_three l v0 8) ⟨hx, hb, hml, hown, hts⟩ (va_cwS 2 hts (gi_S kw_352 kw_353 kw_346 kw_354) rfl rfl rfl mdX2_three ⟨by decide, by decide⟩) rfl hl.1 rfl (Nat.le_of_ble_eq_true rfl) dX8_addressOf_33 ⟨Nat.zero_le _, Nat.zero_le _⟩ ?_
    refine lv_iload_n hx hb dX8_addressOf_36 rfl (lv_at hl 0 rfl) ?_
    refine lv_iconst (v := 4) hx hb dX8_addressOf_37 (by decide) ?_
    refine lv_iload_n hx hb dX8_addressOf_38 rfl (lv_at hl 2 rfl) ?_
    refine lv_sipush (v := 255) hx hb dX8_addressOf_39 (by decide) ?_
    refine lv_iand hx hb dX8_addressOf_42 ?_
    refine lv_imul hx hb dX8_addressOf_43 ?_
    refine lv_iadd hx hb dX8_addressOf_44 ?_
    refine kc_Vv (rest := []) (cx_Registers_write l G σ (x_Bits_three v0 8) (k0_25 + (4 * (v0 &&& 255))) (bt3_16 _ _)) ⟨hx, hb, hml, hown, hts⟩ (cwV 2 hts (gi_V kw_441 kw_403 kw_404 kw_19 kw_405) rfl rfl rfl ⟨rfl, mdX6_write⟩ ⟨by decide, by decide⟩) (va_recv hK hP (ci := 4) (q0 := 3) rfl rfl) cZ_ok hK hP hD hS hA hZ rfl hl.1 rfl (Nat.le_of_ble_eq_true rfl) dX8_addressOf_45 ⟨Nat.zero_le _, Nat.zero_le _⟩ (fun H locs hP hD hS => ?_)
    refine lv_iconst (v := (-1)) hx hb dX8_addressOf_48 (by decide) ?_
    exact hret (-1) (x_Registers_write σ (x_Bits_three v0 8) (k0_25 + (4 * (v0 &&& 255)))) _ _ _ _ hf hP hD hS dX8_addressOf_49
  refine lv_iload_n hx hb dX8_addressOf_0 rfl (lv_at hl 1 rfl) ?_
  refine lv_bipush (v := 11) hx hb dX8_addressOf_1 (by decide) ?_
  refine kp_Si (rest := []) (cx_Bits_on l v0 11) ⟨hx, hb, hml, hown, hts⟩ (va_cwS 2 hts (gi_S kw_355 kw_356 kw_346 kw_357) rfl rfl rfl mdX2_on ⟨by decide, by decide⟩) rfl hl.1 rfl (Nat.le_of_ble_eq_true rfl) dX8_addressOf_3 ⟨Nat.zero_le _, Nat.zero_le _⟩ ?_
  refine kz_eq (tgt := 21) hx hb dX8_addressOf_6 (by decide) (fun h_2 => ?_) (fun h_2 => ?_)
  · have hf := hf.trans (if_neg h_2)
    refine lv_aload_n hx hb dX8_addressOf_21 rfl (lv_at hl 0 rfl) ?_
    refine kc_Vr (rest := []) (cx_ThumbSet_wordOfPc l G σ) ⟨hx, hb, hml, hown, hts⟩ (cwV 0 hts (gi_V kw_450 kw_451 kw_452 kw_62 kw_453) rfl rfl rfl ⟨rfl, mdX8_wordOfPc⟩ ⟨by decide, by decide⟩) (va_recv hK hP (ci := 6) (q0 := 8) rfl rfl) cZ_ok hK hP hD hS hA hZ rfl hl.1 rfl (Nat.le_of_ble_eq_true rfl) dX8_addressOf_22 ⟨Nat.zero_le _, Nat.zero_le _⟩ (fun H locs hP hD hS => ?_)
    exact J25 (x_ThumbSet_wordOfPc σ) _ _ _ hP hD hS (lv_sub hl [0, 1] rfl) hf
  · have hf := hf.trans (if_pos h_2)
    refine lv_aload_n hx hb dX8_addressOf_9 rfl (lv_at hl 0 rfl) ?_
    refine va_get (D := gD G) (ci := 6) hx hb hts ku_8 hown hK hP 8 rfl rfl 0 (by decide) (hts _ kw_97) (fun _ h9 => h9) rfl dX8_addressOf_10 ?_
    refine lv_bipush (v := 13) hx hb dX8_addressOf_13 (by decide) ?_
    refine kc_Vr (rest := []) (cx_Registers_read l G σ 13 (by unfold vp_in; decide)) ⟨hx, hb, hml, hown, hts⟩ (cwV 1 hts (gi_V kw_358 kw_359 kw_360 kw_19 kw_361) rfl rfl rfl ⟨rfl, mdX6_read⟩ ⟨by decide, by decide⟩) (va_recv hK hP (ci := 4) (q0 := 3) rfl rfl) cZ_ok hK hP hD hS hA hZ rfl hl.1 rfl (Nat.le_of_ble_eq_true rfl) dX8_addressOf_15 ⟨Nat.zero_le _, Nat.zero_le _⟩ (fun H locs hP hD hS => ?_)
    refine lv_goto (tgt := 25) hx hb dX8_addressOf_18 (by decide) ?_
    exact J25 (x_Registers_read σ 13) _ _ _ hP hD hS (lv_sub hl [0, 1] rfl) hf
def x_ThumbSet_stack (σ : CS) (v0 : Int32) : Int32 × CS := (if (iu v0 8) = 176 then (if (x_Bits_on v0 7) = true then ((-1), x_Registers_write σ 13 ((x_Registers_read σ 13) + (-(4 * (v0 &&& 127))))) else ((-1), x_Registers_write σ 13 ((x_Registers_read σ 13) + (4 * (v0 &&& 127))))) else (if (iu v0 9) = 90 then (if (x_Bits_on v0 8) = true then (x_Transfers_many σ ((153944064 ||| (v0 &&& 255)) ||| 16384)) else (x_Transfers_many σ ((153944064 ||| (v0 &&& 255)) ||| 0))) else (if (iu v0 9) = 94 then (if (x_Bits_on v0 8) = true then (x_Transfers_many σ ((146604032 ||| (v0 &&& 255)) ||| 32768)) else (x_Transfers_many σ ((146604032 ||| (v0 &&& 255)) ||| 0))) else (0, σ))))
set_option maxRecDepth 20000 in
set_option maxHeartbeats 4000000 in
theorem cx_ThumbSet_stack (l : Launch) (G : KG) (σ : CS) (v0 : Int32) : KB l yX8_stack (Cond.code yX8_stack cX8_stack 4 (some .int) :: lw_all) (kr 4) (gD G) vwCl (gT G) (cZ G) (cW G) [.ref (gA G 8), .int v0] σ (x_ThumbSet_stack σ v0) := by
  refine kc_in_b (q := x_ThumbSet_stack σ v0) (by decide) rfl (Nat.le_of_ble_eq_true rfl) ?_
  intro p e s m args below meth c A Q ls hx hb hml hown hts hK hP hD hA hS hZ hl hret
  have hts := fun w h => hts w (List.mem_cons_of_mem _ h)
  have hl : lv_has ls 4 [(0, .ref (gA G 8)), (1, .int v0)] := hl
  have hf : x_ThumbSet_stack σ v0 = x_ThumbSet_stack σ v0 := rfl
  refine lv_iload_n hx hb dX8_stack_0 rfl (lv_at hl 1 rfl) ?_
  refine lv_bipush (v := 8) hx hb dX8_stack_1 (by decide) ?_
  refine lv_iushr (v := iu v0 8) hx hb dX8_stack_3 rfl ?_
  refine lv_sipush (v := 176) hx hb dX8_stack_4 (by decide) ?_
  refine lv_icmp_ne (tgt := 53) hx hb dX8_stack_7 (by decide) (fun h_7 => ?_) (fun h_7 => ?_)
  · have hf := hf.trans (if_neg h_7)
    refine lv_iload_n hx hb dX8_stack_53 rfl (lv_at hl 1 rfl) ?_
    refine lv_sipush (v := 255) hx hb dX8_stack_54 (by decide) ?_
    refine lv_iand hx hb dX8_stack_57 ?_
    refine lv_istore_n (lv' := [(2, .int (v0 &&& 255)), (0, .ref (gA G 8)), (1, .int v0)]) hx hb dX8_stack_58 rfl hl (by decide) rfl (fun ls hl => ?_)
    refine lv_iload_n hx hb dX8_stack_59 rfl (lv_at hl 2 rfl) ?_
    refine lv_bipush (v := 8) hx hb dX8_stack_60 (by decide) ?_
    refine kp_Si (rest := []) (cx_Bits_on l v0 8) ⟨hx, hb, hml, hown, hts⟩ (va_cwS 2 hts (gi_S kw_355 kw_356 kw_346 kw_357) rfl rfl rfl mdX2_on ⟨by decide, by decide⟩) rfl hl.1 rfl (Nat.le_of_ble_eq_true rfl) dX8_stack_62 ⟨Nat.zero_le _, Nat.zero_le _⟩ ?_
    refine lv_istore_n (lv' := [(3, .int (b01 (x_Bits_on v0 8))), (2, .int (v0 &&& 255)), (0, .ref (gA G 8)), (1, .int v0)]) hx hb dX8_stack_65 rfl hl (by decide) rfl (fun ls hl => ?_)
    refine lv_iload_n hx hb dX8_stack_66 rfl (lv_at hl 3 rfl) ?_
    refine lv_bipush (v := 9) hx hb dX8_stack_67 (by decide) ?_
    refine lv_iushr (v := iu v0 9) hx hb dX8_stack_69 rfl ?_
    by_cases h_8 : (iu v0 9) = 90
    · have hf := hf.trans (if_pos h_8)
      refine lv_lookup (tgt := 96) hx hb dX8_stack_70 (by decide) (by first | (rw [h_8]; done) | (rw [h_8]; rfl)) (by decide) ?_
      refine lv_aload_n hx hb dX8_stack_96 rfl (lv_at hl 2 rfl) ?_
      refine va_get (D := gD G) (ci := 6) hx hb hts ku_8 hown hK hP 8 rfl rfl 3 (by decide) (hts _ kw_100) (fun _ h9 => h9) rfl dX8_stack_97 ?_
      refine lv_ldc (v := 153944064) hx hb hown (hts _ kw_509) dX8_stack_100 ?_
      refine lv_iload_n hx hb dX8_stack_102 rfl (lv_at hl 1 rfl) ?_
      refine lv_ior hx hb dX8_stack_103 ?_
      refine lv_iload_n hx hb dX8_stack_104 rfl (lv_at hl 0 rfl) ?_
      refine kz_eq (tgt := 114) hx hb dX8_stack_105 (by decide) (fun h_9 => ?_) (fun h_9 => ?_)
      · have hf := hf.trans (if_neg h_9)
        refine lv_iconst (v := 0) hx hb dX8_stack_114 (by decide) ?_
        refine lv_ior hx hb dX8_stack_115 ?_
        refine kc_Vb (rest := []) (cx_Transfers_many l G σ ((153944064 ||| (v0 &&& 255)) ||| 0)) ⟨hx, hb, hml, hown, hts⟩ (cwV 1 hts (gi_V kw_512 kw_513 kw_514 kw_55 kw_515) rfl rfl rfl ⟨rfl, mdX9_many⟩ ⟨by decide, by decide⟩) (va_recv hK hP (ci := 7) (q0 := 12) rfl rfl) cZ_ok hK hP hD hS hA hZ rfl hl.1 rfl (Nat.le_of_ble_eq_true rfl) dX8_stack_116 ⟨Nat.zero_le _, Nat.zero_le _⟩ (fun H locs hP hD hS => ?_)
        exact hret ((x_Transfers_many σ ((153944064 ||| (v0 &&& 255)) ||| 0)).1) ((x_Transfers_many σ ((153944064 ||| (v0 &&& 255)) ||| 0)).2) _ _ _ _ hf hP hD hS dX8_stack_119
      · have hf := hf.trans (if_pos h_9)
        refine lv_sipush (v := 16384) hx hb dX8_stack_108 (by decide) ?_
        refine lv_goto (tgt := 115) hx hb dX8_stack_111 (by decide) ?_
        refine lv_ior hx hb dX8_stack_115 ?_
        refine kc_Vb (rest := []) (cx_Transfers_many l G σ ((153944064 ||| (v0 &&& 255)) ||| 16384)) ⟨hx, hb, hml, hown, hts⟩ (cwV 1 hts (gi_V kw_512 kw_513 kw_514 kw_55 kw_515) rfl rfl rfl ⟨rfl, mdX9_many⟩ ⟨by decide, by decide⟩) (va_recv hK hP (ci := 7) (q0 := 12) rfl rfl) cZ_ok hK hP hD hS hA hZ rfl hl.1 rfl (Nat.le_of_ble_eq_true rfl) dX8_stack_116 ⟨Nat.zero_le _, Nat.zero_le _⟩ (fun H locs hP hD hS => ?_)
        exact hret ((x_Transfers_many σ ((153944064 ||| (v0 &&& 255)) ||| 16384)).1) ((x_Transfers_many σ ((153944064 ||| (v0 &&& 255)) ||| 16384)).2) _ _ _ _ hf hP hD hS dX8_stack_119
    have hf := hf.trans (if_neg h_8)
    by_cases h_10 : (iu v0 9) = 94
    · have hf := hf.trans (if_pos h_10)
      refine lv_lookup (tgt := 120) hx hb dX8_stack_70 (by decide) (by first | (rw [h_10]; done) | (rw [h_10]; rfl)) (by decide) ?_
      refine lv_aload_n hx hb dX8_stack_120 rfl (lv_at hl 2 rfl) ?_
      refine va_get (D := gD G) (ci := 6) hx hb hts ku_8 hown hK hP 8 rfl rfl 3 (by decide) (hts _ kw_100) (fun _ h9 => h9) rfl dX8_stack_121 ?_
      refine lv_ldc (v := 146604032) hx hb hown (hts _ kw_510) dX8_stack_124 ?_
      refine lv_iload_n hx hb dX8_stack_126 rfl (lv_at hl 1 rfl) ?_
      refine lv_ior hx hb dX8_stack_127 ?_
      refine lv_iload_n hx hb dX8_stack_128 rfl (lv_at hl 0 rfl) ?_
      refine kz_eq (tgt := 137) hx hb dX8_stack_129 (by decide) (fun h_11 => ?_) (fun h_11 => ?_)
      · have hf := hf.trans (if_neg h_11)
        refine lv_iconst (v := 0) hx hb dX8_stack_137 (by decide) ?_
        refine lv_ior hx hb dX8_stack_138 ?_
        refine kc_Vb (rest := []) (cx_Transfers_many l G σ ((146604032 ||| (v0 &&& 255)) ||| 0)) ⟨hx, hb, hml, hown, hts⟩ (cwV 1 hts (gi_V kw_512 kw_513 kw_514 kw_55 kw_515) rfl rfl rfl ⟨rfl, mdX9_many⟩ ⟨by decide, by decide⟩) (va_recv hK hP (ci := 7) (q0 := 12) rfl rfl) cZ_ok hK hP hD hS hA hZ rfl hl.1 rfl (Nat.le_of_ble_eq_true rfl) dX8_stack_139 ⟨Nat.zero_le _, Nat.zero_le _⟩ (fun H locs hP hD hS => ?_)
        exact hret ((x_Transfers_many σ ((146604032 ||| (v0 &&& 255)) ||| 0)).1) ((x_Transfers_many σ ((146604032 ||| (v0 &&& 255)) ||| 0)).2) _ _ _ _ hf hP hD hS dX8_stack_142
      · have hf := hf.trans (if_pos h_11)
        refine lv_ldc (v := 32768) hx hb hown (hts _ kw_511) dX8_stack_132 ?_
        refine lv_goto (tgt := 138) hx hb dX8_stack_134 (by decide) ?_
        refine lv_ior hx hb dX8_stack_138 ?_
        refine kc_Vb (rest := []) (cx_Transfers_many l G σ ((146604032 ||| (v0 &&& 255)) ||| 32768)) ⟨hx, hb, hml, hown, hts⟩ (cwV 1 hts (gi_V kw_512 kw_513 kw_514 kw_55 kw_515) rfl rfl rfl ⟨rfl, mdX9_many⟩ ⟨by decide, by decide⟩) (va_recv hK hP (ci := 7) (q0 := 12) rfl rfl) cZ_ok hK hP hD hS hA hZ rfl hl.1 rfl (Nat.le_of_ble_eq_true rfl) dX8_stack_139 ⟨Nat.zero_le _, Nat.zero_le _⟩ (fun H locs hP hD hS => ?_)
        exact hret ((x_Transfers_many σ ((146604032 ||| (v0 &&& 255)) ||| 32768)).1) ((x_Transfers_many σ ((146604032 ||| (v0 &&& 255)) ||| 32768)).2) _ _ _ _ hf hP hD hS dX8_stack_142
    have hf := hf.trans (if_neg h_10)
    refine lv_lookup (tgt := 143) (off := 73) hx hb dX8_stack_70 (by decide) ((lv_osw h_8 (by decide)).trans ((lv_osw h_10 (by decide)).trans rfl)) (by decide) ?_
    refine lv_iconst (v := 0) hx hb dX8_stack_143 (by decide) ?_
    exact hret 0 σ _ _ _ _ hf hP hD hS dX8_stack_144
  · have hf := hf.trans (if_pos h_7)
    refine lv_iconst (v := 4) hx hb dX8_stack_10 (by decide) ?_
    refine lv_iload_n hx hb dX8_stack_11 rfl (lv_at hl 1 rfl) ?_
    refine lv_bipush (v := 127) hx hb dX8_stack_12 (by decide) ?_
    refine lv_iand hx hb dX8_stack_14 ?_
    refine lv_imul hx hb dX8_stack_15 ?_
    refine lv_istore_n (lv' := [(2, .int (4 * (v0 &&& 127))), (0, .ref (gA G 8)), (1, .int v0)]) hx hb dX8_stack_16 rfl hl (by decide) rfl (fun ls hl => ?_)
    refine lv_aload_n hx hb dX8_stack_17 rfl (lv_at hl 1 rfl) ?_
    refine va_get (D := gD G) (ci := 6) hx hb hts ku_8 hown hK hP 8 rfl rfl 0 (by decide) (hts _ kw_97) (fun _ h9 => h9) rfl dX8_stack_18 ?_
    refine lv_bipush (v := 13) hx hb dX8_stack_21 (by decide) ?_
    refine lv_aload_n hx hb dX8_stack_23 rfl (lv_at hl 1 rfl) ?_
    refine va_get (D := gD G) (ci := 6) hx hb hts ku_8 hown hK hP 8 rfl rfl 0 (by decide) (hts _ kw_97) (fun _ h9 => h9) rfl dX8_stack_24 ?_
    refine lv_bipush (v := 13) hx hb dX8_stack_27 (by decide) ?_
    refine kc_Vr (rest := [.int 13, .ref (gA G 3)]) (cx_Registers_read l G σ 13 (by unfold vp_in; decide)) ⟨hx, hb, hml, hown, hts⟩ (cwV 1 hts (gi_V kw_358 kw_359 kw_360 kw_19 kw_361) rfl rfl rfl ⟨rfl, mdX6_read⟩ ⟨by decide, by decide⟩) (va_recv hK hP (ci := 4) (q0 := 3) rfl rfl) cZ_ok hK hP hD hS hA hZ rfl hl.1 rfl (Nat.le_of_ble_eq_true rfl) dX8_stack_29 ⟨Nat.zero_le _, Nat.zero_le _⟩ (fun H locs hP hD hS => ?_)
    refine lv_iload_n hx hb dX8_stack_32 rfl (lv_at hl 2 rfl) ?_
    refine lv_bipush (v := 7) hx hb dX8_stack_33 (by decide) ?_
    refine kp_Si (rest := [.int (x_Registers_read σ 13), .int 13, .ref (gA G 3)]) (cx_Bits_on l v0 7) ⟨hx, hb, hml, hown, hts⟩ (va_cwS 2 hts (gi_S kw_355 kw_356 kw_346 kw_357) rfl rfl rfl mdX2_on ⟨by decide, by decide⟩) rfl hl.1 rfl (Nat.le_of_ble_eq_true rfl) dX8_stack_35 ⟨Nat.zero_le _, Nat.zero_le _⟩ ?_
    refine kz_eq (tgt := 46) hx hb dX8_stack_38 (by decide) (fun h_12 => ?_) (fun h_12 => ?_)
    · have hf := hf.trans (if_neg h_12)
      refine lv_iload_n hx hb dX8_stack_46 rfl (lv_at hl 0 rfl) ?_
      refine lv_iadd hx hb dX8_stack_47 ?_
      refine kc_Vv (rest := []) (cx_Registers_write l G σ 13 ((x_Registers_read σ 13) + (4 * (v0 &&& 127))) (by unfold vp_in; decide)) ⟨hx, hb, hml, hown, hts⟩ (cwV 2 hts (gi_V kw_441 kw_403 kw_404 kw_19 kw_405) rfl rfl rfl ⟨rfl, mdX6_write⟩ ⟨by decide, by decide⟩) (va_recv hK hP (ci := 4) (q0 := 3) rfl rfl) cZ_ok hK hP hD hS hA hZ rfl hl.1 rfl (Nat.le_of_ble_eq_true rfl) dX8_stack_48 ⟨Nat.zero_le _, Nat.zero_le _⟩ (fun H locs hP hD hS => ?_)
      refine lv_iconst (v := (-1)) hx hb dX8_stack_51 (by decide) ?_
      exact hret (-1) (x_Registers_write σ 13 ((x_Registers_read σ 13) + (4 * (v0 &&& 127)))) _ _ _ _ hf hP hD hS dX8_stack_52
    · have hf := hf.trans (if_pos h_12)
      refine lv_iload_n hx hb dX8_stack_41 rfl (lv_at hl 0 rfl) ?_
      refine lv_ineg hx hb dX8_stack_42 ?_
      refine lv_goto (tgt := 47) hx hb dX8_stack_43 (by decide) ?_
      refine lv_iadd hx hb dX8_stack_47 ?_
      refine kc_Vv (rest := []) (cx_Registers_write l G σ 13 ((x_Registers_read σ 13) + (-(4 * (v0 &&& 127)))) (by unfold vp_in; decide)) ⟨hx, hb, hml, hown, hts⟩ (cwV 2 hts (gi_V kw_441 kw_403 kw_404 kw_19 kw_405) rfl rfl rfl ⟨rfl, mdX6_write⟩ ⟨by decide, by decide⟩) (va_recv hK hP (ci := 4) (q0 := 3) rfl rfl) cZ_ok hK hP hD hS hA hZ rfl hl.1 rfl (Nat.le_of_ble_eq_true rfl) dX8_stack_48 ⟨Nat.zero_le _, Nat.zero_le _⟩ (fun H locs hP hD hS => ?_)
      refine lv_iconst (v := (-1)) hx hb dX8_stack_51 (by decide) ?_
      exact hret (-1) (x_Registers_write σ 13 ((x_Registers_read σ 13) + (-(4 * (v0 &&& 127))))) _ _ _ _ hf hP hD hS dX8_stack_52
def x_ThumbSet_many_16 (σ : CS) (v0 : Int32) (k0_16 : Int32) : Int32 × CS := (x_Transfers_many σ ((k0_16 ||| ((x_Bits_three v0 8) <<< ((16 : Int32) &&& 31))) ||| (v0 &&& 255)))
def x_ThumbSet_many (σ : CS) (v0 : Int32) : Int32 × CS := (if (x_Bits_on v0 11) = true then x_ThumbSet_many_16 σ v0 145752064 else x_ThumbSet_many_16 σ v0 144703488)
set_option maxRecDepth 20000 in
set_option maxHeartbeats 4000000 in
theorem cx_ThumbSet_many (l : Launch) (G : KG) (σ : CS) (v0 : Int32) : KB l yX8_many (Cond.code yX8_many cX8_many 3 (some .int) :: lw_all) (kr 4) (gD G) vwCl (gT G) (cZ G) (cW G) [.ref (gA G 8), .int v0] σ (x_ThumbSet_many σ v0) := by
  refine kc_in_b (q := x_ThumbSet_many σ v0) (by decide) rfl (Nat.le_of_ble_eq_true rfl) ?_
  intro p e s m args below meth c A Q ls hx hb hml hown hts hK hP hD hA hS hZ hl hret
  have hts := fun w h => hts w (List.mem_cons_of_mem _ h)
  have hl : lv_has ls 3 [(0, .ref (gA G 8)), (1, .int v0)] := hl
  have hf : x_ThumbSet_many σ v0 = x_ThumbSet_many σ v0 := rfl
  have J16 : ∀ (k0_16 : Int32) (H : Heap) (locs : List Loc) (ls : Array Slot), va_P (gD G) vwCl (cW G (σ)) H → va_D A (cW G (σ)) → va_S A s.heap H locs → lv_has ls 3 [(0, .ref (gA G 8)), (1, .int v0)] → x_ThumbSet_many σ v0 = x_ThumbSet_many_16 σ v0 k0_16 → W p l e (kr 4) s m args below meth c H locs 0 0 Q (F0 m 16 ls [.int k0_16]) := by
    intro k0_16 H locs ls hP hD hS hl hf
    refine lv_istore_n (lv' := [(2, .int k0_16), (0, .ref (gA G 8)), (1, .int v0)]) hx hb dX8_many_16 rfl hl (by decide) rfl (fun ls hl => ?_)
    refine lv_aload_n hx hb dX8_many_17 rfl (lv_at hl 1 rfl) ?_
    refine va_get (D := gD G) (ci := 6) hx hb hts ku_8 hown hK hP 8 rfl rfl 3 (by decide) (hts _ kw_100) (fun _ h9 => h9) rfl dX8_many_18 ?_
    refine lv_iload_n hx hb dX8_many_21 rfl (lv_at hl 0 rfl) ?_
    refine lv_iload_n hx hb dX8_many_22 rfl (lv_at hl 2 rfl) ?_
    refine lv_bipush (v := 8) hx hb dX8_many_23 (by decide) ?_
    refine kp_Si (rest := [.int k0_16, .ref (gA G 12)]) (cx_Bits_three l v0 8) ⟨hx, hb, hml, hown, hts⟩ (va_cwS 2 hts (gi_S kw_352 kw_353 kw_346 kw_354) rfl rfl rfl mdX2_three ⟨by decide, by decide⟩) rfl hl.1 rfl (Nat.le_of_ble_eq_true rfl) dX8_many_25 ⟨Nat.zero_le _, Nat.zero_le _⟩ ?_
    refine lv_bipush (v := 16) hx hb dX8_many_28 (by decide) ?_
    refine lv_ishl hx hb dX8_many_30 ?_
    refine lv_ior hx hb dX8_many_31 ?_
    refine lv_iload_n hx hb dX8_many_32 rfl (lv_at hl 2 rfl) ?_
    refine lv_sipush (v := 255) hx hb dX8_many_33 (by decide) ?_
    refine lv_iand hx hb dX8_many_36 ?_
    refine lv_ior hx hb dX8_many_37 ?_
    refine kc_Vb (rest := []) (cx_Transfers_many l G σ ((k0_16 ||| ((x_Bits_three v0 8) <<< ((16 : Int32) &&& 31))) ||| (v0 &&& 255))) ⟨hx, hb, hml, hown, hts⟩ (cwV 1 hts (gi_V kw_512 kw_513 kw_514 kw_55 kw_515) rfl rfl rfl ⟨rfl, mdX9_many⟩ ⟨by decide, by decide⟩) (va_recv hK hP (ci := 7) (q0 := 12) rfl rfl) cZ_ok hK hP hD hS hA hZ rfl hl.1 rfl (Nat.le_of_ble_eq_true rfl) dX8_many_38 ⟨Nat.zero_le _, Nat.zero_le _⟩ (fun H locs hP hD hS => ?_)
    exact hret ((x_Transfers_many σ ((k0_16 ||| ((x_Bits_three v0 8) <<< ((16 : Int32) &&& 31))) ||| (v0 &&& 255))).1) ((x_Transfers_many σ ((k0_16 ||| ((x_Bits_three v0 8) <<< ((16 : Int32) &&& 31))) ||| (v0 &&& 255))).2) _ _ _ _ hf hP hD hS dX8_many_41
  refine lv_iload_n hx hb dX8_many_0 rfl (lv_at hl 1 rfl) ?_
  refine lv_bipush (v := 11) hx hb dX8_many_1 (by decide) ?_
  refine kp_Si (rest := []) (cx_Bits_on l v0 11) ⟨hx, hb, hml, hown, hts⟩ (va_cwS 2 hts (gi_S kw_355 kw_356 kw_346 kw_357) rfl rfl rfl mdX2_on ⟨by decide, by decide⟩) rfl hl.1 rfl (Nat.le_of_ble_eq_true rfl) dX8_many_3 ⟨Nat.zero_le _, Nat.zero_le _⟩ ?_
  refine kz_eq (tgt := 14) hx hb dX8_many_6 (by decide) (fun h_2 => ?_) (fun h_2 => ?_)
  · have hf := hf.trans (if_neg h_2)
    refine lv_ldc (v := 144703488) hx hb hown (hts _ kw_556) dX8_many_14 ?_
    exact J16 144703488 _ _ _ hP hD hS (lv_sub hl [0, 1] rfl) hf
  · have hf := hf.trans (if_pos h_2)
    refine lv_ldc (v := 145752064) hx hb hown (hts _ kw_555) dX8_many_9 ?_
    refine lv_goto (tgt := 16) hx hb dX8_many_11 (by decide) ?_
    exact J16 145752064 _ _ _ hP hD hS (lv_sub hl [0, 1] rfl) hf
def x_ThumbSet_branchByCondition (σ : CS) (v0 : Int32) : Int32 × CS := (if (x_Bits_four v0 8) = 14 then (0, σ) else (if (x_Bits_four v0 8) = 15 then (1, σ) else (if (x_Registers_fits σ (x_Bits_four v0 8)) = true then ((-1), x_Registers_jump σ ((x_Registers_read σ 15) + (2 * v0.toInt8.toInt32))) else ((-1), σ))))
set_option maxRecDepth 20000 in
set_option maxHeartbeats 4000000 in
theorem cx_ThumbSet_branchByCondition (l : Launch) (G : KG) (σ : CS) (v0 : Int32) : KB l yX8_branchByCondition (Cond.code yX8_branchByCondition cX8_branchByCondition 3 (some .int) :: lw_all) (kr 2) (gD G) vwCl (gT G) (cZ G) (cW G) [.ref (gA G 8), .int v0] σ (x_ThumbSet_branchByCondition σ v0) := by
  refine kc_in_b (q := x_ThumbSet_branchByCondition σ v0) (by decide) rfl (Nat.le_of_ble_eq_true rfl) ?_
  intro p e s m args below meth c A Q ls hx hb hml hown hts hK hP hD hA hS hZ hl hret
  have hts := fun w h => hts w (List.mem_cons_of_mem _ h)
  have hl : lv_has ls 3 [(0, .ref (gA G 8)), (1, .int v0)] := hl
  have hf : x_ThumbSet_branchByCondition σ v0 = x_ThumbSet_branchByCondition σ v0 := rfl
  refine lv_iload_n hx hb dX8_branchByCondition_0 rfl (lv_at hl 1 rfl) ?_
  refine lv_bipush (v := 8) hx hb dX8_branchByCondition_1 (by decide) ?_
  refine kp_Si (rest := []) (cx_Bits_four l v0 8) ⟨hx, hb, hml, hown, hts⟩ (va_cwS 2 hts (gi_S kw_344 kw_345 kw_346 kw_347) rfl rfl rfl mdX2_four ⟨by decide, by decide⟩) rfl hl.1 rfl (Nat.le_of_ble_eq_true rfl) dX8_branchByCondition_3 ⟨Nat.zero_le _, Nat.zero_le _⟩ ?_
  refine lv_istore_n (lv' := [(2, .int (x_Bits_four v0 8)), (0, .ref (gA G 8)), (1, .int v0)]) hx hb dX8_branchByCondition_6 rfl hl (by decide) rfl (fun ls hl => ?_)
  refine lv_iload_n hx hb dX8_branchByCondition_7 rfl (lv_at hl 0 rfl) ?_
  refine lv_bipush (v := 14) hx hb dX8_branchByCondition_8 (by decide) ?_
  refine lv_icmp_ne (tgt := 15) hx hb dX8_branchByCondition_10 (by decide) (fun h_4 => ?_) (fun h_4 => ?_)
  · have hf := hf.trans (if_neg h_4)
    refine lv_iload_n hx hb dX8_branchByCondition_15 rfl (lv_at hl 0 rfl) ?_
    refine lv_bipush (v := 15) hx hb dX8_branchByCondition_16 (by decide) ?_
    refine lv_icmp_ne (tgt := 23) hx hb dX8_branchByCondition_18 (by decide) (fun h_5 => ?_) (fun h_5 => ?_)
    · have hf := hf.trans (if_neg h_5)
      refine lv_aload_n hx hb dX8_branchByCondition_23 rfl (lv_at hl 1 rfl) ?_
      refine va_get (D := gD G) (ci := 6) hx hb hts ku_8 hown hK hP 8 rfl rfl 0 (by decide) (hts _ kw_97) (fun _ h9 => h9) rfl dX8_branchByCondition_24 ?_
      refine lv_iload_n hx hb dX8_branchByCondition_27 rfl (lv_at hl 0 rfl) ?_
      refine kc_Vr (rest := []) (cx_Registers_fits l G σ (x_Bits_four v0 8)) ⟨hx, hb, hml, hown, hts⟩ (cwV 1 hts (gi_V kw_561 kw_562 kw_563 kw_19 kw_564) rfl rfl rfl ⟨rfl, mdX6_fits⟩ ⟨by decide, by decide⟩) (va_recv hK hP (ci := 4) (q0 := 3) rfl rfl) cZ_ok hK hP hD hS hA hZ rfl hl.1 rfl (Nat.le_of_ble_eq_true rfl) dX8_branchByCondition_28 ⟨Nat.zero_le _, Nat.zero_le _⟩ (fun H locs hP hD hS => ?_)
      refine kz_eq (tgt := 55) hx hb dX8_branchByCondition_31 (by decide) (fun h_6 => ?_) (fun h_6 => ?_)
      · have hf := hf.trans (if_neg h_6)
        refine lv_iconst (v := (-1)) hx hb dX8_branchByCondition_55 (by decide) ?_
        exact hret (-1) σ _ _ _ _ hf hP hD hS dX8_branchByCondition_56
      · have hf := hf.trans (if_pos h_6)
        refine lv_aload_n hx hb dX8_branchByCondition_34 rfl (lv_at hl 1 rfl) ?_
        refine va_get (D := gD G) (ci := 6) hx hb hts ku_8 hown hK hP 8 rfl rfl 0 (by decide) (hts _ kw_97) (fun _ h9 => h9) rfl dX8_branchByCondition_35 ?_
        refine lv_aload_n hx hb dX8_branchByCondition_38 rfl (lv_at hl 1 rfl) ?_
        refine va_get (D := gD G) (ci := 6) hx hb hts ku_8 hown hK hP 8 rfl rfl 0 (by decide) (hts _ kw_97) (fun _ h9 => h9) rfl dX8_branchByCondition_39 ?_
        refine lv_bipush (v := 15) hx hb dX8_branchByCondition_42 (by decide) ?_
        refine kc_Vr (rest := [.ref (gA G 3)]) (cx_Registers_read l G σ 15 (by unfold vp_in; decide)) ⟨hx, hb, hml, hown, hts⟩ (cwV 1 hts (gi_V kw_358 kw_359 kw_360 kw_19 kw_361) rfl rfl rfl ⟨rfl, mdX6_read⟩ ⟨by decide, by decide⟩) (va_recv hK hP (ci := 4) (q0 := 3) rfl rfl) cZ_ok hK hP hD hS hA hZ rfl hl.1 rfl (Nat.le_of_ble_eq_true rfl) dX8_branchByCondition_44 ⟨Nat.zero_le _, Nat.zero_le _⟩ (fun H locs hP hD hS => ?_)
        refine lv_iconst (v := 2) hx hb dX8_branchByCondition_47 (by decide) ?_
        refine lv_iload_n hx hb dX8_branchByCondition_48 rfl (lv_at hl 2 rfl) ?_
        refine lv_i2b (v := v0.toInt8.toInt32) hx hb dX8_branchByCondition_49 rfl ?_
        refine lv_imul hx hb dX8_branchByCondition_50 ?_
        refine lv_iadd hx hb dX8_branchByCondition_51 ?_
        refine kc_Vv (rest := []) (cx_Registers_jump l G σ ((x_Registers_read σ 15) + (2 * v0.toInt8.toInt32))) ⟨hx, hb, hml, hown, hts⟩ (cwV 1 hts (gi_V kw_566 kw_187 kw_188 kw_19 kw_189) rfl rfl rfl ⟨rfl, mdX6_jump⟩ ⟨by decide, by decide⟩) (va_recv hK hP (ci := 4) (q0 := 3) rfl rfl) cZ_ok hK hP hD hS hA hZ rfl hl.1 rfl (Nat.le_of_ble_eq_true rfl) dX8_branchByCondition_52 ⟨Nat.zero_le _, Nat.zero_le _⟩ (fun H locs hP hD hS => ?_)
        refine lv_iconst (v := (-1)) hx hb dX8_branchByCondition_55 (by decide) ?_
        exact hret (-1) (x_Registers_jump σ ((x_Registers_read σ 15) + (2 * v0.toInt8.toInt32))) _ _ _ _ hf hP hD hS dX8_branchByCondition_56
    · have hf := hf.trans (if_pos h_5)
      refine lv_iconst (v := 1) hx hb dX8_branchByCondition_21 (by decide) ?_
      exact hret 1 σ _ _ _ _ hf hP hD hS dX8_branchByCondition_22
  · have hf := hf.trans (if_pos h_4)
    refine lv_iconst (v := 0) hx hb dX8_branchByCondition_13 (by decide) ?_
    exact hret 0 σ _ _ _ _ hf hP hD hS dX8_branchByCondition_14
def x_ThumbSet_branch (σ : CS) (v0 : Int32) : Int32 × CS := (if (iu v0 11) = 28 then ((-1), x_Registers_jump σ ((x_Registers_read σ 15) + (2 * ((v0 <<< ((21 : Int32) &&& 31)) >>> ((21 : Int32) &&& 31))))) else (if (iu v0 11) = 30 then ((-1), x_Registers_write σ 14 ((x_Registers_read σ 15) + (4096 * ((v0 <<< ((21 : Int32) &&& 31)) >>> ((21 : Int32) &&& 31))))) else (if (iu v0 11) = 31 then ((-1), x_Registers_write (x_Registers_jump σ ((x_Registers_read σ 14) + (2 * (v0 &&& 2047)))) 14 ((x_Registers_behind (x_Registers_jump σ ((x_Registers_read σ 14) + (2 * (v0 &&& 2047))))) ||| 1)) else (0, σ))))
set_option maxRecDepth 20000 in
set_option maxHeartbeats 4000000 in
theorem cx_ThumbSet_branch (l : Launch) (G : KG) (σ : CS) (v0 : Int32) : KB l yX8_branch (Cond.code yX8_branch cX8_branch 4 (some .int) :: lw_all) (kr 3) (gD G) vwCl (gT G) (cZ G) (cW G) [.ref (gA G 8), .int v0] σ (x_ThumbSet_branch σ v0) := by
  refine kc_in_b (q := x_ThumbSet_branch σ v0) (by decide) rfl (Nat.le_of_ble_eq_true rfl) ?_
  intro p e s m args below meth c A Q ls hx hb hml hown hts hK hP hD hA hS hZ hl hret
  have hts := fun w h => hts w (List.mem_cons_of_mem _ h)
  have hl : lv_has ls 4 [(0, .ref (gA G 8)), (1, .int v0)] := hl
  have hf : x_ThumbSet_branch σ v0 = x_ThumbSet_branch σ v0 := rfl
  refine lv_iload_n hx hb dX8_branch_0 rfl (lv_at hl 1 rfl) ?_
  refine lv_sipush (v := 2047) hx hb dX8_branch_1 (by decide) ?_
  refine lv_iand hx hb dX8_branch_4 ?_
  refine lv_istore_n (lv' := [(2, .int (v0 &&& 2047)), (0, .ref (gA G 8)), (1, .int v0)]) hx hb dX8_branch_5 rfl hl (by decide) rfl (fun ls hl => ?_)
  refine lv_iload_n hx hb dX8_branch_6 rfl (lv_at hl 2 rfl) ?_
  refine lv_bipush (v := 21) hx hb dX8_branch_7 (by decide) ?_
  refine lv_ishl hx hb dX8_branch_9 ?_
  refine lv_bipush (v := 21) hx hb dX8_branch_10 (by decide) ?_
  refine lv_ishr hx hb dX8_branch_12 ?_
  refine lv_istore_n (lv' := [(3, .int ((v0 <<< ((21 : Int32) &&& 31)) >>> ((21 : Int32) &&& 31))), (2, .int (v0 &&& 2047)), (0, .ref (gA G 8)), (1, .int v0)]) hx hb dX8_branch_13 rfl hl (by decide) rfl (fun ls hl => ?_)
  refine lv_iload_n hx hb dX8_branch_14 rfl (lv_at hl 3 rfl) ?_
  refine lv_bipush (v := 11) hx hb dX8_branch_15 (by decide) ?_
  refine lv_iushr (v := iu v0 11) hx hb dX8_branch_17 rfl ?_
  by_cases h_4 : (iu v0 11) = 28
  · have hf := hf.trans (if_pos h_4)
    refine lv_tableIn (tgt := 48) hx hb dX8_branch_18 (by rw [h_4]; decide) (by rw [h_4]; decide) (by rw [h_4]; rfl) (by decide) ?_
    refine lv_aload_n hx hb dX8_branch_48 rfl (lv_at hl 2 rfl) ?_
    refine va_get (D := gD G) (ci := 6) hx hb hts ku_8 hown hK hP 8 rfl rfl 0 (by decide) (hts _ kw_97) (fun _ h9 => h9) rfl dX8_branch_49 ?_
    refine lv_aload_n hx hb dX8_branch_52 rfl (lv_at hl 2 rfl) ?_
    refine va_get (D := gD G) (ci := 6) hx hb hts ku_8 hown hK hP 8 rfl rfl 0 (by decide) (hts _ kw_97) (fun _ h9 => h9) rfl dX8_branch_53 ?_
    refine lv_bipush (v := 15) hx hb dX8_branch_56 (by decide) ?_
    refine kc_Vr (rest := [.ref (gA G 3)]) (cx_Registers_read l G σ 15 (by unfold vp_in; decide)) ⟨hx, hb, hml, hown, hts⟩ (cwV 1 hts (gi_V kw_358 kw_359 kw_360 kw_19 kw_361) rfl rfl rfl ⟨rfl, mdX6_read⟩ ⟨by decide, by decide⟩) (va_recv hK hP (ci := 4) (q0 := 3) rfl rfl) cZ_ok hK hP hD hS hA hZ rfl hl.1 rfl (Nat.le_of_ble_eq_true rfl) dX8_branch_58 ⟨Nat.zero_le _, Nat.zero_le _⟩ (fun H locs hP hD hS => ?_)
    refine lv_iconst (v := 2) hx hb dX8_branch_61 (by decide) ?_
    refine lv_iload_n hx hb dX8_branch_62 rfl (lv_at hl 0 rfl) ?_
    refine lv_imul hx hb dX8_branch_63 ?_
    refine lv_iadd hx hb dX8_branch_64 ?_
    refine kc_Vv (rest := []) (cx_Registers_jump l G σ ((x_Registers_read σ 15) + (2 * ((v0 <<< ((21 : Int32) &&& 31)) >>> ((21 : Int32) &&& 31))))) ⟨hx, hb, hml, hown, hts⟩ (cwV 1 hts (gi_V kw_566 kw_187 kw_188 kw_19 kw_189) rfl rfl rfl ⟨rfl, mdX6_jump⟩ ⟨by decide, by decide⟩) (va_recv hK hP (ci := 4) (q0 := 3) rfl rfl) cZ_ok hK hP hD hS hA hZ rfl hl.1 rfl (Nat.le_of_ble_eq_true rfl) dX8_branch_65 ⟨Nat.zero_le _, Nat.zero_le _⟩ (fun H locs hP hD hS => ?_)
    refine lv_iconst (v := (-1)) hx hb dX8_branch_68 (by decide) ?_
    exact hret (-1) (x_Registers_jump σ ((x_Registers_read σ 15) + (2 * ((v0 <<< ((21 : Int32) &&& 31)) >>> ((21 : Int32) &&& 31))))) _ _ _ _ hf hP hD hS dX8_branch_69
  have hf := hf.trans (if_neg h_4)
  by_cases h_5 : (iu v0 11) = 30
  · have hf := hf.trans (if_pos h_5)
    refine lv_tableIn (tgt := 70) hx hb dX8_branch_18 (by rw [h_5]; decide) (by rw [h_5]; decide) (by rw [h_5]; rfl) (by decide) ?_
    refine lv_aload_n hx hb dX8_branch_70 rfl (lv_at hl 2 rfl) ?_
    refine va_get (D := gD G) (ci := 6) hx hb hts ku_8 hown hK hP 8 rfl rfl 0 (by decide) (hts _ kw_97) (fun _ h9 => h9) rfl dX8_branch_71 ?_
    refine lv_bipush (v := 14) hx hb dX8_branch_74 (by decide) ?_
    refine lv_aload_n hx hb dX8_branch_76 rfl (lv_at hl 2 rfl) ?_
    refine va_get (D := gD G) (ci := 6) hx hb hts ku_8 hown hK hP 8 rfl rfl 0 (by decide) (hts _ kw_97) (fun _ h9 => h9) rfl dX8_branch_77 ?_
    refine lv_bipush (v := 15) hx hb dX8_branch_80 (by decide) ?_
    refine kc_Vr (rest := [.int 14, .ref (gA G 3)]) (cx_Registers_read l G σ 15 (by unfold vp_in; decide)) ⟨hx, hb, hml, hown, hts⟩ (cwV 1 hts (gi_V kw_358 kw_359 kw_360 kw_19 kw_361) rfl rfl rfl ⟨rfl, mdX6_read⟩ ⟨by decide, by decide⟩) (va_recv hK hP (ci := 4) (q0 := 3) rfl rfl) cZ_ok hK hP hD hS hA hZ rfl hl.1 rfl (Nat.le_of_ble_eq_true rfl) dX8_branch_82 ⟨Nat.zero_le _, Nat.zero_le _⟩ (fun H locs hP hD hS => ?_)
    refine lv_sipush (v := 4096) hx hb dX8_branch_85 (by decide) ?_
    refine lv_iload_n hx hb dX8_branch_88 rfl (lv_at hl 0 rfl) ?_
    refine lv_imul hx hb dX8_branch_89 ?_
    refine lv_iadd hx hb dX8_branch_90 ?_
    refine kc_Vv (rest := []) (cx_Registers_write l G σ 14 ((x_Registers_read σ 15) + (4096 * ((v0 <<< ((21 : Int32) &&& 31)) >>> ((21 : Int32) &&& 31)))) (by unfold vp_in; decide)) ⟨hx, hb, hml, hown, hts⟩ (cwV 2 hts (gi_V kw_441 kw_403 kw_404 kw_19 kw_405) rfl rfl rfl ⟨rfl, mdX6_write⟩ ⟨by decide, by decide⟩) (va_recv hK hP (ci := 4) (q0 := 3) rfl rfl) cZ_ok hK hP hD hS hA hZ rfl hl.1 rfl (Nat.le_of_ble_eq_true rfl) dX8_branch_91 ⟨Nat.zero_le _, Nat.zero_le _⟩ (fun H locs hP hD hS => ?_)
    refine lv_iconst (v := (-1)) hx hb dX8_branch_94 (by decide) ?_
    exact hret (-1) (x_Registers_write σ 14 ((x_Registers_read σ 15) + (4096 * ((v0 <<< ((21 : Int32) &&& 31)) >>> ((21 : Int32) &&& 31))))) _ _ _ _ hf hP hD hS dX8_branch_95
  have hf := hf.trans (if_neg h_5)
  by_cases h_6 : (iu v0 11) = 31
  · have hf := hf.trans (if_pos h_6)
    refine lv_tableIn (tgt := 96) hx hb dX8_branch_18 (by rw [h_6]; decide) (by rw [h_6]; decide) (by rw [h_6]; rfl) (by decide) ?_
    refine lv_aload_n hx hb dX8_branch_96 rfl (lv_at hl 2 rfl) ?_
    refine va_get (D := gD G) (ci := 6) hx hb hts ku_8 hown hK hP 8 rfl rfl 0 (by decide) (hts _ kw_97) (fun _ h9 => h9) rfl dX8_branch_97 ?_
    refine lv_aload_n hx hb dX8_branch_100 rfl (lv_at hl 2 rfl) ?_
    refine va_get (D := gD G) (ci := 6) hx hb hts ku_8 hown hK hP 8 rfl rfl 0 (by decide) (hts _ kw_97) (fun _ h9 => h9) rfl dX8_branch_101 ?_
    refine lv_bipush (v := 14) hx hb dX8_branch_104 (by decide) ?_
    refine kc_Vr (rest := [.ref (gA G 3)]) (cx_Registers_read l G σ 14 (by unfold vp_in; decide)) ⟨hx, hb, hml, hown, hts⟩ (cwV 1 hts (gi_V kw_358 kw_359 kw_360 kw_19 kw_361) rfl rfl rfl ⟨rfl, mdX6_read⟩ ⟨by decide, by decide⟩) (va_recv hK hP (ci := 4) (q0 := 3) rfl rfl) cZ_ok hK hP hD hS hA hZ rfl hl.1 rfl (Nat.le_of_ble_eq_true rfl) dX8_branch_106 ⟨Nat.zero_le _, Nat.zero_le _⟩ (fun H locs hP hD hS => ?_)
    refine lv_iconst (v := 2) hx hb dX8_branch_109 (by decide) ?_
    refine lv_iload_n hx hb dX8_branch_110 rfl (lv_at hl 1 rfl) ?_
    refine lv_imul hx hb dX8_branch_111 ?_
    refine lv_iadd hx hb dX8_branch_112 ?_
    refine kc_Vv (rest := []) (cx_Registers_jump l G σ ((x_Registers_read σ 14) + (2 * (v0 &&& 2047)))) ⟨hx, hb, hml, hown, hts⟩ (cwV 1 hts (gi_V kw_566 kw_187 kw_188 kw_19 kw_189) rfl rfl rfl ⟨rfl, mdX6_jump⟩ ⟨by decide, by decide⟩) (va_recv hK hP (ci := 4) (q0 := 3) rfl rfl) cZ_ok hK hP hD hS hA hZ rfl hl.1 rfl (Nat.le_of_ble_eq_true rfl) dX8_branch_113 ⟨Nat.zero_le _, Nat.zero_le _⟩ (fun H locs hP hD hS => ?_)
    refine lv_aload_n hx hb dX8_branch_116 rfl (lv_at hl 2 rfl) ?_
    refine va_get (D := gD G) (ci := 6) hx hb hts ku_8 hown hK hP 8 rfl rfl 0 (by decide) (hts _ kw_97) (fun _ h9 => h9) rfl dX8_branch_117 ?_
    refine lv_bipush (v := 14) hx hb dX8_branch_120 (by decide) ?_
    refine lv_aload_n hx hb dX8_branch_122 rfl (lv_at hl 2 rfl) ?_
    refine va_get (D := gD G) (ci := 6) hx hb hts ku_8 hown hK hP 8 rfl rfl 0 (by decide) (hts _ kw_97) (fun _ h9 => h9) rfl dX8_branch_123 ?_
    refine kc_Vr (rest := [.int 14, .ref (gA G 3)]) (cx_Registers_behind l G (x_Registers_jump σ ((x_Registers_read σ 14) + (2 * (v0 &&& 2047))))) ⟨hx, hb, hml, hown, hts⟩ (cwV 0 hts (gi_V kw_571 kw_317 kw_318 kw_19 kw_319) rfl rfl rfl ⟨rfl, mdX6_behind⟩ ⟨by decide, by decide⟩) (va_recv hK hP (ci := 4) (q0 := 3) rfl rfl) cZ_ok hK hP hD hS hA hZ rfl hl.1 rfl (Nat.le_of_ble_eq_true rfl) dX8_branch_126 ⟨Nat.zero_le _, Nat.zero_le _⟩ (fun H locs hP hD hS => ?_)
    refine lv_iconst (v := 1) hx hb dX8_branch_129 (by decide) ?_
    refine lv_ior hx hb dX8_branch_130 ?_
    refine kc_Vv (rest := []) (cx_Registers_write l G (x_Registers_jump σ ((x_Registers_read σ 14) + (2 * (v0 &&& 2047)))) 14 ((x_Registers_behind (x_Registers_jump σ ((x_Registers_read σ 14) + (2 * (v0 &&& 2047))))) ||| 1) (by unfold vp_in; decide)) ⟨hx, hb, hml, hown, hts⟩ (cwV 2 hts (gi_V kw_441 kw_403 kw_404 kw_19 kw_405) rfl rfl rfl ⟨rfl, mdX6_write⟩ ⟨by decide, by decide⟩) (va_recv hK hP (ci := 4) (q0 := 3) rfl rfl) cZ_ok hK hP hD hS hA hZ rfl hl.1 rfl (Nat.le_of_ble_eq_true rfl) dX8_branch_131 ⟨Nat.zero_le _, Nat.zero_le _⟩ (fun H locs hP hD hS => ?_)
    refine lv_iconst (v := (-1)) hx hb dX8_branch_134 (by decide) ?_
    exact hret (-1) (x_Registers_write (x_Registers_jump σ ((x_Registers_read σ 14) + (2 * (v0 &&& 2047)))) 14 ((x_Registers_behind (x_Registers_jump σ ((x_Registers_read σ 14) + (2 * (v0 &&& 2047))))) ||| 1)) _ _ _ _ hf hP hD hS dX8_branch_135
  have hf := hf.trans (if_neg h_6)
  refine ksw_dflt (tgt := 136) hx hb dX8_branch_18 [28, 30, 31] (ksw_c h_4 (ksw_c h_5 (ksw_c h_6 ksw_n))) (by decide) (by decide) ?_
  refine lv_iconst (v := 0) hx hb dX8_branch_136 (by decide) ?_
  exact hret 0 σ _ _ _ _ hf hP hD hS dX8_branch_137
def x_ThumbSet_perform_76 (σ : CS) (v0 : Int32) : Int32 × CS := (if (x_Bits_four v0 11) = 3 then (x_ThumbSet_addOrSubtract σ v0) else (x_ThumbSet_shiftByNumber σ v0))
def x_ThumbSet_perform (σ : CS) (v0 : Int32) : Int32 × CS := (if (iu v0 12) = 0 then x_ThumbSet_perform_76 σ v0 else (if (iu v0 12) = 1 then x_ThumbSet_perform_76 σ v0 else (if (iu v0 12) = 2 then (x_ThumbSet_withNumber σ v0) else (if (iu v0 12) = 3 then (x_ThumbSet_withNumber σ v0) else (if (iu v0 12) = 4 then (if (x_Bits_on v0 11) = true then (x_ThumbSet_loadBesidePc σ v0) else (if (x_Bits_on v0 10) = true then (x_ThumbSet_ofAllRegisters σ v0) else (x_ThumbSet_ofTwoRegisters σ v0))) else (if (iu v0 12) = 5 then (x_ThumbSet_byRegisterOffset σ v0) else (if (iu v0 12) = 6 then (x_ThumbSet_byNumberOffset σ v0) else (if (iu v0 12) = 7 then (x_ThumbSet_byNumberOffset σ v0) else (if (iu v0 12) = 8 then (x_ThumbSet_byNumberOffset σ v0) else (if (iu v0 12) = 9 then (x_ThumbSet_besideSp σ v0) else (if (iu v0 12) = 10 then (x_ThumbSet_addressOf σ v0) else (if (iu v0 12) = 11 then (x_ThumbSet_stack σ v0) else (if (iu v0 12) = 12 then (x_ThumbSet_many σ v0) else (if (iu v0 12) = 13 then (x_ThumbSet_branchByCondition σ v0) else (x_ThumbSet_branch σ v0)))))))))))))))
set_option maxRecDepth 20000 in
set_option maxHeartbeats 4000000 in
theorem cx_ThumbSet_perform (l : Launch) (G : KG) (σ : CS) (v0 : Int32) : KB l yX8_perform (Cond.code yX8_perform cX8_perform 2 (some .int) :: lw_all) (kr 5) (gD G) vwCl (gT G) (cZ G) (cW G) [.ref (gA G 8), .int v0] σ (x_ThumbSet_perform σ v0) := by
  refine kc_in_b (q := x_ThumbSet_perform σ v0) (by decide) rfl (Nat.le_of_ble_eq_true rfl) ?_
  intro p e s m args below meth c A Q ls hx hb hml hown hts hK hP hD hA hS hZ hl hret
  have hts := fun w h => hts w (List.mem_cons_of_mem _ h)
  have hl : lv_has ls 2 [(0, .ref (gA G 8)), (1, .int v0)] := hl
  have hf : x_ThumbSet_perform σ v0 = x_ThumbSet_perform σ v0 := rfl
  have J76 : ∀ (H : Heap) (locs : List Loc) (ls : Array Slot), va_P (gD G) vwCl (cW G (σ)) H → va_D A (cW G (σ)) → va_S A s.heap H locs → lv_has ls 2 [(0, .ref (gA G 8)), (1, .int v0)] → x_ThumbSet_perform σ v0 = x_ThumbSet_perform_76 σ v0 → W p l e (kr 5) s m args below meth c H locs 0 0 Q (F0 m 76 ls []) := by
    intro H locs ls hP hD hS hl hf
    refine lv_iload_n hx hb dX8_perform_76 rfl (lv_at hl 1 rfl) ?_
    refine lv_bipush (v := 11) hx hb dX8_perform_77 (by decide) ?_
    refine kp_Si (rest := []) (cx_Bits_four l v0 11) ⟨hx, hb, hml, hown, hts⟩ (va_cwS 2 hts (gi_S kw_344 kw_345 kw_346 kw_347) rfl rfl rfl mdX2_four ⟨by decide, by decide⟩) rfl hl.1 rfl (Nat.le_of_ble_eq_true rfl) dX8_perform_79 ⟨Nat.zero_le _, Nat.zero_le _⟩ ?_
    refine lv_iconst (v := 3) hx hb dX8_perform_82 (by decide) ?_
    refine lv_icmp_ne (tgt := 94) hx hb dX8_perform_83 (by decide) (fun h_18 => ?_) (fun h_18 => ?_)
    · have hf := hf.trans (if_neg h_18)
      refine lv_aload_n hx hb dX8_perform_94 rfl (lv_at hl 0 rfl) ?_
      refine lv_iload_n hx hb dX8_perform_95 rfl (lv_at hl 1 rfl) ?_
      refine kc_Vb (rest := []) (cx_ThumbSet_shiftByNumber l G σ v0) ⟨hx, hb, hml, hown, hts⟩ (cwV 1 hts (gi_V kw_408 kw_409 kw_410 kw_62 kw_411) rfl rfl rfl ⟨rfl, mdX8_shiftByNumber⟩ ⟨by decide, by decide⟩) (va_recv hK hP (ci := 6) (q0 := 8) rfl rfl) cZ_ok hK hP hD hS hA hZ rfl hl.1 rfl (Nat.le_of_ble_eq_true rfl) dX8_perform_96 ⟨Nat.zero_le _, Nat.zero_le _⟩ (fun H locs hP hD hS => ?_)
      exact hret ((x_ThumbSet_shiftByNumber σ v0).1) ((x_ThumbSet_shiftByNumber σ v0).2) _ _ _ _ hf hP hD hS dX8_perform_99
    · have hf := hf.trans (if_pos h_18)
      refine lv_aload_n hx hb dX8_perform_86 rfl (lv_at hl 0 rfl) ?_
      refine lv_iload_n hx hb dX8_perform_87 rfl (lv_at hl 1 rfl) ?_
      refine kc_Vb (rest := []) (cx_ThumbSet_addOrSubtract l G σ v0) ⟨hx, hb, hml, hown, hts⟩ (cwV 1 hts (gi_V kw_348 kw_349 kw_350 kw_62 kw_351) rfl rfl rfl ⟨rfl, mdX8_addOrSubtract⟩ ⟨by decide, by decide⟩) (va_recv hK hP (ci := 6) (q0 := 8) rfl rfl) cZ_ok hK hP hD hS hA hZ rfl hl.1 rfl (Nat.le_of_ble_eq_true rfl) dX8_perform_88 ⟨Nat.zero_le _, Nat.zero_le _⟩ (fun H locs hP hD hS => ?_)
      refine lv_goto (tgt := 99) hx hb dX8_perform_91 (by decide) ?_
      exact hret ((x_ThumbSet_addOrSubtract σ v0).1) ((x_ThumbSet_addOrSubtract σ v0).2) _ _ _ _ hf hP hD hS dX8_perform_99
  refine lv_iload_n hx hb dX8_perform_0 rfl (lv_at hl 1 rfl) ?_
  refine lv_bipush (v := 12) hx hb dX8_perform_1 (by decide) ?_
  refine lv_iushr (v := iu v0 12) hx hb dX8_perform_3 rfl ?_
  by_cases h_19 : (iu v0 12) = 0
  · have hf := hf.trans (if_pos h_19)
    refine lv_tableIn (tgt := 76) hx hb dX8_perform_4 (by rw [h_19]; decide) (by rw [h_19]; decide) (by rw [h_19]; rfl) (by decide) ?_
    exact J76 _ _ _ hP hD hS (lv_sub hl [0, 1] rfl) hf
  have hf := hf.trans (if_neg h_19)
  by_cases h_20 : (iu v0 12) = 1
  · have hf := hf.trans (if_pos h_20)
    refine lv_tableIn (tgt := 76) hx hb dX8_perform_4 (by rw [h_20]; decide) (by rw [h_20]; decide) (by rw [h_20]; rfl) (by decide) ?_
    exact J76 _ _ _ hP hD hS (lv_sub hl [0, 1] rfl) hf
  have hf := hf.trans (if_neg h_20)
  by_cases h_21 : (iu v0 12) = 2
  · have hf := hf.trans (if_pos h_21)
    refine lv_tableIn (tgt := 100) hx hb dX8_perform_4 (by rw [h_21]; decide) (by rw [h_21]; decide) (by rw [h_21]; rfl) (by decide) ?_
    refine lv_aload_n hx hb dX8_perform_100 rfl (lv_at hl 0 rfl) ?_
    refine lv_iload_n hx hb dX8_perform_101 rfl (lv_at hl 1 rfl) ?_
    refine kc_Vb (rest := []) (cx_ThumbSet_withNumber l G σ v0) ⟨hx, hb, hml, hown, hts⟩ (cwV 1 hts (gi_V kw_442 kw_443 kw_444 kw_62 kw_445) rfl rfl rfl ⟨rfl, mdX8_withNumber⟩ ⟨by decide, by decide⟩) (va_recv hK hP (ci := 6) (q0 := 8) rfl rfl) cZ_ok hK hP hD hS hA hZ rfl hl.1 rfl (Nat.le_of_ble_eq_true rfl) dX8_perform_102 ⟨Nat.zero_le _, Nat.zero_le _⟩ (fun H locs hP hD hS => ?_)
    exact hret ((x_ThumbSet_withNumber σ v0).1) ((x_ThumbSet_withNumber σ v0).2) _ _ _ _ hf hP hD hS dX8_perform_105
  have hf := hf.trans (if_neg h_21)
  by_cases h_22 : (iu v0 12) = 3
  · have hf := hf.trans (if_pos h_22)
    refine lv_tableIn (tgt := 100) hx hb dX8_perform_4 (by rw [h_22]; decide) (by rw [h_22]; decide) (by rw [h_22]; rfl) (by decide) ?_
    refine lv_aload_n hx hb dX8_perform_100 rfl (lv_at hl 0 rfl) ?_
    refine lv_iload_n hx hb dX8_perform_101 rfl (lv_at hl 1 rfl) ?_
    refine kc_Vb (rest := []) (cx_ThumbSet_withNumber l G σ v0) ⟨hx, hb, hml, hown, hts⟩ (cwV 1 hts (gi_V kw_442 kw_443 kw_444 kw_62 kw_445) rfl rfl rfl ⟨rfl, mdX8_withNumber⟩ ⟨by decide, by decide⟩) (va_recv hK hP (ci := 6) (q0 := 8) rfl rfl) cZ_ok hK hP hD hS hA hZ rfl hl.1 rfl (Nat.le_of_ble_eq_true rfl) dX8_perform_102 ⟨Nat.zero_le _, Nat.zero_le _⟩ (fun H locs hP hD hS => ?_)
    exact hret ((x_ThumbSet_withNumber σ v0).1) ((x_ThumbSet_withNumber σ v0).2) _ _ _ _ hf hP hD hS dX8_perform_105
  have hf := hf.trans (if_neg h_22)
  by_cases h_23 : (iu v0 12) = 4
  · have hf := hf.trans (if_pos h_23)
    refine lv_tableIn (tgt := 106) hx hb dX8_perform_4 (by rw [h_23]; decide) (by rw [h_23]; decide) (by rw [h_23]; rfl) (by decide) ?_
    refine lv_iload_n hx hb dX8_perform_106 rfl (lv_at hl 1 rfl) ?_
    refine lv_bipush (v := 11) hx hb dX8_perform_107 (by decide) ?_
    refine kp_Si (rest := []) (cx_Bits_on l v0 11) ⟨hx, hb, hml, hown, hts⟩ (va_cwS 2 hts (gi_S kw_355 kw_356 kw_346 kw_357) rfl rfl rfl mdX2_on ⟨by decide, by decide⟩) rfl hl.1 rfl (Nat.le_of_ble_eq_true rfl) dX8_perform_109 ⟨Nat.zero_le _, Nat.zero_le _⟩ ?_
    refine kz_eq (tgt := 121) hx hb dX8_perform_112 (by decide) (fun h_24 => ?_) (fun h_24 => ?_)
    · have hf := hf.trans (if_neg h_24)
      refine lv_iload_n hx hb dX8_perform_121 rfl (lv_at hl 1 rfl) ?_
      refine lv_bipush (v := 10) hx hb dX8_perform_122 (by decide) ?_
      refine kp_Si (rest := []) (cx_Bits_on l v0 10) ⟨hx, hb, hml, hown, hts⟩ (va_cwS 2 hts (gi_S kw_355 kw_356 kw_346 kw_357) rfl rfl rfl mdX2_on ⟨by decide, by decide⟩) rfl hl.1 rfl (Nat.le_of_ble_eq_true rfl) dX8_perform_124 ⟨Nat.zero_le _, Nat.zero_le _⟩ ?_
      refine kz_eq (tgt := 138) hx hb dX8_perform_127 (by decide) (fun h_25 => ?_) (fun h_25 => ?_)
      · have hf := hf.trans (if_neg h_25)
        refine lv_aload_n hx hb dX8_perform_138 rfl (lv_at hl 0 rfl) ?_
        refine lv_iload_n hx hb dX8_perform_139 rfl (lv_at hl 1 rfl) ?_
        refine kc_Vb (rest := []) (cx_ThumbSet_ofTwoRegisters l G σ v0) ⟨hx, hb, hml, hown, hts⟩ (cwV 1 hts (gi_V kw_479 kw_480 kw_481 kw_62 kw_482) rfl rfl rfl ⟨rfl, mdX8_ofTwoRegisters⟩ ⟨by decide, by decide⟩) (va_recv hK hP (ci := 6) (q0 := 8) rfl rfl) cZ_ok hK hP hD hS hA hZ rfl hl.1 rfl (Nat.le_of_ble_eq_true rfl) dX8_perform_140 ⟨Nat.zero_le _, Nat.zero_le _⟩ (fun H locs hP hD hS => ?_)
        exact hret ((x_ThumbSet_ofTwoRegisters σ v0).1) ((x_ThumbSet_ofTwoRegisters σ v0).2) _ _ _ _ hf hP hD hS dX8_perform_143
      · have hf := hf.trans (if_pos h_25)
        refine lv_aload_n hx hb dX8_perform_130 rfl (lv_at hl 0 rfl) ?_
        refine lv_iload_n hx hb dX8_perform_131 rfl (lv_at hl 1 rfl) ?_
        refine kc_Vb (rest := []) (cx_ThumbSet_ofAllRegisters l G σ v0) ⟨hx, hb, hml, hown, hts⟩ (cwV 1 hts (gi_V kw_471 kw_472 kw_473 kw_62 kw_474) rfl rfl rfl ⟨rfl, mdX8_ofAllRegisters⟩ ⟨by decide, by decide⟩) (va_recv hK hP (ci := 6) (q0 := 8) rfl rfl) cZ_ok hK hP hD hS hA hZ rfl hl.1 rfl (Nat.le_of_ble_eq_true rfl) dX8_perform_132 ⟨Nat.zero_le _, Nat.zero_le _⟩ (fun H locs hP hD hS => ?_)
        refine lv_goto (tgt := 143) hx hb dX8_perform_135 (by decide) ?_
        exact hret ((x_ThumbSet_ofAllRegisters σ v0).1) ((x_ThumbSet_ofAllRegisters σ v0).2) _ _ _ _ hf hP hD hS dX8_perform_143
    · have hf := hf.trans (if_pos h_24)
      refine lv_aload_n hx hb dX8_perform_115 rfl (lv_at hl 0 rfl) ?_
      refine lv_iload_n hx hb dX8_perform_116 rfl (lv_at hl 1 rfl) ?_
      refine kc_Vb (rest := []) (cx_ThumbSet_loadBesidePc l G σ v0) ⟨hx, hb, hml, hown, hts⟩ (cwV 1 hts (gi_V kw_446 kw_447 kw_448 kw_62 kw_449) rfl rfl rfl ⟨rfl, mdX8_loadBesidePc⟩ ⟨by decide, by decide⟩) (va_recv hK hP (ci := 6) (q0 := 8) rfl rfl) cZ_ok hK hP hD hS hA hZ rfl hl.1 rfl (Nat.le_of_ble_eq_true rfl) dX8_perform_117 ⟨Nat.zero_le _, Nat.zero_le _⟩ (fun H locs hP hD hS => ?_)
      exact hret ((x_ThumbSet_loadBesidePc σ v0).1) ((x_ThumbSet_loadBesidePc σ v0).2) _ _ _ _ hf hP hD hS dX8_perform_120
  have hf := hf.trans (if_neg h_23)
  by_cases h_26 : (iu v0 12) = 5
  · have hf := hf.trans (if_pos h_26)
    refine lv_tableIn (tgt := 144) hx hb dX8_perform_4 (by rw [h_26]; decide) (by rw [h_26]; decide) (by rw [h_26]; rfl) (by decide) ?_
    refine lv_aload_n hx hb dX8_perform_144 rfl (lv_at hl 0 rfl) ?_
    refine lv_iload_n hx hb dX8_perform_145 rfl (lv_at hl 1 rfl) ?_
    refine kc_Vb (rest := []) (cx_ThumbSet_byRegisterOffset l G σ v0) ⟨hx, hb, hml, hown, hts⟩ (cwV 1 hts (gi_V kw_488 kw_489 kw_490 kw_62 kw_491) rfl rfl rfl ⟨rfl, mdX8_byRegisterOffset⟩ ⟨by decide, by decide⟩) (va_recv hK hP (ci := 6) (q0 := 8) rfl rfl) cZ_ok hK hP hD hS hA hZ rfl hl.1 rfl (Nat.le_of_ble_eq_true rfl) dX8_perform_146 ⟨Nat.zero_le _, Nat.zero_le _⟩ (fun H locs hP hD hS => ?_)
    exact hret ((x_ThumbSet_byRegisterOffset σ v0).1) ((x_ThumbSet_byRegisterOffset σ v0).2) _ _ _ _ hf hP hD hS dX8_perform_149
  have hf := hf.trans (if_neg h_26)
  by_cases h_27 : (iu v0 12) = 6
  · have hf := hf.trans (if_pos h_27)
    refine lv_tableIn (tgt := 150) hx hb dX8_perform_4 (by rw [h_27]; decide) (by rw [h_27]; decide) (by rw [h_27]; rfl) (by decide) ?_
    refine lv_aload_n hx hb dX8_perform_150 rfl (lv_at hl 0 rfl) ?_
    refine lv_iload_n hx hb dX8_perform_151 rfl (lv_at hl 1 rfl) ?_
    refine kc_Vb (rest := []) (cx_ThumbSet_byNumberOffset l G σ v0) ⟨hx, hb, hml, hown, hts⟩ (cwV 1 hts (gi_V kw_493 kw_494 kw_495 kw_62 kw_496) rfl rfl rfl ⟨rfl, mdX8_byNumberOffset⟩ ⟨by decide, by decide⟩) (va_recv hK hP (ci := 6) (q0 := 8) rfl rfl) cZ_ok hK hP hD hS hA hZ rfl hl.1 rfl (Nat.le_of_ble_eq_true rfl) dX8_perform_152 ⟨Nat.zero_le _, Nat.zero_le _⟩ (fun H locs hP hD hS => ?_)
    exact hret ((x_ThumbSet_byNumberOffset σ v0).1) ((x_ThumbSet_byNumberOffset σ v0).2) _ _ _ _ hf hP hD hS dX8_perform_155
  have hf := hf.trans (if_neg h_27)
  by_cases h_28 : (iu v0 12) = 7
  · have hf := hf.trans (if_pos h_28)
    refine lv_tableIn (tgt := 150) hx hb dX8_perform_4 (by rw [h_28]; decide) (by rw [h_28]; decide) (by rw [h_28]; rfl) (by decide) ?_
    refine lv_aload_n hx hb dX8_perform_150 rfl (lv_at hl 0 rfl) ?_
    refine lv_iload_n hx hb dX8_perform_151 rfl (lv_at hl 1 rfl) ?_
    refine kc_Vb (rest := []) (cx_ThumbSet_byNumberOffset l G σ v0) ⟨hx, hb, hml, hown, hts⟩ (cwV 1 hts (gi_V kw_493 kw_494 kw_495 kw_62 kw_496) rfl rfl rfl ⟨rfl, mdX8_byNumberOffset⟩ ⟨by decide, by decide⟩) (va_recv hK hP (ci := 6) (q0 := 8) rfl rfl) cZ_ok hK hP hD hS hA hZ rfl hl.1 rfl (Nat.le_of_ble_eq_true rfl) dX8_perform_152 ⟨Nat.zero_le _, Nat.zero_le _⟩ (fun H locs hP hD hS => ?_)
    exact hret ((x_ThumbSet_byNumberOffset σ v0).1) ((x_ThumbSet_byNumberOffset σ v0).2) _ _ _ _ hf hP hD hS dX8_perform_155
  have hf := hf.trans (if_neg h_28)
  by_cases h_29 : (iu v0 12) = 8
  · have hf := hf.trans (if_pos h_29)
    refine lv_tableIn (tgt := 150) hx hb dX8_perform_4 (by rw [h_29]; decide) (by rw [h_29]; decide) (by rw [h_29]; rfl) (by decide) ?_
    refine lv_aload_n hx hb dX8_perform_150 rfl (lv_at hl 0 rfl) ?_
    refine lv_iload_n hx hb dX8_perform_151 rfl (lv_at hl 1 rfl) ?_
    refine kc_Vb (rest := []) (cx_ThumbSet_byNumberOffset l G σ v0) ⟨hx, hb, hml, hown, hts⟩ (cwV 1 hts (gi_V kw_493 kw_494 kw_495 kw_62 kw_496) rfl rfl rfl ⟨rfl, mdX8_byNumberOffset⟩ ⟨by decide, by decide⟩) (va_recv hK hP (ci := 6) (q0 := 8) rfl rfl) cZ_ok hK hP hD hS hA hZ rfl hl.1 rfl (Nat.le_of_ble_eq_true rfl) dX8_perform_152 ⟨Nat.zero_le _, Nat.zero_le _⟩ (fun H locs hP hD hS => ?_)
    exact hret ((x_ThumbSet_byNumberOffset σ v0).1) ((x_ThumbSet_byNumberOffset σ v0).2) _ _ _ _ hf hP hD hS dX8_perform_155
  have hf := hf.trans (if_neg h_29)
  by_cases h_30 : (iu v0 12) = 9
  · have hf := hf.trans (if_pos h_30)
    refine lv_tableIn (tgt := 156) hx hb dX8_perform_4 (by rw [h_30]; decide) (by rw [h_30]; decide) (by rw [h_30]; rfl) (by decide) ?_
    refine lv_aload_n hx hb dX8_perform_156 rfl (lv_at hl 0 rfl) ?_
    refine lv_iload_n hx hb dX8_perform_157 rfl (lv_at hl 1 rfl) ?_
    refine kc_Vb (rest := []) (cx_ThumbSet_besideSp l G σ v0) ⟨hx, hb, hml, hown, hts⟩ (cwV 1 hts (gi_V kw_497 kw_498 kw_499 kw_62 kw_500) rfl rfl rfl ⟨rfl, mdX8_besideSp⟩ ⟨by decide, by decide⟩) (va_recv hK hP (ci := 6) (q0 := 8) rfl rfl) cZ_ok hK hP hD hS hA hZ rfl hl.1 rfl (Nat.le_of_ble_eq_true rfl) dX8_perform_158 ⟨Nat.zero_le _, Nat.zero_le _⟩ (fun H locs hP hD hS => ?_)
    exact hret ((x_ThumbSet_besideSp σ v0).1) ((x_ThumbSet_besideSp σ v0).2) _ _ _ _ hf hP hD hS dX8_perform_161
  have hf := hf.trans (if_neg h_30)
  by_cases h_31 : (iu v0 12) = 10
  · have hf := hf.trans (if_pos h_31)
    refine lv_tableIn (tgt := 162) hx hb dX8_perform_4 (by rw [h_31]; decide) (by rw [h_31]; decide) (by rw [h_31]; rfl) (by decide) ?_
    refine lv_aload_n hx hb dX8_perform_162 rfl (lv_at hl 0 rfl) ?_
    refine lv_iload_n hx hb dX8_perform_163 rfl (lv_at hl 1 rfl) ?_
    refine kc_Vb (rest := []) (cx_ThumbSet_addressOf l G σ v0) ⟨hx, hb, hml, hown, hts⟩ (cwV 1 hts (gi_V kw_501 kw_502 kw_503 kw_62 kw_504) rfl rfl rfl ⟨rfl, mdX8_addressOf⟩ ⟨by decide, by decide⟩) (va_recv hK hP (ci := 6) (q0 := 8) rfl rfl) cZ_ok hK hP hD hS hA hZ rfl hl.1 rfl (Nat.le_of_ble_eq_true rfl) dX8_perform_164 ⟨Nat.zero_le _, Nat.zero_le _⟩ (fun H locs hP hD hS => ?_)
    exact hret ((x_ThumbSet_addressOf σ v0).1) ((x_ThumbSet_addressOf σ v0).2) _ _ _ _ hf hP hD hS dX8_perform_167
  have hf := hf.trans (if_neg h_31)
  by_cases h_32 : (iu v0 12) = 11
  · have hf := hf.trans (if_pos h_32)
    refine lv_tableIn (tgt := 168) hx hb dX8_perform_4 (by rw [h_32]; decide) (by rw [h_32]; decide) (by rw [h_32]; rfl) (by decide) ?_
    refine lv_aload_n hx hb dX8_perform_168 rfl (lv_at hl 0 rfl) ?_
    refine lv_iload_n hx hb dX8_perform_169 rfl (lv_at hl 1 rfl) ?_
    refine kc_Vb (rest := []) (cx_ThumbSet_stack l G σ v0) ⟨hx, hb, hml, hown, hts⟩ (cwV 1 hts (gi_V kw_505 kw_506 kw_507 kw_62 kw_508) rfl rfl rfl ⟨rfl, mdX8_stack⟩ ⟨by decide, by decide⟩) (va_recv hK hP (ci := 6) (q0 := 8) rfl rfl) cZ_ok hK hP hD hS hA hZ rfl hl.1 rfl (Nat.le_of_ble_eq_true rfl) dX8_perform_170 ⟨Nat.zero_le _, Nat.zero_le _⟩ (fun H locs hP hD hS => ?_)
    exact hret ((x_ThumbSet_stack σ v0).1) ((x_ThumbSet_stack σ v0).2) _ _ _ _ hf hP hD hS dX8_perform_173
  have hf := hf.trans (if_neg h_32)
  by_cases h_33 : (iu v0 12) = 12
  · have hf := hf.trans (if_pos h_33)
    refine lv_tableIn (tgt := 174) hx hb dX8_perform_4 (by rw [h_33]; decide) (by rw [h_33]; decide) (by rw [h_33]; rfl) (by decide) ?_
    refine lv_aload_n hx hb dX8_perform_174 rfl (lv_at hl 0 rfl) ?_
    refine lv_iload_n hx hb dX8_perform_175 rfl (lv_at hl 1 rfl) ?_
    refine kc_Vb (rest := []) (cx_ThumbSet_many l G σ v0) ⟨hx, hb, hml, hown, hts⟩ (cwV 1 hts (gi_V kw_551 kw_552 kw_553 kw_62 kw_554) rfl rfl rfl ⟨rfl, mdX8_many⟩ ⟨by decide, by decide⟩) (va_recv hK hP (ci := 6) (q0 := 8) rfl rfl) cZ_ok hK hP hD hS hA hZ rfl hl.1 rfl (Nat.le_of_ble_eq_true rfl) dX8_perform_176 ⟨Nat.zero_le _, Nat.zero_le _⟩ (fun H locs hP hD hS => ?_)
    exact hret ((x_ThumbSet_many σ v0).1) ((x_ThumbSet_many σ v0).2) _ _ _ _ hf hP hD hS dX8_perform_179
  have hf := hf.trans (if_neg h_33)
  by_cases h_34 : (iu v0 12) = 13
  · have hf := hf.trans (if_pos h_34)
    refine lv_tableIn (tgt := 180) hx hb dX8_perform_4 (by rw [h_34]; decide) (by rw [h_34]; decide) (by rw [h_34]; rfl) (by decide) ?_
    refine lv_aload_n hx hb dX8_perform_180 rfl (lv_at hl 0 rfl) ?_
    refine lv_iload_n hx hb dX8_perform_181 rfl (lv_at hl 1 rfl) ?_
    refine kc_Vb (rest := []) (cx_ThumbSet_branchByCondition l G σ v0) ⟨hx, hb, hml, hown, hts⟩ (cwV 1 hts (gi_V kw_557 kw_558 kw_559 kw_62 kw_560) rfl rfl rfl ⟨rfl, mdX8_branchByCondition⟩ ⟨by decide, by decide⟩) (va_recv hK hP (ci := 6) (q0 := 8) rfl rfl) cZ_ok hK hP hD hS hA hZ rfl hl.1 rfl (Nat.le_of_ble_eq_true rfl) dX8_perform_182 ⟨Nat.zero_le _, Nat.zero_le _⟩ (fun H locs hP hD hS => ?_)
    exact hret ((x_ThumbSet_branchByCondition σ v0).1) ((x_ThumbSet_branchByCondition σ v0).2) _ _ _ _ hf hP hD hS dX8_perform_185
  have hf := hf.trans (if_neg h_34)
  refine ksw_dflt (tgt := 186) hx hb dX8_perform_4 [0, 1, 2, 3, 4, 5, 6, 7, 8, 9, 10, 11, 12, 13] (ksw_c h_19 (ksw_c h_20 (ksw_c h_21 (ksw_c h_22 (ksw_c h_23 (ksw_c h_26 (ksw_c h_27 (ksw_c h_28 (ksw_c h_29 (ksw_c h_30 (ksw_c h_31 (ksw_c h_32 (ksw_c h_33 (ksw_c h_34 ksw_n)))))))))))))) (by decide) (by decide) ?_
  refine lv_aload_n hx hb dX8_perform_186 rfl (lv_at hl 0 rfl) ?_
  refine lv_iload_n hx hb dX8_perform_187 rfl (lv_at hl 1 rfl) ?_
  refine kc_Vb (rest := []) (cx_ThumbSet_branch l G σ v0) ⟨hx, hb, hml, hown, hts⟩ (cwV 1 hts (gi_V kw_567 kw_568 kw_569 kw_62 kw_570) rfl rfl rfl ⟨rfl, mdX8_branch⟩ ⟨by decide, by decide⟩) (va_recv hK hP (ci := 6) (q0 := 8) rfl rfl) cZ_ok hK hP hD hS hA hZ rfl hl.1 rfl (Nat.le_of_ble_eq_true rfl) dX8_perform_188 ⟨Nat.zero_le _, Nat.zero_le _⟩ (fun H locs hP hD hS => ?_)
  exact hret ((x_ThumbSet_branch σ v0).1) ((x_ThumbSet_branch σ v0).2) _ _ _ _ hf hP hD hS dX8_perform_191
def x_Processor_switchIrq (σ : CS) (v0 : Bool) : Bool × CS := (c_irq σ, s_irq σ v0)
set_option maxRecDepth 20000 in
set_option maxHeartbeats 4000000 in
theorem cx_Processor_switchIrq (l : Launch) (G : KG) (σ : CS) (v0 : Bool) : KB l yX5_switchIrq (Cond.code yX5_switchIrq cX5_switchIrq 3 (some .boolean) :: lw_all) (kr 0) (gD G) vwCl (gT G) (cZ G) (cW G) [.ref (gA G 6), .int (b01 v0)] σ (b01 (x_Processor_switchIrq σ v0).1, (x_Processor_switchIrq σ v0).2) := by
  refine kc_in_z (q := x_Processor_switchIrq σ v0) (by decide) rfl (Nat.le_of_ble_eq_true rfl) ?_
  intro p e s m args below meth c A Q ls hx hb hml hown hts hK hP hD hA hS hZ hl hret
  have hts := fun w h => hts w (List.mem_cons_of_mem _ h)
  have hl : lv_has ls 3 [(0, .ref (gA G 6)), (1, .int (b01 v0))] := hl
  have hf : x_Processor_switchIrq σ v0 = x_Processor_switchIrq σ v0 := rfl
  refine lv_aload_n hx hb dX5_switchIrq_0 rfl (lv_at hl 0 rfl) ?_
  refine va_get (D := gD G) (ci := 3) hx hb hts ku_5 hown hK hP 6 rfl rfl 6 (by decide) (hts _ kw_66) (fun _ h9 => h9) rfl dX5_switchIrq_1 ?_
  refine lv_istore_n (lv' := [(2, .int (b01 (c_irq σ))), (0, .ref (gA G 6)), (1, .int (b01 v0))]) hx hb dX5_switchIrq_4 rfl hl (by decide) rfl (fun ls hl => ?_)
  refine lv_aload_n hx hb dX5_switchIrq_5 rfl (lv_at hl 1 rfl) ?_
  refine lv_iload_n hx hb dX5_switchIrq_6 rfl (lv_at hl 2 rfl) ?_
  refine va_put (D := gD G) (ci := 3) (v := .int (b01 v0)) (ty := .boolean) hx hb hts ku_5 tyX5 tyX5_ok nmX5 hown hK hP hD hS 6 rfl rfl 6 (by decide) (hts _ kw_66) (fun _ h9 => h9) rfl (tyX5_ok 6 (by decide)) (b01_nar _) (b01_fit _) (Nat.le_of_ble_eq_true rfl) dX5_switchIrq_7 (fun H locs hP hD hS => ?_)
  have hP := kP_eq (cWs_irq G σ v0) hP
  have hD := kD_eq (cWs_irq G σ v0) hD
  refine lv_iload_n hx hb dX5_switchIrq_10 rfl (lv_at hl 0 rfl) ?_
  exact hret (c_irq σ) (s_irq σ v0) _ _ _ _ hf hP hD hS dX5_switchIrq_11
def x_Processor_switchFiq (σ : CS) (v0 : Bool) : Bool × CS := (c_fiq σ, s_fiq σ v0)
set_option maxRecDepth 20000 in
set_option maxHeartbeats 4000000 in
theorem cx_Processor_switchFiq (l : Launch) (G : KG) (σ : CS) (v0 : Bool) : KB l yX5_switchFiq (Cond.code yX5_switchFiq cX5_switchFiq 3 (some .boolean) :: lw_all) (kr 0) (gD G) vwCl (gT G) (cZ G) (cW G) [.ref (gA G 6), .int (b01 v0)] σ (b01 (x_Processor_switchFiq σ v0).1, (x_Processor_switchFiq σ v0).2) := by
  refine kc_in_z (q := x_Processor_switchFiq σ v0) (by decide) rfl (Nat.le_of_ble_eq_true rfl) ?_
  intro p e s m args below meth c A Q ls hx hb hml hown hts hK hP hD hA hS hZ hl hret
  have hts := fun w h => hts w (List.mem_cons_of_mem _ h)
  have hl : lv_has ls 3 [(0, .ref (gA G 6)), (1, .int (b01 v0))] := hl
  have hf : x_Processor_switchFiq σ v0 = x_Processor_switchFiq σ v0 := rfl
  refine lv_aload_n hx hb dX5_switchFiq_0 rfl (lv_at hl 0 rfl) ?_
  refine va_get (D := gD G) (ci := 3) hx hb hts ku_5 hown hK hP 6 rfl rfl 7 (by decide) (hts _ kw_67) (fun _ h9 => h9) rfl dX5_switchFiq_1 ?_
  refine lv_istore_n (lv' := [(2, .int (b01 (c_fiq σ))), (0, .ref (gA G 6)), (1, .int (b01 v0))]) hx hb dX5_switchFiq_4 rfl hl (by decide) rfl (fun ls hl => ?_)
  refine lv_aload_n hx hb dX5_switchFiq_5 rfl (lv_at hl 1 rfl) ?_
  refine lv_iload_n hx hb dX5_switchFiq_6 rfl (lv_at hl 2 rfl) ?_
  refine va_put (D := gD G) (ci := 3) (v := .int (b01 v0)) (ty := .boolean) hx hb hts ku_5 tyX5 tyX5_ok nmX5 hown hK hP hD hS 6 rfl rfl 7 (by decide) (hts _ kw_67) (fun _ h9 => h9) rfl (tyX5_ok 7 (by decide)) (b01_nar _) (b01_fit _) (Nat.le_of_ble_eq_true rfl) dX5_switchFiq_7 (fun H locs hP hD hS => ?_)
  have hP := kP_eq (cWs_fiq G σ v0) hP
  have hD := kD_eq (cWs_fiq G σ v0) hD
  refine lv_iload_n hx hb dX5_switchFiq_10 rfl (lv_at hl 0 rfl) ?_
  exact hret (c_fiq σ) (s_fiq σ v0) _ _ _ _ hf hP hD hS dX5_switchFiq_11
def x_Processor_steps (σ : CS) : Int32 := c_steps σ
set_option maxRecDepth 20000 in
set_option maxHeartbeats 4000000 in
theorem cx_Processor_steps (l : Launch) (G : KG) (σ : CS) : KB l yX5_steps (Cond.code yX5_steps cX5_steps 1 (some .int) :: lw_all) (kr 0) (gD G) vwCl (gT G) (cZ G) (cW G) [.ref (gA G 6)] σ (x_Processor_steps σ, σ) := by
  refine kc_in_r (q := x_Processor_steps σ) (by decide) rfl (Nat.le_of_ble_eq_true rfl) ?_
  intro p e s m args below meth c A Q ls hx hb hml hown hts hK hP hD hA hS hZ hl hret
  have hts := fun w h => hts w (List.mem_cons_of_mem _ h)
  have hl : lv_has ls 1 [(0, .ref (gA G 6))] := hl
  have hf : x_Processor_steps σ = x_Processor_steps σ := rfl
  refine lv_aload_n hx hb dX5_steps_0 rfl (lv_at hl 0 rfl) ?_
  refine va_get (D := gD G) (ci := 3) hx hb hts ku_5 hown hK hP 6 rfl rfl 5 (by decide) (hts _ kw_65) (fun _ h9 => h9) rfl dX5_steps_1 ?_
  exact hret (c_steps σ) _ _ _ _ hf hP hD hS dX5_steps_4
def x_Processor_faultsOf (σ : CS) (v0 : Int32) : Int32 := (if (x_Fault_isKind v0) = true then c_faults σ v0.toNatClampNeg else 0)
set_option maxRecDepth 20000 in
set_option maxHeartbeats 4000000 in
theorem cx_Processor_faultsOf (l : Launch) (G : KG) (σ : CS) (v0 : Int32) : KB l yX5_faultsOf (Cond.code yX5_faultsOf cX5_faultsOf 2 (some .int) :: lw_all) (kr 1) (gD G) vwCl (gT G) (cZ G) (cW G) [.ref (gA G 6), .int v0] σ (x_Processor_faultsOf σ v0, σ) := by
  refine kc_in_r (q := x_Processor_faultsOf σ v0) (by decide) rfl (Nat.le_of_ble_eq_true rfl) ?_
  intro p e s m args below meth c A Q ls hx hb hml hown hts hK hP hD hA hS hZ hl hret
  have hts := fun w h => hts w (List.mem_cons_of_mem _ h)
  have hl : lv_has ls 2 [(0, .ref (gA G 6)), (1, .int v0)] := hl
  have hf : x_Processor_faultsOf σ v0 = x_Processor_faultsOf σ v0 := rfl
  refine lv_iload_n hx hb dX5_faultsOf_0 rfl (lv_at hl 1 rfl) ?_
  refine kp_Si (rest := []) (cx_Fault_isKind l v0) ⟨hx, hb, hml, hown, hts⟩ (va_cwS 1 hts (gi_S kw_694 kw_695 kw_696 kw_697) rfl rfl rfl mdX3_isKind ⟨by decide, by decide⟩) rfl hl.1 rfl (Nat.le_of_ble_eq_true rfl) dX5_faultsOf_1 ⟨Nat.zero_le _, Nat.zero_le _⟩ ?_
  refine kz_eq (tgt := 16) hx hb dX5_faultsOf_4 (by decide) (fun h_2 => ?_) (fun h_2 => ?_)
  · have hf := hf.trans (if_neg h_2)
    refine lv_iconst (v := 0) hx hb dX5_faultsOf_16 (by decide) ?_
    exact hret 0 _ _ _ _ hf hP hD hS dX5_faultsOf_17
  · have hf := hf.trans (if_pos h_2)
    refine lv_aload_n hx hb dX5_faultsOf_7 rfl (lv_at hl 0 rfl) ?_
    refine va_get (D := gD G) (ci := 3) hx hb hts ku_5 hown hK hP 6 rfl rfl 4 (by decide) (hts _ kw_64) (fun _ h9 => h9) rfl dX5_faultsOf_8 ?_
    refine lv_iload_n hx hb dX5_faultsOf_11 rfl (lv_at hl 1 rfl) ?_
    refine va_iald hx hb hK hP 9 0 rfl rfl (fk_in (by assumption)) dX5_faultsOf_12 ?_
    refine lv_goto (tgt := 17) hx hb dX5_faultsOf_13 (by decide) ?_
    exact hret (c_faults σ v0.toNatClampNeg) _ _ _ _ hf hP hD hS dX5_faultsOf_17
def x_Processor_advance_55 (σ : CS) : Int32 × CS := (if (x_Memory_holds (x_Registers_begin (s_steps σ ((c_steps σ) + 1))) (x_Registers_here (x_Registers_begin (s_steps σ ((c_steps σ) + 1))))) = true then (if (x_Registers_thumb (x_Registers_begin (s_steps σ ((c_steps σ) + 1)))) = true then (x_ThumbSet_perform (x_Registers_begin (s_steps σ ((c_steps σ) + 1))) (x_Memory_half (x_Registers_begin (s_steps σ ((c_steps σ) + 1))) (x_Registers_here (x_Registers_begin (s_steps σ ((c_steps σ) + 1)))))) else (x_ArmSet_perform (x_Registers_begin (s_steps σ ((c_steps σ) + 1))) (x_Memory_word (x_Registers_begin (s_steps σ ((c_steps σ) + 1))) (x_Registers_here (x_Registers_begin (s_steps σ ((c_steps σ) + 1))))))) else (2, x_Registers_begin (s_steps σ ((c_steps σ) + 1))))
def x_Processor_advance_36 (σ : CS) : Int32 × CS := (if (c_irq (x_Registers_begin (s_steps σ ((c_steps σ) + 1)))) = true then (if (x_Registers_irqAllowed (x_Registers_begin (s_steps σ ((c_steps σ) + 1)))) = true then (4, x_Registers_begin (s_steps σ ((c_steps σ) + 1))) else x_Processor_advance_55 σ) else x_Processor_advance_55 σ)
def x_Processor_advance (σ : CS) : Int32 × CS := (if (c_fiq (x_Registers_begin (s_steps σ ((c_steps σ) + 1)))) = true then (if (x_Registers_fiqAllowed (x_Registers_begin (s_steps σ ((c_steps σ) + 1)))) = true then (5, x_Registers_begin (s_steps σ ((c_steps σ) + 1))) else x_Processor_advance_36 σ) else x_Processor_advance_36 σ)
set_option maxRecDepth 20000 in
set_option maxHeartbeats 4000000 in
theorem cx_Processor_advance (l : Launch) (G : KG) (σ : CS) : KB l yX5_advance (Cond.code yX5_advance cX5_advance 2 (some .int) :: lw_all) (kr 6) (gD G) vwCl (gT G) (cZ G) (cW G) [.ref (gA G 6)] σ (x_Processor_advance σ) := by
  refine kc_in_b (q := x_Processor_advance σ) (by decide) rfl (Nat.le_of_ble_eq_true rfl) ?_
  intro p e s m args below meth c A Q ls hx hb hml hown hts hK hP hD hA hS hZ hl hret
  have hts := fun w h => hts w (List.mem_cons_of_mem _ h)
  have hl : lv_has ls 2 [(0, .ref (gA G 6))] := hl
  have hf : x_Processor_advance σ = x_Processor_advance σ := rfl
  have J55 : ∀ (H : Heap) (locs : List Loc) (ls : Array Slot), va_P (gD G) vwCl (cW G (x_Registers_begin (s_steps σ ((c_steps σ) + 1)))) H → va_D A (cW G (x_Registers_begin (s_steps σ ((c_steps σ) + 1)))) → va_S A s.heap H locs → lv_has ls 2 [(0, .ref (gA G 6))] → x_Processor_advance σ = x_Processor_advance_55 σ → W p l e (kr 6) s m args below meth c H locs 0 0 Q (F0 m 55 ls []) := by
    intro H locs ls hP hD hS hl hf
    refine lv_aload_n hx hb dX5_advance_55 rfl (lv_at hl 0 rfl) ?_
    refine va_get (D := gD G) (ci := 3) hx hb hts ku_5 hown hK hP 6 rfl rfl 1 (by decide) (hts _ kw_46) (fun _ h9 => h9) rfl dX5_advance_56 ?_
    refine kc_Vr (rest := []) (cx_Registers_here l G (x_Registers_begin (s_steps σ ((c_steps σ) + 1)))) ⟨hx, hb, hml, hown, hts⟩ (cwV 0 hts (gi_V kw_328 kw_329 kw_330 kw_19 kw_331) rfl rfl rfl ⟨rfl, mdX6_here⟩ ⟨by decide, by decide⟩) (va_recv hK hP (ci := 4) (q0 := 3) rfl rfl) cZ_ok hK hP hD hS hA hZ rfl hl.1 rfl (Nat.le_of_ble_eq_true rfl) dX5_advance_59 ⟨Nat.zero_le _, Nat.zero_le _⟩ (fun H locs hP hD hS => ?_)
    refine lv_istore_n (lv' := [(1, .int (x_Registers_here (x_Registers_begin (s_steps σ ((c_steps σ) + 1))))), (0, .ref (gA G 6))]) hx hb dX5_advance_62 rfl hl (by decide) rfl (fun ls hl => ?_)
    refine lv_aload_n hx hb dX5_advance_63 rfl (lv_at hl 1 rfl) ?_
    refine va_get (D := gD G) (ci := 3) hx hb hts ku_5 hown hK hP 6 rfl rfl 0 (by decide) (hts _ kw_45) (fun _ h9 => h9) rfl dX5_advance_64 ?_
    refine lv_iload_n hx hb dX5_advance_67 rfl (lv_at hl 0 rfl) ?_
    refine kc_Vr (rest := []) (cx_Memory_holds l G (x_Registers_begin (s_steps σ ((c_steps σ) + 1))) (x_Registers_here (x_Registers_begin (s_steps σ ((c_steps σ) + 1))))) ⟨hx, hb, hml, hown, hts⟩ (cwV 1 hts (gi_V kw_332 kw_132 kw_133 kw_15 kw_134) rfl rfl rfl ⟨rfl, mdX4_holds⟩ ⟨by decide, by decide⟩) (va_recv hK hP (ci := 2) (q0 := 1) rfl rfl) cZ_ok hK hP hD hS hA hZ rfl hl.1 rfl (Nat.le_of_ble_eq_true rfl) dX5_advance_68 ⟨Nat.zero_le _, Nat.zero_le _⟩ (fun H locs hP hD hS => ?_)
    refine kz_ne (tgt := 76) hx hb dX5_advance_71 (by decide) (fun h_7 => ?_) (fun h_7 => ?_)
    · have hf := hf.trans (if_pos h_7)
      refine lv_aload_n hx hb dX5_advance_76 rfl (lv_at hl 1 rfl) ?_
      refine va_get (D := gD G) (ci := 3) hx hb hts ku_5 hown hK hP 6 rfl rfl 1 (by decide) (hts _ kw_46) (fun _ h9 => h9) rfl dX5_advance_77 ?_
      refine kc_Vr (rest := []) (cx_Registers_thumb l G (x_Registers_begin (s_steps σ ((c_steps σ) + 1)))) ⟨hx, hb, hml, hown, hts⟩ (cwV 0 hts (gi_V kw_333 kw_191 kw_192 kw_19 kw_193) rfl rfl rfl ⟨rfl, mdX6_thumb⟩ ⟨by decide, by decide⟩) (va_recv hK hP (ci := 4) (q0 := 3) rfl rfl) cZ_ok hK hP hD hS hA hZ rfl hl.1 rfl (Nat.le_of_ble_eq_true rfl) dX5_advance_80 ⟨Nat.zero_le _, Nat.zero_le _⟩ (fun H locs hP hD hS => ?_)
      refine kz_eq (tgt := 102) hx hb dX5_advance_83 (by decide) (fun h_8 => ?_) (fun h_8 => ?_)
      · have hf := hf.trans (if_neg h_8)
        refine lv_aload_n hx hb dX5_advance_102 rfl (lv_at hl 1 rfl) ?_
        refine va_get (D := gD G) (ci := 3) hx hb hts ku_5 hown hK hP 6 rfl rfl 2 (by decide) (hts _ kw_59) (fun _ h9 => h9) rfl dX5_advance_103 ?_
        refine lv_aload_n hx hb dX5_advance_106 rfl (lv_at hl 1 rfl) ?_
        refine va_get (D := gD G) (ci := 3) hx hb hts ku_5 hown hK hP 6 rfl rfl 0 (by decide) (hts _ kw_45) (fun _ h9 => h9) rfl dX5_advance_107 ?_
        refine lv_iload_n hx hb dX5_advance_110 rfl (lv_at hl 0 rfl) ?_
        refine kc_Vr (rest := [.ref (gA G 7)]) (cx_Memory_word l G (x_Registers_begin (s_steps σ ((c_steps σ) + 1))) (x_Registers_here (x_Registers_begin (s_steps σ ((c_steps σ) + 1))))) ⟨hx, hb, hml, hown, hts⟩ (cwV 1 hts (gi_V kw_572 kw_137 kw_138 kw_15 kw_139) rfl rfl rfl ⟨rfl, mdX4_word⟩ ⟨by decide, by decide⟩) (va_recv hK hP (ci := 2) (q0 := 1) rfl rfl) cZ_ok hK hP hD hS hA hZ rfl hl.1 rfl (Nat.le_of_ble_eq_true rfl) dX5_advance_111 ⟨Nat.zero_le _, Nat.zero_le _⟩ (fun H locs hP hD hS => ?_)
        refine kc_Vb (rest := []) (cx_ArmSet_perform l G (x_Registers_begin (s_steps σ ((c_steps σ) + 1))) (x_Memory_word (x_Registers_begin (s_steps σ ((c_steps σ) + 1))) (x_Registers_here (x_Registers_begin (s_steps σ ((c_steps σ) + 1)))))) ⟨hx, hb, hml, hown, hts⟩ (cwV 1 hts (gi_V kw_573 kw_574 kw_575 kw_58 kw_576) rfl rfl rfl ⟨rfl, mdX1_perform⟩ ⟨by decide, by decide⟩) (va_recv hK hP (ci := 1) (q0 := 7) rfl rfl) cZ_ok hK hP hD hS hA hZ rfl hl.1 rfl (Nat.le_of_ble_eq_true rfl) dX5_advance_114 ⟨Nat.zero_le _, Nat.zero_le _⟩ (fun H locs hP hD hS => ?_)
        exact hret ((x_ArmSet_perform (x_Registers_begin (s_steps σ ((c_steps σ) + 1))) (x_Memory_word (x_Registers_begin (s_steps σ ((c_steps σ) + 1))) (x_Registers_here (x_Registers_begin (s_steps σ ((c_steps σ) + 1)))))).1) ((x_ArmSet_perform (x_Registers_begin (s_steps σ ((c_steps σ) + 1))) (x_Memory_word (x_Registers_begin (s_steps σ ((c_steps σ) + 1))) (x_Registers_here (x_Registers_begin (s_steps σ ((c_steps σ) + 1)))))).2) _ _ _ _ hf hP hD hS dX5_advance_117
      · have hf := hf.trans (if_pos h_8)
        refine lv_aload_n hx hb dX5_advance_86 rfl (lv_at hl 1 rfl) ?_
        refine va_get (D := gD G) (ci := 3) hx hb hts ku_5 hown hK hP 6 rfl rfl 3 (by decide) (hts _ kw_63) (fun _ h9 => h9) rfl dX5_advance_87 ?_
        refine lv_aload_n hx hb dX5_advance_90 rfl (lv_at hl 1 rfl) ?_
        refine va_get (D := gD G) (ci := 3) hx hb hts ku_5 hown hK hP 6 rfl rfl 0 (by decide) (hts _ kw_45) (fun _ h9 => h9) rfl dX5_advance_91 ?_
        refine lv_iload_n hx hb dX5_advance_94 rfl (lv_at hl 0 rfl) ?_
        refine kc_Vr (rest := [.ref (gA G 8)]) (cx_Memory_half l G (x_Registers_begin (s_steps σ ((c_steps σ) + 1))) (x_Registers_here (x_Registers_begin (s_steps σ ((c_steps σ) + 1))))) ⟨hx, hb, hml, hown, hts⟩ (cwV 1 hts (gi_V kw_334 kw_335 kw_336 kw_15 kw_337) rfl rfl rfl ⟨rfl, mdX4_half⟩ ⟨by decide, by decide⟩) (va_recv hK hP (ci := 2) (q0 := 1) rfl rfl) cZ_ok hK hP hD hS hA hZ rfl hl.1 rfl (Nat.le_of_ble_eq_true rfl) dX5_advance_95 ⟨Nat.zero_le _, Nat.zero_le _⟩ (fun H locs hP hD hS => ?_)
        refine kc_Vb (rest := []) (cx_ThumbSet_perform l G (x_Registers_begin (s_steps σ ((c_steps σ) + 1))) (x_Memory_half (x_Registers_begin (s_steps σ ((c_steps σ) + 1))) (x_Registers_here (x_Registers_begin (s_steps σ ((c_steps σ) + 1)))))) ⟨hx, hb, hml, hown, hts⟩ (cwV 1 hts (gi_V kw_340 kw_341 kw_342 kw_62 kw_343) rfl rfl rfl ⟨rfl, mdX8_perform⟩ ⟨by decide, by decide⟩) (va_recv hK hP (ci := 6) (q0 := 8) rfl rfl) cZ_ok hK hP hD hS hA hZ rfl hl.1 rfl (Nat.le_of_ble_eq_true rfl) dX5_advance_98 ⟨Nat.zero_le _, Nat.zero_le _⟩ (fun H locs hP hD hS => ?_)
        exact hret ((x_ThumbSet_perform (x_Registers_begin (s_steps σ ((c_steps σ) + 1))) (x_Memory_half (x_Registers_begin (s_steps σ ((c_steps σ) + 1))) (x_Registers_here (x_Registers_begin (s_steps σ ((c_steps σ) + 1)))))).1) ((x_ThumbSet_perform (x_Registers_begin (s_steps σ ((c_steps σ) + 1))) (x_Memory_half (x_Registers_begin (s_steps σ ((c_steps σ) + 1))) (x_Registers_here (x_Registers_begin (s_steps σ ((c_steps σ) + 1)))))).2) _ _ _ _ hf hP hD hS dX5_advance_101
    · have hf := hf.trans (if_neg h_7)
      refine lv_iconst (v := 2) hx hb dX5_advance_74 (by decide) ?_
      exact hret 2 (x_Registers_begin (s_steps σ ((c_steps σ) + 1))) _ _ _ _ hf hP hD hS dX5_advance_75
  have J36 : ∀ (H : Heap) (locs : List Loc) (ls : Array Slot), va_P (gD G) vwCl (cW G (x_Registers_begin (s_steps σ ((c_steps σ) + 1)))) H → va_D A (cW G (x_Registers_begin (s_steps σ ((c_steps σ) + 1)))) → va_S A s.heap H locs → lv_has ls 2 [(0, .ref (gA G 6))] → x_Processor_advance σ = x_Processor_advance_36 σ → W p l e (kr 6) s m args below meth c H locs 0 0 Q (F0 m 36 ls []) := by
    intro H locs ls hP hD hS hl hf
    refine lv_aload_n hx hb dX5_advance_36 rfl (lv_at hl 0 rfl) ?_
    refine va_get (D := gD G) (ci := 3) hx hb hts ku_5 hown hK hP 6 rfl rfl 6 (by decide) (hts _ kw_66) (fun _ h9 => h9) rfl dX5_advance_37 ?_
    refine kz_eq (tgt := 55) hx hb dX5_advance_40 (by decide) (fun h_9 => ?_) (fun h_9 => ?_)
    · have hf := hf.trans (if_neg h_9)
      exact J55 _ _ _ hP hD hS (lv_sub hl [0] rfl) hf
    · have hf := hf.trans (if_pos h_9)
      refine lv_aload_n hx hb dX5_advance_43 rfl (lv_at hl 0 rfl) ?_
      refine va_get (D := gD G) (ci := 3) hx hb hts ku_5 hown hK hP 6 rfl rfl 1 (by decide) (hts _ kw_46) (fun _ h9 => h9) rfl dX5_advance_44 ?_
      refine kc_Vr (rest := []) (cx_Registers_irqAllowed l G (x_Registers_begin (s_steps σ ((c_steps σ) + 1)))) ⟨hx, hb, hml, hown, hts⟩ (cwV 0 hts (gi_V kw_324 kw_325 kw_326 kw_19 kw_327) rfl rfl rfl ⟨rfl, mdX6_irqAllowed⟩ ⟨by decide, by decide⟩) (va_recv hK hP (ci := 4) (q0 := 3) rfl rfl) cZ_ok hK hP hD hS hA hZ rfl hl.1 rfl (Nat.le_of_ble_eq_true rfl) dX5_advance_47 ⟨Nat.zero_le _, Nat.zero_le _⟩ (fun H locs hP hD hS => ?_)
      refine kz_eq (tgt := 55) hx hb dX5_advance_50 (by decide) (fun h_10 => ?_) (fun h_10 => ?_)
      · have hf := hf.trans (if_neg h_10)
        exact J55 _ _ _ hP hD hS (lv_sub hl [0] rfl) hf
      · have hf := hf.trans (if_pos h_10)
        refine lv_iconst (v := 4) hx hb dX5_advance_53 (by decide) ?_
        exact hret 4 (x_Registers_begin (s_steps σ ((c_steps σ) + 1))) _ _ _ _ hf hP hD hS dX5_advance_54
  refine lv_aload_n hx hb dX5_advance_0 rfl (lv_at hl 0 rfl) ?_
  refine lv_dup hx hb dX5_advance_1 rfl ?_
  refine va_get (D := gD G) (ci := 3) hx hb hts ku_5 hown hK hP 6 rfl rfl 5 (by decide) (hts _ kw_65) (fun _ h9 => h9) rfl dX5_advance_2 ?_
  refine lv_iconst (v := 1) hx hb dX5_advance_5 (by decide) ?_
  refine lv_iadd hx hb dX5_advance_6 ?_
  refine va_put (D := gD G) (ci := 3) (v := .int ((c_steps σ) + 1)) (ty := .int) hx hb hts ku_5 tyX5 tyX5_ok nmX5 hown hK hP hD hS 6 rfl rfl 5 (by decide) (hts _ kw_65) (fun _ h9 => h9) rfl (tyX5_ok 5 (by decide)) rfl rfl (Nat.le_of_ble_eq_true rfl) dX5_advance_7 (fun H locs hP hD hS => ?_)
  have hP := kP_eq (cWs_steps G σ ((c_steps σ) + 1)) hP
  have hD := kD_eq (cWs_steps G σ ((c_steps σ) + 1)) hD
  refine lv_aload_n hx hb dX5_advance_10 rfl (lv_at hl 0 rfl) ?_
  refine va_get (D := gD G) (ci := 3) hx hb hts ku_5 hown hK hP 6 rfl rfl 1 (by decide) (hts _ kw_46) (fun _ h9 => h9) rfl dX5_advance_11 ?_
  refine kc_Vv (rest := []) (cx_Registers_begin l G (s_steps σ ((c_steps σ) + 1))) ⟨hx, hb, hml, hown, hts⟩ (cwV 0 hts (gi_V kw_312 kw_313 kw_314 kw_19 kw_315) rfl rfl rfl ⟨rfl, mdX6_begin⟩ ⟨by decide, by decide⟩) (va_recv hK hP (ci := 4) (q0 := 3) rfl rfl) cZ_ok hK hP hD hS hA hZ rfl hl.1 rfl (Nat.le_of_ble_eq_true rfl) dX5_advance_14 ⟨Nat.zero_le _, Nat.zero_le _⟩ (fun H locs hP hD hS => ?_)
  refine lv_aload_n hx hb dX5_advance_17 rfl (lv_at hl 0 rfl) ?_
  refine va_get (D := gD G) (ci := 3) hx hb hts ku_5 hown hK hP 6 rfl rfl 7 (by decide) (hts _ kw_67) (fun _ h9 => h9) rfl dX5_advance_18 ?_
  refine kz_eq (tgt := 36) hx hb dX5_advance_21 (by decide) (fun h_11 => ?_) (fun h_11 => ?_)
  · have hf := hf.trans (if_neg h_11)
    exact J36 _ _ _ hP hD hS (lv_sub hl [0] rfl) hf
  · have hf := hf.trans (if_pos h_11)
    refine lv_aload_n hx hb dX5_advance_24 rfl (lv_at hl 0 rfl) ?_
    refine va_get (D := gD G) (ci := 3) hx hb hts ku_5 hown hK hP 6 rfl rfl 1 (by decide) (hts _ kw_46) (fun _ h9 => h9) rfl dX5_advance_25 ?_
    refine kc_Vr (rest := []) (cx_Registers_fiqAllowed l G (x_Registers_begin (s_steps σ ((c_steps σ) + 1)))) ⟨hx, hb, hml, hown, hts⟩ (cwV 0 hts (gi_V kw_320 kw_321 kw_322 kw_19 kw_323) rfl rfl rfl ⟨rfl, mdX6_fiqAllowed⟩ ⟨by decide, by decide⟩) (va_recv hK hP (ci := 4) (q0 := 3) rfl rfl) cZ_ok hK hP hD hS hA hZ rfl hl.1 rfl (Nat.le_of_ble_eq_true rfl) dX5_advance_28 ⟨Nat.zero_le _, Nat.zero_le _⟩ (fun H locs hP hD hS => ?_)
    refine kz_eq (tgt := 36) hx hb dX5_advance_31 (by decide) (fun h_12 => ?_) (fun h_12 => ?_)
    · have hf := hf.trans (if_neg h_12)
      exact J36 _ _ _ hP hD hS (lv_sub hl [0] rfl) hf
    · have hf := hf.trans (if_pos h_12)
      refine lv_iconst (v := 5) hx hb dX5_advance_34 (by decide) ?_
      exact hret 5 (x_Registers_begin (s_steps σ ((c_steps σ) + 1))) _ _ _ _ hf hP hD hS dX5_advance_35
def x_Processor_take (σ : CS) (v0 : Int32) : CS := (if (x_Fault_isKind v0) = true then x_Registers_enter (s_faults σ (upd (c_faults σ) v0.toNatClampNeg ((c_faults σ v0.toNatClampNeg) + 1))) v0 else σ)
set_option maxRecDepth 20000 in
set_option maxHeartbeats 4000000 in
theorem cx_Processor_take (l : Launch) (G : KG) (σ : CS) (v0 : Int32) : KV l yX5_take (Cond.code yX5_take cX5_take 2 none :: lw_all) (kr 4) (gD G) vwCl (gT G) (cZ G) (cW G) [.ref (gA G 6), .int v0] σ (x_Processor_take σ v0) := by
  refine kc_in_v (q := x_Processor_take σ v0) (by decide) rfl (Nat.le_of_ble_eq_true rfl) ?_
  intro p e s m args below meth c A Q ls hx hb hml hown hts hK hP hD hA hS hZ hl hret
  have hts := fun w h => hts w (List.mem_cons_of_mem _ h)
  have hl : lv_has ls 2 [(0, .ref (gA G 6)), (1, .int v0)] := hl
  have hf : x_Processor_take σ v0 = x_Processor_take σ v0 := rfl
  refine lv_iload_n hx hb dX5_take_0 rfl (lv_at hl 1 rfl) ?_
  refine kp_Si (rest := []) (cx_Fault_isKind l v0) ⟨hx, hb, hml, hown, hts⟩ (va_cwS 1 hts (gi_S kw_694 kw_695 kw_696 kw_697) rfl rfl rfl mdX3_isKind ⟨by decide, by decide⟩) rfl hl.1 rfl (Nat.le_of_ble_eq_true rfl) dX5_take_1 ⟨Nat.zero_le _, Nat.zero_le _⟩ ?_
  refine kz_eq (tgt := 25) hx hb dX5_take_4 (by decide) (fun h_2 => ?_) (fun h_2 => ?_)
  · have hf := hf.trans (if_neg h_2)
    exact hret σ _ _ _ _ hf hP hD hS dX5_take_25
  · have hf := hf.trans (if_pos h_2)
    refine lv_aload_n hx hb dX5_take_7 rfl (lv_at hl 0 rfl) ?_
    refine va_get (D := gD G) (ci := 3) hx hb hts ku_5 hown hK hP 6 rfl rfl 4 (by decide) (hts _ kw_64) (fun _ h9 => h9) rfl dX5_take_8 ?_
    refine lv_iload_n hx hb dX5_take_11 rfl (lv_at hl 1 rfl) ?_
    refine lv_dup2_11 hx hb dX5_take_12 rfl rfl ?_
    refine va_iald hx hb hK hP 9 0 rfl rfl (fk_in (by assumption)) dX5_take_13 ?_
    refine lv_iconst (v := 1) hx hb dX5_take_14 (by decide) ?_
    refine lv_iadd hx hb dX5_take_15 ?_
    refine va_iast hx hb hK hP hD hS 9 0 rfl rfl (fk_in (by assumption)) dX5_take_16 (fun H locs hP hD hS => ?_)
    have hP := kP_eq (cWs_faults G σ (upd (c_faults σ) v0.toNatClampNeg ((c_faults σ v0.toNatClampNeg) + 1))) hP
    have hD := kD_eq (cWs_faults G σ (upd (c_faults σ) v0.toNatClampNeg ((c_faults σ v0.toNatClampNeg) + 1))) hD
    refine lv_aload_n hx hb dX5_take_17 rfl (lv_at hl 0 rfl) ?_
    refine va_get (D := gD G) (ci := 3) hx hb hts ku_5 hown hK hP 6 rfl rfl 1 (by decide) (hts _ kw_46) (fun _ h9 => h9) rfl dX5_take_18 ?_
    refine lv_iload_n hx hb dX5_take_21 rfl (lv_at hl 1 rfl) ?_
    refine kc_Vv (rest := []) (cx_Registers_enter l G (s_faults σ (upd (c_faults σ) v0.toNatClampNeg ((c_faults σ v0.toNatClampNeg) + 1))) v0) ⟨hx, hb, hml, hown, hts⟩ (cwV 1 hts (gi_V kw_698 kw_699 kw_700 kw_19 kw_701) rfl rfl rfl ⟨rfl, mdX6_enter⟩ ⟨by decide, by decide⟩) (va_recv hK hP (ci := 4) (q0 := 3) rfl rfl) cZ_ok hK hP hD hS hA hZ rfl hl.1 rfl (Nat.le_of_ble_eq_true rfl) dX5_take_22 ⟨Nat.zero_le _, Nat.zero_le _⟩ (fun H locs hP hD hS => ?_)
    exact hret (x_Registers_enter (s_faults σ (upd (c_faults σ) v0.toNatClampNeg ((c_faults σ v0.toNatClampNeg) + 1))) v0) _ _ _ _ hf hP hD hS dX5_take_25
