def x_Shifter_carry (σ : CS) : Int32 := c_carry σ
set_option maxRecDepth 20000 in
set_option maxHeartbeats 4000000 in
theorem cx_Shifter_carry (l : Launch) (G : KG) (σ : CS) : KB l yX7_carry (Cond.code yX7_carry cX7_carry 1 (some .int) :: lw_all) (kr 0) (gD G) vwCl (gT G) (cZ G) (cW G) [.ref (gA G 10)] σ (x_Shifter_carry σ, σ) := by
  refine kc_in_r (q := x_Shifter_carry σ) (by decide) rfl (Nat.le_of_ble_eq_true rfl) ?_
  intro p e s m args below meth c A Q ls hx hb hml hown hts hK hP hD hA hS hZ hl hret
  have hts := fun w h => hts w (List.mem_cons_of_mem _ h)
  have hl : lv_has ls 1 [(0, .ref (gA G 10))] := hl
  have hf : x_Shifter_carry σ = x_Shifter_carry σ := rfl
  refine lv_aload_n hx hb dX7_carry_0 rfl (lv_at hl 0 rfl) ?_
  refine va_get (D := gD G) (ci := 5) hx hb hts ku_7 hown hK hP 10 rfl rfl 0 (by decide) (hts _ kw_72) (fun _ h9 => h9) rfl dX7_carry_1 ?_
  exact hret (c_carry σ) _ _ _ _ hf hP hD hS dX7_carry_4
def x_Shifter_shift_123 (σ : CS) (v0 : Int32) (v1 : Int32) (v2 : Int32) (v3 : Int32) (k0_123 : Int32) : Int32 × CS := (if v2 = 32 then (0, s_carry σ k0_123) else (0, s_carry σ 0))
def x_Shifter_shift_61 (σ : CS) (v0 : Int32) (v1 : Int32) (v2 : Int32) (v3 : Int32) (k0_61 : Int32) : Int32 × CS := (if v0 = 0 then (v1 <<< (v2 &&& 31), s_carry σ (k0_61 &&& 1)) else (if v0 = 1 then (iu v1 v2, s_carry σ (k0_61 &&& 1)) else (v1 >>> (v2 &&& 31), s_carry σ (k0_61 &&& 1))))
def x_Shifter_shift (σ : CS) (v0 : Int32) (v1 : Int32) (v2 : Int32) (v3 : Int32) : Int32 × CS := (if v2 = 0 then (v1, s_carry σ v3) else (if v0 = 3 then (x_Shifter_turnRight v1 v2, s_carry σ (iu (x_Shifter_turnRight v1 v2) 31)) else (if 32 ≤ v2 then (if v0 = 2 then (v1 >>> ((31 : Int32) &&& 31), s_carry σ (iu v1 31)) else (if v0 = 0 then x_Shifter_shift_123 σ v0 v1 v2 v3 (v1 &&& 1) else x_Shifter_shift_123 σ v0 v1 v2 v3 (iu v1 31))) else (if v0 = 0 then x_Shifter_shift_61 σ v0 v1 v2 v3 (iu v1 (32 - v2)) else x_Shifter_shift_61 σ v0 v1 v2 v3 (v1 >>> ((v2 - 1) &&& 31))))))
set_option maxRecDepth 20000 in
set_option maxHeartbeats 4000000 in
theorem cx_Shifter_shift (l : Launch) (G : KG) (σ : CS) (v0 : Int32) (v1 : Int32) (v2 : Int32) (v3 : Int32) : KB l yX7_shift (Cond.code yX7_shift cX7_shift 6 (some .int) :: lw_all) (kr 1) (gD G) vwCl (gT G) (cZ G) (cW G) [.ref (gA G 10), .int v0, .int v1, .int v2, .int v3] σ (x_Shifter_shift σ v0 v1 v2 v3) := by
  refine kc_in_b (q := x_Shifter_shift σ v0 v1 v2 v3) (by decide) rfl (Nat.le_of_ble_eq_true rfl) ?_
  intro p e s m args below meth c A Q ls hx hb hml hown hts hK hP hD hA hS hZ hl hret
  have hts := fun w h => hts w (List.mem_cons_of_mem _ h)
  have hl : lv_has ls 6 [(0, .ref (gA G 10)), (1, .int v0), (2, .int v1), (3, .int v2), (4, .int v3)] := hl
  have hf : x_Shifter_shift σ v0 v1 v2 v3 = x_Shifter_shift σ v0 v1 v2 v3 := rfl
  have J123 : ∀ (k0_123 : Int32) (H : Heap) (locs : List Loc) (ls : Array Slot), va_P (gD G) vwCl (cW G (σ)) H → va_D A (cW G (σ)) → va_S A s.heap H locs → lv_has ls 6 [(0, .ref (gA G 10)), (3, .int v2)] → x_Shifter_shift σ v0 v1 v2 v3 = x_Shifter_shift_123 σ v0 v1 v2 v3 k0_123 → W p l e (kr 1) s m args below meth c H locs 0 0 Q (F0 m 123 ls [.int k0_123]) := by
    intro k0_123 H locs ls hP hD hS hl hf
    refine lv_istore (lv' := [(5, .int k0_123), (0, .ref (gA G 10)), (3, .int v2)]) hx hb dX7_shift_123 hl (by decide) rfl (fun ls hl => ?_)
    refine lv_aload_n hx hb dX7_shift_125 rfl (lv_at hl 1 rfl) ?_
    refine lv_iload_n hx hb dX7_shift_126 rfl (lv_at hl 2 rfl) ?_
    refine lv_bipush (v := 32) hx hb dX7_shift_127 (by decide) ?_
    refine lv_icmp_ne (tgt := 137) hx hb dX7_shift_129 (by decide) (fun h_10 => ?_) (fun h_10 => ?_)
    · have hf := hf.trans (if_neg h_10)
      refine lv_iconst (v := 0) hx hb dX7_shift_137 (by decide) ?_
      refine va_put (D := gD G) (ci := 5) (v := .int 0) (ty := .int) hx hb hts ku_7 tyX7 tyX7_ok nmX7 hown hK hP hD hS 10 rfl rfl 0 (by decide) (hts _ kw_72) (fun _ h9 => h9) rfl (tyX7_ok 0 (by decide)) rfl rfl (Nat.le_of_ble_eq_true rfl) dX7_shift_138 (fun H locs hP hD hS => ?_)
      have hP := kP_eq (cWs_carry G σ 0) hP
      have hD := kD_eq (cWs_carry G σ 0) hD
      refine lv_iconst (v := 0) hx hb dX7_shift_141 (by decide) ?_
      exact hret 0 (s_carry σ 0) _ _ _ _ hf hP hD hS dX7_shift_142
    · have hf := hf.trans (if_pos h_10)
      refine lv_iload hx hb dX7_shift_132 (lv_at hl 0 rfl) ?_
      refine lv_goto (tgt := 138) hx hb dX7_shift_134 (by decide) ?_
      refine va_put (D := gD G) (ci := 5) (v := .int k0_123) (ty := .int) hx hb hts ku_7 tyX7 tyX7_ok nmX7 hown hK hP hD hS 10 rfl rfl 0 (by decide) (hts _ kw_72) (fun _ h9 => h9) rfl (tyX7_ok 0 (by decide)) rfl rfl (Nat.le_of_ble_eq_true rfl) dX7_shift_138 (fun H locs hP hD hS => ?_)
      have hP := kP_eq (cWs_carry G σ k0_123) hP
      have hD := kD_eq (cWs_carry G σ k0_123) hD
      refine lv_iconst (v := 0) hx hb dX7_shift_141 (by decide) ?_
      exact hret 0 (s_carry σ k0_123) _ _ _ _ hf hP hD hS dX7_shift_142
  have J61 : ∀ (k0_61 : Int32) (H : Heap) (locs : List Loc) (ls : Array Slot), va_P (gD G) vwCl (cW G (σ)) H → va_D A (cW G (σ)) → va_S A s.heap H locs → lv_has ls 6 [(1, .int v0), (2, .int v1), (3, .int v2)] → x_Shifter_shift σ v0 v1 v2 v3 = x_Shifter_shift_61 σ v0 v1 v2 v3 k0_61 → W p l e (kr 1) s m args below meth c H locs 0 0 Q (F0 m 61 ls [.int k0_61, .ref (gA G 10)]) := by
    intro k0_61 H locs ls hP hD hS hl hf
    refine lv_iconst (v := 1) hx hb dX7_shift_61 (by decide) ?_
    refine lv_iand hx hb dX7_shift_62 ?_
    refine va_put (D := gD G) (ci := 5) (v := .int (k0_61 &&& 1)) (ty := .int) hx hb hts ku_7 tyX7 tyX7_ok nmX7 hown hK hP hD hS 10 rfl rfl 0 (by decide) (hts _ kw_72) (fun _ h9 => h9) rfl (tyX7_ok 0 (by decide)) rfl rfl (Nat.le_of_ble_eq_true rfl) dX7_shift_63 (fun H locs hP hD hS => ?_)
    have hP := kP_eq (cWs_carry G σ (k0_61 &&& 1)) hP
    have hD := kD_eq (cWs_carry G σ (k0_61 &&& 1)) hD
    refine lv_iload_n hx hb dX7_shift_66 rfl (lv_at hl 0 rfl) ?_
    refine lv_if_ne (tgt := 76) hx hb dX7_shift_67 (by decide) (fun h_11 => ?_) (fun h_11 => ?_)
    · have hf := hf.trans (if_neg h_11)
      refine lv_iload_n hx hb dX7_shift_76 rfl (lv_at hl 0 rfl) ?_
      refine lv_iconst (v := 1) hx hb dX7_shift_77 (by decide) ?_
      refine lv_icmp_ne (tgt := 87) hx hb dX7_shift_78 (by decide) (fun h_12 => ?_) (fun h_12 => ?_)
      · have hf := hf.trans (if_neg h_12)
        refine lv_iload_n hx hb dX7_shift_87 rfl (lv_at hl 1 rfl) ?_
        refine lv_iload_n hx hb dX7_shift_88 rfl (lv_at hl 2 rfl) ?_
        refine lv_ishr hx hb dX7_shift_89 ?_
        exact hret (v1 >>> (v2 &&& 31)) (s_carry σ (k0_61 &&& 1)) _ _ _ _ hf hP hD hS dX7_shift_90
      · have hf := hf.trans (if_pos h_12)
        refine lv_iload_n hx hb dX7_shift_81 rfl (lv_at hl 1 rfl) ?_
        refine lv_iload_n hx hb dX7_shift_82 rfl (lv_at hl 2 rfl) ?_
        refine lv_iushr (v := iu v1 v2) hx hb dX7_shift_83 rfl ?_
        refine lv_goto (tgt := 90) hx hb dX7_shift_84 (by decide) ?_
        exact hret (iu v1 v2) (s_carry σ (k0_61 &&& 1)) _ _ _ _ hf hP hD hS dX7_shift_90
    · have hf := hf.trans (if_pos h_11)
      refine lv_iload_n hx hb dX7_shift_70 rfl (lv_at hl 1 rfl) ?_
      refine lv_iload_n hx hb dX7_shift_71 rfl (lv_at hl 2 rfl) ?_
      refine lv_ishl hx hb dX7_shift_72 ?_
      refine lv_goto (tgt := 90) hx hb dX7_shift_73 (by decide) ?_
      exact hret (v1 <<< (v2 &&& 31)) (s_carry σ (k0_61 &&& 1)) _ _ _ _ hf hP hD hS dX7_shift_90
  refine lv_iload_n hx hb dX7_shift_0 rfl (lv_at hl 3 rfl) ?_
  refine lv_if_ne (tgt := 12) hx hb dX7_shift_1 (by decide) (fun h_13 => ?_) (fun h_13 => ?_)
  · have hf := hf.trans (if_neg h_13)
    refine lv_iload_n hx hb dX7_shift_12 rfl (lv_at hl 1 rfl) ?_
    refine lv_iconst (v := 3) hx hb dX7_shift_13 (by decide) ?_
    refine lv_icmp_ne (tgt := 36) hx hb dX7_shift_14 (by decide) (fun h_14 => ?_) (fun h_14 => ?_)
    · have hf := hf.trans (if_neg h_14)
      refine lv_iload_n hx hb dX7_shift_36 rfl (lv_at hl 3 rfl) ?_
      refine lv_bipush (v := 32) hx hb dX7_shift_37 (by decide) ?_
      refine lv_icmp_ge (tgt := 91) hx hb dX7_shift_39 (by decide) (fun h_15 => ?_) (fun h_15 => ?_)
      · have hf := hf.trans (if_pos h_15)
        refine lv_iload_n hx hb dX7_shift_91 rfl (lv_at hl 1 rfl) ?_
        refine lv_iconst (v := 2) hx hb dX7_shift_92 (by decide) ?_
        refine lv_icmp_ne (tgt := 109) hx hb dX7_shift_93 (by decide) (fun h_16 => ?_) (fun h_16 => ?_)
        · have hf := hf.trans (if_neg h_16)
          refine lv_iload_n hx hb dX7_shift_109 rfl (lv_at hl 1 rfl) ?_
          refine lv_if_ne (tgt := 119) hx hb dX7_shift_110 (by decide) (fun h_17 => ?_) (fun h_17 => ?_)
          · have hf := hf.trans (if_neg h_17)
            refine lv_iload_n hx hb dX7_shift_119 rfl (lv_at hl 2 rfl) ?_
            refine lv_bipush (v := 31) hx hb dX7_shift_120 (by decide) ?_
            refine lv_iushr (v := iu v1 31) hx hb dX7_shift_122 rfl ?_
            exact J123 (iu v1 31) _ _ _ hP hD hS (lv_sub hl [0, 3] rfl) hf
          · have hf := hf.trans (if_pos h_17)
            refine lv_iload_n hx hb dX7_shift_113 rfl (lv_at hl 2 rfl) ?_
            refine lv_iconst (v := 1) hx hb dX7_shift_114 (by decide) ?_
            refine lv_iand hx hb dX7_shift_115 ?_
            refine lv_goto (tgt := 123) hx hb dX7_shift_116 (by decide) ?_
            exact J123 (v1 &&& 1) _ _ _ hP hD hS (lv_sub hl [0, 3] rfl) hf
        · have hf := hf.trans (if_pos h_16)
          refine lv_aload_n hx hb dX7_shift_96 rfl (lv_at hl 0 rfl) ?_
          refine lv_iload_n hx hb dX7_shift_97 rfl (lv_at hl 2 rfl) ?_
          refine lv_bipush (v := 31) hx hb dX7_shift_98 (by decide) ?_
          refine lv_iushr (v := iu v1 31) hx hb dX7_shift_100 rfl ?_
          refine va_put (D := gD G) (ci := 5) (v := .int (iu v1 31)) (ty := .int) hx hb hts ku_7 tyX7 tyX7_ok nmX7 hown hK hP hD hS 10 rfl rfl 0 (by decide) (hts _ kw_72) (fun _ h9 => h9) rfl (tyX7_ok 0 (by decide)) rfl rfl (Nat.le_of_ble_eq_true rfl) dX7_shift_101 (fun H locs hP hD hS => ?_)
          have hP := kP_eq (cWs_carry G σ (iu v1 31)) hP
          have hD := kD_eq (cWs_carry G σ (iu v1 31)) hD
          refine lv_iload_n hx hb dX7_shift_104 rfl (lv_at hl 2 rfl) ?_
          refine lv_bipush (v := 31) hx hb dX7_shift_105 (by decide) ?_
          refine lv_ishr hx hb dX7_shift_107 ?_
          exact hret (v1 >>> ((31 : Int32) &&& 31)) (s_carry σ (iu v1 31)) _ _ _ _ hf hP hD hS dX7_shift_108
      · have hf := hf.trans (if_neg h_15)
        refine lv_aload_n hx hb dX7_shift_42 rfl (lv_at hl 0 rfl) ?_
        refine lv_iload_n hx hb dX7_shift_43 rfl (lv_at hl 1 rfl) ?_
        refine lv_if_ne (tgt := 56) hx hb dX7_shift_44 (by decide) (fun h_18 => ?_) (fun h_18 => ?_)
        · have hf := hf.trans (if_neg h_18)
          refine lv_iload_n hx hb dX7_shift_56 rfl (lv_at hl 2 rfl) ?_
          refine lv_iload_n hx hb dX7_shift_57 rfl (lv_at hl 3 rfl) ?_
          refine lv_iconst (v := 1) hx hb dX7_shift_58 (by decide) ?_
          refine lv_isub hx hb dX7_shift_59 ?_
          refine lv_ishr hx hb dX7_shift_60 ?_
          exact J61 (v1 >>> ((v2 - 1) &&& 31)) _ _ _ hP hD hS (lv_sub hl [1, 2, 3] rfl) hf
        · have hf := hf.trans (if_pos h_18)
          refine lv_iload_n hx hb dX7_shift_47 rfl (lv_at hl 2 rfl) ?_
          refine lv_bipush (v := 32) hx hb dX7_shift_48 (by decide) ?_
          refine lv_iload_n hx hb dX7_shift_50 rfl (lv_at hl 3 rfl) ?_
          refine lv_isub hx hb dX7_shift_51 ?_
          refine lv_iushr (v := iu v1 (32 - v2)) hx hb dX7_shift_52 rfl ?_
          refine lv_goto (tgt := 61) hx hb dX7_shift_53 (by decide) ?_
          exact J61 (iu v1 (32 - v2)) _ _ _ hP hD hS (lv_sub hl [1, 2, 3] rfl) hf
    · have hf := hf.trans (if_pos h_14)
      refine lv_iload_n hx hb dX7_shift_17 rfl (lv_at hl 2 rfl) ?_
      refine lv_iload_n hx hb dX7_shift_18 rfl (lv_at hl 3 rfl) ?_
      refine kp_Si (rest := []) (cx_Shifter_turnRight l v1 v2) ⟨hx, hb, hml, hown, hts⟩ (va_cwS 2 hts (gi_S kw_424 kw_425 kw_49 kw_426) rfl rfl rfl mdX7_turnRight ⟨by decide, by decide⟩) rfl hl.1 rfl (Nat.le_of_ble_eq_true rfl) dX7_shift_19 ⟨Nat.zero_le _, Nat.zero_le _⟩ ?_
      refine lv_istore (lv' := [(5, .int (x_Shifter_turnRight v1 v2)), (0, .ref (gA G 10)), (1, .int v0), (2, .int v1), (3, .int v2), (4, .int v3)]) hx hb dX7_shift_22 hl (by decide) rfl (fun ls hl => ?_)
      refine lv_aload_n hx hb dX7_shift_24 rfl (lv_at hl 1 rfl) ?_
      refine lv_iload hx hb dX7_shift_25 (lv_at hl 0 rfl) ?_
      refine lv_bipush (v := 31) hx hb dX7_shift_27 (by decide) ?_
      refine lv_iushr (v := iu (x_Shifter_turnRight v1 v2) 31) hx hb dX7_shift_29 rfl ?_
      refine va_put (D := gD G) (ci := 5) (v := .int (iu (x_Shifter_turnRight v1 v2) 31)) (ty := .int) hx hb hts ku_7 tyX7 tyX7_ok nmX7 hown hK hP hD hS 10 rfl rfl 0 (by decide) (hts _ kw_72) (fun _ h9 => h9) rfl (tyX7_ok 0 (by decide)) rfl rfl (Nat.le_of_ble_eq_true rfl) dX7_shift_30 (fun H locs hP hD hS => ?_)
      have hP := kP_eq (cWs_carry G σ (iu (x_Shifter_turnRight v1 v2) 31)) hP
      have hD := kD_eq (cWs_carry G σ (iu (x_Shifter_turnRight v1 v2) 31)) hD
      refine lv_iload hx hb dX7_shift_33 (lv_at hl 0 rfl) ?_
      exact hret (x_Shifter_turnRight v1 v2) (s_carry σ (iu (x_Shifter_turnRight v1 v2) 31)) _ _ _ _ hf hP hD hS dX7_shift_35
  · have hf := hf.trans (if_pos h_13)
    refine lv_aload_n hx hb dX7_shift_4 rfl (lv_at hl 0 rfl) ?_
    refine lv_iload hx hb dX7_shift_5 (lv_at hl 4 rfl) ?_
    refine va_put (D := gD G) (ci := 5) (v := .int v3) (ty := .int) hx hb hts ku_7 tyX7 tyX7_ok nmX7 hown hK hP hD hS 10 rfl rfl 0 (by decide) (hts _ kw_72) (fun _ h9 => h9) rfl (tyX7_ok 0 (by decide)) rfl rfl (Nat.le_of_ble_eq_true rfl) dX7_shift_7 (fun H locs hP hD hS => ?_)
    have hP := kP_eq (cWs_carry G σ v3) hP
    have hD := kD_eq (cWs_carry G σ v3) hD
    refine lv_iload_n hx hb dX7_shift_10 rfl (lv_at hl 2 rfl) ?_
    exact hret v1 (s_carry σ v3) _ _ _ _ hf hP hD hS dX7_shift_11
def x_Shifter_shiftByNumber_8 (σ : CS) (v0 : Int32) (v1 : Int32) (v2 : Int32) (v3 : Int32) : Int32 × CS := (x_Shifter_shift σ v0 v1 v2 v3)
def x_Shifter_shiftByNumber (σ : CS) (v0 : Int32) (v1 : Int32) (v2 : Int32) (v3 : Int32) : Int32 × CS := (if v2 = 0 then (if v0 = 0 then x_Shifter_shiftByNumber_8 σ v0 v1 v2 v3 else (if v0 = 3 then ((iu v1 1) ||| (v3 <<< ((31 : Int32) &&& 31)), s_carry σ (v1 &&& 1)) else (x_Shifter_shift σ v0 v1 32 v3))) else x_Shifter_shiftByNumber_8 σ v0 v1 v2 v3)
set_option maxRecDepth 20000 in
set_option maxHeartbeats 4000000 in
theorem cx_Shifter_shiftByNumber (l : Launch) (G : KG) (σ : CS) (v0 : Int32) (v1 : Int32) (v2 : Int32) (v3 : Int32) : KB l yX7_shiftByNumber (Cond.code yX7_shiftByNumber cX7_shiftByNumber 5 (some .int) :: lw_all) (kr 2) (gD G) vwCl (gT G) (cZ G) (cW G) [.ref (gA G 10), .int v0, .int v1, .int v2, .int v3] σ (x_Shifter_shiftByNumber σ v0 v1 v2 v3) := by
  refine kc_in_b (q := x_Shifter_shiftByNumber σ v0 v1 v2 v3) (by decide) rfl (Nat.le_of_ble_eq_true rfl) ?_
  intro p e s m args below meth c A Q ls hx hb hml hown hts hK hP hD hA hS hZ hl hret
  have hts := fun w h => hts w (List.mem_cons_of_mem _ h)
  have hl : lv_has ls 5 [(0, .ref (gA G 10)), (1, .int v0), (2, .int v1), (3, .int v2), (4, .int v3)] := hl
  have hf : x_Shifter_shiftByNumber σ v0 v1 v2 v3 = x_Shifter_shiftByNumber σ v0 v1 v2 v3 := rfl
  have J8 : ∀ (H : Heap) (locs : List Loc) (ls : Array Slot), va_P (gD G) vwCl (cW G (σ)) H → va_D A (cW G (σ)) → va_S A s.heap H locs → lv_has ls 5 [(0, .ref (gA G 10)), (1, .int v0), (2, .int v1), (3, .int v2), (4, .int v3)] → x_Shifter_shiftByNumber σ v0 v1 v2 v3 = x_Shifter_shiftByNumber_8 σ v0 v1 v2 v3 → W p l e (kr 2) s m args below meth c H locs 0 0 Q (F0 m 8 ls []) := by
    intro H locs ls hP hD hS hl hf
    refine lv_aload_n hx hb dX7_shiftByNumber_8 rfl (lv_at hl 0 rfl) ?_
    refine lv_iload_n hx hb dX7_shiftByNumber_9 rfl (lv_at hl 1 rfl) ?_
    refine lv_iload_n hx hb dX7_shiftByNumber_10 rfl (lv_at hl 2 rfl) ?_
    refine lv_iload_n hx hb dX7_shiftByNumber_11 rfl (lv_at hl 3 rfl) ?_
    refine lv_iload hx hb dX7_shiftByNumber_12 (lv_at hl 4 rfl) ?_
    refine kc_Vb (rest := []) (cx_Shifter_shift l G σ v0 v1 v2 v3) ⟨hx, hb, hml, hown, hts⟩ (cwV 4 hts (gi_V kw_420 kw_421 kw_422 kw_49 kw_423) rfl rfl rfl ⟨rfl, mdX7_shift⟩ ⟨by decide, by decide⟩) (va_recv hK hP (ci := 5) (q0 := 10) rfl rfl) cZ_ok hK hP hD hS hA hZ rfl hl.1 rfl (Nat.le_of_ble_eq_true rfl) dX7_shiftByNumber_14 ⟨Nat.zero_le _, Nat.zero_le _⟩ (fun H locs hP hD hS => ?_)
    exact hret ((x_Shifter_shift σ v0 v1 v2 v3).1) ((x_Shifter_shift σ v0 v1 v2 v3).2) _ _ _ _ hf hP hD hS dX7_shiftByNumber_17
  refine lv_iload_n hx hb dX7_shiftByNumber_0 rfl (lv_at hl 3 rfl) ?_
  refine lv_if_ne (tgt := 8) hx hb dX7_shiftByNumber_1 (by decide) (fun h_4 => ?_) (fun h_4 => ?_)
  · have hf := hf.trans (if_neg h_4)
    exact J8 _ _ _ hP hD hS (lv_sub hl [0, 1, 2, 3, 4] rfl) hf
  · have hf := hf.trans (if_pos h_4)
    refine lv_iload_n hx hb dX7_shiftByNumber_4 rfl (lv_at hl 1 rfl) ?_
    refine lv_if_ne (tgt := 18) hx hb dX7_shiftByNumber_5 (by decide) (fun h_5 => ?_) (fun h_5 => ?_)
    · have hf := hf.trans (if_neg h_5)
      refine lv_iload_n hx hb dX7_shiftByNumber_18 rfl (lv_at hl 1 rfl) ?_
      refine lv_iconst (v := 3) hx hb dX7_shiftByNumber_19 (by decide) ?_
      refine lv_icmp_ne (tgt := 40) hx hb dX7_shiftByNumber_20 (by decide) (fun h_6 => ?_) (fun h_6 => ?_)
      · have hf := hf.trans (if_neg h_6)
        refine lv_aload_n hx hb dX7_shiftByNumber_40 rfl (lv_at hl 0 rfl) ?_
        refine lv_iload_n hx hb dX7_shiftByNumber_41 rfl (lv_at hl 1 rfl) ?_
        refine lv_iload_n hx hb dX7_shiftByNumber_42 rfl (lv_at hl 2 rfl) ?_
        refine lv_bipush (v := 32) hx hb dX7_shiftByNumber_43 (by decide) ?_
        refine lv_iload hx hb dX7_shiftByNumber_45 (lv_at hl 4 rfl) ?_
        refine kc_Vb (rest := []) (cx_Shifter_shift l G σ v0 v1 32 v3) ⟨hx, hb, hml, hown, hts⟩ (cwV 4 hts (gi_V kw_420 kw_421 kw_422 kw_49 kw_423) rfl rfl rfl ⟨rfl, mdX7_shift⟩ ⟨by decide, by decide⟩) (va_recv hK hP (ci := 5) (q0 := 10) rfl rfl) cZ_ok hK hP hD hS hA hZ rfl hl.1 rfl (Nat.le_of_ble_eq_true rfl) dX7_shiftByNumber_47 ⟨Nat.zero_le _, Nat.zero_le _⟩ (fun H locs hP hD hS => ?_)
        exact hret ((x_Shifter_shift σ v0 v1 32 v3).1) ((x_Shifter_shift σ v0 v1 32 v3).2) _ _ _ _ hf hP hD hS dX7_shiftByNumber_50
      · have hf := hf.trans (if_pos h_6)
        refine lv_aload_n hx hb dX7_shiftByNumber_23 rfl (lv_at hl 0 rfl) ?_
        refine lv_iload_n hx hb dX7_shiftByNumber_24 rfl (lv_at hl 2 rfl) ?_
        refine lv_iconst (v := 1) hx hb dX7_shiftByNumber_25 (by decide) ?_
        refine lv_iand hx hb dX7_shiftByNumber_26 ?_
        refine va_put (D := gD G) (ci := 5) (v := .int (v1 &&& 1)) (ty := .int) hx hb hts ku_7 tyX7 tyX7_ok nmX7 hown hK hP hD hS 10 rfl rfl 0 (by decide) (hts _ kw_72) (fun _ h9 => h9) rfl (tyX7_ok 0 (by decide)) rfl rfl (Nat.le_of_ble_eq_true rfl) dX7_shiftByNumber_27 (fun H locs hP hD hS => ?_)
        have hP := kP_eq (cWs_carry G σ (v1 &&& 1)) hP
        have hD := kD_eq (cWs_carry G σ (v1 &&& 1)) hD
        refine lv_iload_n hx hb dX7_shiftByNumber_30 rfl (lv_at hl 2 rfl) ?_
        refine lv_iconst (v := 1) hx hb dX7_shiftByNumber_31 (by decide) ?_
        refine lv_iushr (v := iu v1 1) hx hb dX7_shiftByNumber_32 rfl ?_
        refine lv_iload hx hb dX7_shiftByNumber_33 (lv_at hl 4 rfl) ?_
        refine lv_bipush (v := 31) hx hb dX7_shiftByNumber_35 (by decide) ?_
        refine lv_ishl hx hb dX7_shiftByNumber_37 ?_
        refine lv_ior hx hb dX7_shiftByNumber_38 ?_
        exact hret ((iu v1 1) ||| (v3 <<< ((31 : Int32) &&& 31))) (s_carry σ (v1 &&& 1)) _ _ _ _ hf hP hD hS dX7_shiftByNumber_39
    · have hf := hf.trans (if_pos h_5)
      exact J8 _ _ _ hP hD hS (lv_sub hl [0, 1, 2, 3, 4] rfl) hf
def x_Shifter_turnedNumber (σ : CS) (v0 : Int32) (v1 : Int32) : Int32 × CS := (x_Shifter_shift σ 3 (v0 &&& 255) (2 * (x_Bits_four v0 8)) v1)
set_option maxRecDepth 20000 in
set_option maxHeartbeats 4000000 in
theorem cx_Shifter_turnedNumber (l : Launch) (G : KG) (σ : CS) (v0 : Int32) (v1 : Int32) : KB l yX7_turnedNumber (Cond.code yX7_turnedNumber cX7_turnedNumber 3 (some .int) :: lw_all) (kr 2) (gD G) vwCl (gT G) (cZ G) (cW G) [.ref (gA G 10), .int v0, .int v1] σ (x_Shifter_turnedNumber σ v0 v1) := by
  refine kc_in_b (q := x_Shifter_turnedNumber σ v0 v1) (by decide) rfl (Nat.le_of_ble_eq_true rfl) ?_
  intro p e s m args below meth c A Q ls hx hb hml hown hts hK hP hD hA hS hZ hl hret
  have hts := fun w h => hts w (List.mem_cons_of_mem _ h)
  have hl : lv_has ls 3 [(0, .ref (gA G 10)), (1, .int v0), (2, .int v1)] := hl
  have hf : x_Shifter_turnedNumber σ v0 v1 = x_Shifter_turnedNumber σ v0 v1 := rfl
  refine lv_aload_n hx hb dX7_turnedNumber_0 rfl (lv_at hl 0 rfl) ?_
  refine lv_iconst (v := 3) hx hb dX7_turnedNumber_1 (by decide) ?_
  refine lv_iload_n hx hb dX7_turnedNumber_2 rfl (lv_at hl 1 rfl) ?_
  refine lv_sipush (v := 255) hx hb dX7_turnedNumber_3 (by decide) ?_
  refine lv_iand hx hb dX7_turnedNumber_6 ?_
  refine lv_iconst (v := 2) hx hb dX7_turnedNumber_7 (by decide) ?_
  refine lv_iload_n hx hb dX7_turnedNumber_8 rfl (lv_at hl 1 rfl) ?_
  refine lv_bipush (v := 8) hx hb dX7_turnedNumber_9 (by decide) ?_
  refine kp_Si (rest := [.int 2, .int (v0 &&& 255), .int 3, .ref (gA G 10)]) (cx_Bits_four l v0 8) ⟨hx, hb, hml, hown, hts⟩ (va_cwS 2 hts (gi_S kw_661 kw_345 kw_346 kw_347) rfl rfl rfl mdX2_four ⟨by decide, by decide⟩) rfl hl.1 rfl (Nat.le_of_ble_eq_true rfl) dX7_turnedNumber_11 ⟨Nat.zero_le _, Nat.zero_le _⟩ ?_
  refine lv_imul hx hb dX7_turnedNumber_14 ?_
  refine lv_iload_n hx hb dX7_turnedNumber_15 rfl (lv_at hl 2 rfl) ?_
  refine kc_Vb (rest := []) (cx_Shifter_shift l G σ 3 (v0 &&& 255) (2 * (x_Bits_four v0 8)) v1) ⟨hx, hb, hml, hown, hts⟩ (cwV 4 hts (gi_V kw_420 kw_421 kw_422 kw_49 kw_423) rfl rfl rfl ⟨rfl, mdX7_shift⟩ ⟨by decide, by decide⟩) (va_recv hK hP (ci := 5) (q0 := 10) rfl rfl) cZ_ok hK hP hD hS hA hZ rfl hl.1 rfl (Nat.le_of_ble_eq_true rfl) dX7_turnedNumber_16 ⟨Nat.zero_le _, Nat.zero_le _⟩ (fun H locs hP hD hS => ?_)
  exact hret ((x_Shifter_shift σ 3 (v0 &&& 255) (2 * (x_Bits_four v0 8)) v1).1) ((x_Shifter_shift σ 3 (v0 &&& 255) (2 * (x_Bits_four v0 8)) v1).2) _ _ _ _ hf hP hD hS dX7_turnedNumber_19
def x_Alu_isTest (v0 : Int32) : Bool := (if (v0 &&& 12) = 8 then true else false)
set_option maxRecDepth 20000 in
set_option maxHeartbeats 4000000 in
theorem cx_Alu_isTest (l : Launch) (v0 : Int32) : KPi l yX0_isTest (Cond.code yX0_isTest cX0_isTest 1 (some .boolean) :: lw_all) (kr 0) [.int v0] (b01 (x_Alu_isTest v0)) := by
  refine kp_in_z (q := x_Alu_isTest v0) (by decide) rfl (Nat.le_of_ble_eq_true rfl) ?_
  intro p e s m args below meth c Q ls hx hb hml hown hts hl hret
  have hts := fun w h => hts w (List.mem_cons_of_mem _ h)
  have hl : lv_has ls 1 [(0, .int v0)] := hl
  have hf : x_Alu_isTest v0 = x_Alu_isTest v0 := rfl
  refine lv_iload_n hx hb dX0_isTest_0 rfl (lv_at hl 0 rfl) ?_
  refine lv_bipush (v := 12) hx hb dX0_isTest_1 (by decide) ?_
  refine lv_iand hx hb dX0_isTest_3 ?_
  refine lv_bipush (v := 8) hx hb dX0_isTest_4 (by decide) ?_
  refine lv_icmp_ne (tgt := 13) hx hb dX0_isTest_6 (by decide) (fun h_2 => ?_) (fun h_2 => ?_)
  · have hf := hf.trans (if_neg h_2)
    refine lv_iconst (v := 0) hx hb dX0_isTest_13 (by decide) ?_
    exact hret false _ _ hf dX0_isTest_14
  · have hf := hf.trans (if_pos h_2)
    refine lv_iconst (v := 1) hx hb dX0_isTest_9 (by decide) ?_
    refine lv_goto (tgt := 14) hx hb dX0_isTest_10 (by decide) ?_
    exact hret true _ _ hf dX0_isTest_14
def x_Alu_flags (σ : CS) : Int32 := c_flags σ
set_option maxRecDepth 20000 in
set_option maxHeartbeats 4000000 in
theorem cx_Alu_flags (l : Launch) (G : KG) (σ : CS) : KB l yX0_flags (Cond.code yX0_flags cX0_flags 1 (some .int) :: lw_all) (kr 0) (gD G) vwCl (gT G) (cZ G) (cW G) [.ref (gA G 11)] σ (x_Alu_flags σ, σ) := by
  refine kc_in_r (q := x_Alu_flags σ) (by decide) rfl (Nat.le_of_ble_eq_true rfl) ?_
  intro p e s m args below meth c A Q ls hx hb hml hown hts hK hP hD hA hS hZ hl hret
  have hts := fun w h => hts w (List.mem_cons_of_mem _ h)
  have hl : lv_has ls 1 [(0, .ref (gA G 11))] := hl
  have hf : x_Alu_flags σ = x_Alu_flags σ := rfl
  refine lv_aload_n hx hb dX0_flags_0 rfl (lv_at hl 0 rfl) ?_
  refine va_get (D := gD G) (ci := 0) hx hb hts ku_0 hown hK hP 11 rfl rfl 1 (by decide) (hts _ kw_78) (fun _ h9 => h9) rfl dX0_flags_1 ?_
  exact hret (c_flags σ) _ _ _ _ hf hP hD hS dX0_flags_4
def x_Alu_keep_21 (σ : CS) (v0 : Bool) (v1 : Bool) (v2 : Int32) (v3 : Int32) (k0_11 : Int32) (k0_21 : Int32) : CS := s_flags σ (((k0_11 ||| k0_21) ||| (v2 <<< ((29 : Int32) &&& 31))) ||| (v3 <<< ((28 : Int32) &&& 31)))
def x_Alu_keep_11 (σ : CS) (v0 : Bool) (v1 : Bool) (v2 : Int32) (v3 : Int32) (k0_11 : Int32) : CS := (if v1 = true then x_Alu_keep_21 σ v0 v1 v2 v3 k0_11 1073741824 else x_Alu_keep_21 σ v0 v1 v2 v3 k0_11 0)
def x_Alu_keep (σ : CS) (v0 : Bool) (v1 : Bool) (v2 : Int32) (v3 : Int32) : CS := (if v0 = true then x_Alu_keep_11 σ v0 v1 v2 v3 (-2147483648) else x_Alu_keep_11 σ v0 v1 v2 v3 0)
set_option maxRecDepth 20000 in
set_option maxHeartbeats 4000000 in
theorem cx_Alu_keep (l : Launch) (G : KG) (σ : CS) (v0 : Bool) (v1 : Bool) (v2 : Int32) (v3 : Int32) : KV l yX0_keep (Cond.code yX0_keep cX0_keep 5 none :: lw_all) (kr 0) (gD G) vwCl (gT G) (cZ G) (cW G) [.ref (gA G 11), .int (b01 v0), .int (b01 v1), .int v2, .int v3] σ (x_Alu_keep σ v0 v1 v2 v3) := by
  refine kc_in_v (q := x_Alu_keep σ v0 v1 v2 v3) (by decide) rfl (Nat.le_of_ble_eq_true rfl) ?_
  intro p e s m args below meth c A Q ls hx hb hml hown hts hK hP hD hA hS hZ hl hret
  have hts := fun w h => hts w (List.mem_cons_of_mem _ h)
  have hl : lv_has ls 5 [(0, .ref (gA G 11)), (1, .int (b01 v0)), (2, .int (b01 v1)), (3, .int v2), (4, .int v3)] := hl
  have hf : x_Alu_keep σ v0 v1 v2 v3 = x_Alu_keep σ v0 v1 v2 v3 := rfl
  have J21 : ∀ (k0_11 : Int32) (k0_21 : Int32) (H : Heap) (locs : List Loc) (ls : Array Slot), va_P (gD G) vwCl (cW G (σ)) H → va_D A (cW G (σ)) → va_S A s.heap H locs → lv_has ls 5 [(3, .int v2), (4, .int v3)] → x_Alu_keep σ v0 v1 v2 v3 = x_Alu_keep_21 σ v0 v1 v2 v3 k0_11 k0_21 → W p l e (kr 0) s m args below meth c H locs 0 0 Q (F0 m 21 ls [.int k0_21, .int k0_11, .ref (gA G 11)]) := by
    intro k0_11 k0_21 H locs ls hP hD hS hl hf
    refine lv_ior hx hb dX0_keep_21 ?_
    refine lv_iload_n hx hb dX0_keep_22 rfl (lv_at hl 0 rfl) ?_
    refine lv_bipush (v := 29) hx hb dX0_keep_23 (by decide) ?_
    refine lv_ishl hx hb dX0_keep_25 ?_
    refine lv_ior hx hb dX0_keep_26 ?_
    refine lv_iload hx hb dX0_keep_27 (lv_at hl 1 rfl) ?_
    refine lv_bipush (v := 28) hx hb dX0_keep_29 (by decide) ?_
    refine lv_ishl hx hb dX0_keep_31 ?_
    refine lv_ior hx hb dX0_keep_32 ?_
    refine va_put (D := gD G) (ci := 0) (v := .int (((k0_11 ||| k0_21) ||| (v2 <<< ((29 : Int32) &&& 31))) ||| (v3 <<< ((28 : Int32) &&& 31)))) (ty := .int) hx hb hts ku_0 tyX0 tyX0_ok nmX0 hown hK hP hD hS 11 rfl rfl 1 (by decide) (hts _ kw_78) (fun _ h9 => h9) rfl (tyX0_ok 1 (by decide)) rfl rfl (Nat.le_of_ble_eq_true rfl) dX0_keep_33 (fun H locs hP hD hS => ?_)
    have hP := kP_eq (cWs_flags G σ (((k0_11 ||| k0_21) ||| (v2 <<< ((29 : Int32) &&& 31))) ||| (v3 <<< ((28 : Int32) &&& 31)))) hP
    have hD := kD_eq (cWs_flags G σ (((k0_11 ||| k0_21) ||| (v2 <<< ((29 : Int32) &&& 31))) ||| (v3 <<< ((28 : Int32) &&& 31)))) hD
    exact hret (s_flags σ (((k0_11 ||| k0_21) ||| (v2 <<< ((29 : Int32) &&& 31))) ||| (v3 <<< ((28 : Int32) &&& 31)))) _ _ _ _ hf hP hD hS dX0_keep_36
  have J11 : ∀ (k0_11 : Int32) (H : Heap) (locs : List Loc) (ls : Array Slot), va_P (gD G) vwCl (cW G (σ)) H → va_D A (cW G (σ)) → va_S A s.heap H locs → lv_has ls 5 [(2, .int (b01 v1)), (3, .int v2), (4, .int v3)] → x_Alu_keep σ v0 v1 v2 v3 = x_Alu_keep_11 σ v0 v1 v2 v3 k0_11 → W p l e (kr 0) s m args below meth c H locs 0 0 Q (F0 m 11 ls [.int k0_11, .ref (gA G 11)]) := by
    intro k0_11 H locs ls hP hD hS hl hf
    refine lv_iload_n hx hb dX0_keep_11 rfl (lv_at hl 0 rfl) ?_
    refine kz_eq (tgt := 20) hx hb dX0_keep_12 (by decide) (fun h_3 => ?_) (fun h_3 => ?_)
    · have hf := hf.trans (if_neg h_3)
      refine lv_iconst (v := 0) hx hb dX0_keep_20 (by decide) ?_
      exact J21 k0_11 0 _ _ _ hP hD hS (lv_sub hl [1, 2] rfl) hf
    · have hf := hf.trans (if_pos h_3)
      refine lv_ldc (v := 1073741824) hx hb hown (hts _ kw_387) dX0_keep_15 ?_
      refine lv_goto (tgt := 21) hx hb dX0_keep_17 (by decide) ?_
      exact J21 k0_11 1073741824 _ _ _ hP hD hS (lv_sub hl [1, 2] rfl) hf
  refine lv_aload_n hx hb dX0_keep_0 rfl (lv_at hl 0 rfl) ?_
  refine lv_iload_n hx hb dX0_keep_1 rfl (lv_at hl 1 rfl) ?_
  refine kz_eq (tgt := 10) hx hb dX0_keep_2 (by decide) (fun h_4 => ?_) (fun h_4 => ?_)
  · have hf := hf.trans (if_neg h_4)
    refine lv_iconst (v := 0) hx hb dX0_keep_10 (by decide) ?_
    exact J11 0 _ _ _ hP hD hS (lv_sub hl [2, 3, 4] rfl) hf
  · have hf := hf.trans (if_pos h_4)
    refine lv_ldc (v := (-2147483648)) hx hb hown (hts _ kw_386) dX0_keep_5 ?_
    refine lv_goto (tgt := 11) hx hb dX0_keep_7 (by decide) ?_
    exact J11 (-2147483648) _ _ _ hP hD hS (lv_sub hl [2, 3, 4] rfl) hf
def x_Alu_logic (σ : CS) (v0 : Int32) (v1 : Int32) : Int32 × CS := (v0, x_Alu_keep σ (decide (¬ 0 ≤ v0)) (decide (v0 = 0)) v1 (x_Registers_overflow σ))
set_option maxRecDepth 20000 in
set_option maxHeartbeats 4000000 in
theorem cx_Alu_logic (l : Launch) (G : KG) (σ : CS) (v0 : Int32) (v1 : Int32) : KB l yX0_logic (Cond.code yX0_logic cX0_logic 3 (some .int) :: lw_all) (kr 1) (gD G) vwCl (gT G) (cZ G) (cW G) [.ref (gA G 11), .int v0, .int v1] σ (x_Alu_logic σ v0 v1) := by
  refine kc_in_b (q := x_Alu_logic σ v0 v1) (by decide) rfl (Nat.le_of_ble_eq_true rfl) ?_
  intro p e s m args below meth c A Q ls hx hb hml hown hts hK hP hD hA hS hZ hl hret
  have hts := fun w h => hts w (List.mem_cons_of_mem _ h)
  have hl : lv_has ls 3 [(0, .ref (gA G 11)), (1, .int v0), (2, .int v1)] := hl
  have hf : x_Alu_logic σ v0 v1 = x_Alu_logic σ v0 v1 := rfl
  refine lv_aload_n hx hb dX0_logic_0 rfl (lv_at hl 0 rfl) ?_
  refine lv_iload_n hx hb dX0_logic_1 rfl (lv_at hl 1 rfl) ?_
  refine kz_dP0 (P := 0 ≤ v0) (tgt := 9) (M := 10) (fun a b => lv_if_ge (tgt := 9) hx hb dX0_logic_2 (by decide) a b) hx hb dX0_logic_5 dX0_logic_6 (by decide) dX0_logic_9 rfl ?_
  refine lv_iload_n hx hb dX0_logic_10 rfl (lv_at hl 1 rfl) ?_
  refine kz_dN0 (P := v0 = 0) (tgt := 18) (M := 19) (fun a b => lv_if_ne (tgt := 18) hx hb dX0_logic_11 (by decide) a b) hx hb dX0_logic_14 dX0_logic_15 (by decide) dX0_logic_18 rfl ?_
  refine lv_iload_n hx hb dX0_logic_19 rfl (lv_at hl 2 rfl) ?_
  refine lv_aload_n hx hb dX0_logic_20 rfl (lv_at hl 0 rfl) ?_
  refine va_get (D := gD G) (ci := 0) hx hb hts ku_0 hown hK hP 11 rfl rfl 0 (by decide) (hts _ kw_77) (fun _ h9 => h9) rfl dX0_logic_21 ?_
  refine kc_Vr (rest := [.int v1, .int (b01 (decide (v0 = 0))), .int (b01 (decide (¬ 0 ≤ v0))), .ref (gA G 11)]) (cx_Registers_overflow l G σ) ⟨hx, hb, hml, hown, hts⟩ (cwV 0 hts (gi_V kw_378 kw_379 kw_380 kw_19 kw_381) rfl rfl rfl ⟨rfl, mdX6_overflow⟩ ⟨by decide, by decide⟩) (va_recv hK hP (ci := 4) (q0 := 3) rfl rfl) cZ_ok hK hP hD hS hA hZ rfl hl.1 rfl (Nat.le_of_ble_eq_true rfl) dX0_logic_24 ⟨Nat.zero_le _, Nat.zero_le _⟩ (fun H locs hP hD hS => ?_)
  refine kc_Vv (rest := []) (cx_Alu_keep l G σ (decide (¬ 0 ≤ v0)) (decide (v0 = 0)) v1 (x_Registers_overflow σ)) ⟨hx, hb, hml, hown, hts⟩ (cwV 4 hts (gi_V kw_382 kw_383 kw_384 kw_52 kw_385) rfl rfl rfl ⟨rfl, mdX0_keep⟩ ⟨by decide, by decide⟩) (va_recv hK hP (ci := 0) (q0 := 11) rfl rfl) cZ_ok hK hP hD hS hA hZ rfl hl.1 rfl (Nat.le_of_ble_eq_true rfl) dX0_logic_27 ⟨Nat.zero_le _, Nat.zero_le _⟩ (fun H locs hP hD hS => ?_)
  refine lv_iload_n hx hb dX0_logic_30 rfl (lv_at hl 1 rfl) ?_
  exact hret v0 (x_Alu_keep σ (decide (¬ 0 ≤ v0)) (decide (v0 = 0)) v1 (x_Registers_overflow σ)) _ _ _ _ hf hP hD hS dX0_logic_31
def x_Alu_sum (σ : CS) (v0 : Int32) (v1 : Int32) (v2 : Int32) : Int32 × CS := ((((v0.toInt64 &&& 4294967295) + (v1.toInt64 &&& 4294967295)) + v2.toInt64).toInt32, x_Alu_keep σ (decide (¬ 0 ≤ ((((v0.toInt64 &&& 4294967295) + (v1.toInt64 &&& 4294967295)) + v2.toInt64).toInt32))) (decide (((((v0.toInt64 &&& 4294967295) + (v1.toInt64 &&& 4294967295)) + v2.toInt64).toInt32) = 0)) ((lu (((v0.toInt64 &&& 4294967295) + (v1.toInt64 &&& 4294967295)) + v2.toInt64) 32).toInt32) (iu ((v0 ^^^ ((((v0.toInt64 &&& 4294967295) + (v1.toInt64 &&& 4294967295)) + v2.toInt64).toInt32)) &&& (v1 ^^^ ((((v0.toInt64 &&& 4294967295) + (v1.toInt64 &&& 4294967295)) + v2.toInt64).toInt32))) 31))
set_option maxRecDepth 20000 in
set_option maxHeartbeats 4000000 in
theorem cx_Alu_sum (l : Launch) (G : KG) (σ : CS) (v0 : Int32) (v1 : Int32) (v2 : Int32) : KB l yX0_sum (Cond.code yX0_sum cX0_sum 8 (some .int) :: lw_all) (kr 1) (gD G) vwCl (gT G) (cZ G) (cW G) [.ref (gA G 11), .int v0, .int v1, .int v2] σ (x_Alu_sum σ v0 v1 v2) := by
  refine kc_in_b (q := x_Alu_sum σ v0 v1 v2) (by decide) rfl (Nat.le_of_ble_eq_true rfl) ?_
  intro p e s m args below meth c A Q ls hx hb hml hown hts hK hP hD hA hS hZ hl hret
  have hts := fun w h => hts w (List.mem_cons_of_mem _ h)
  have hl : lv_has ls 8 [(0, .ref (gA G 11)), (1, .int v0), (2, .int v1), (3, .int v2)] := hl
  have hf : x_Alu_sum σ v0 v1 v2 = x_Alu_sum σ v0 v1 v2 := rfl
  refine lv_iload_n hx hb dX0_sum_0 rfl (lv_at hl 1 rfl) ?_
  refine lv_i2l (v := v0.toInt64) hx hb dX0_sum_1 rfl ?_
  refine lv_ldc2 (v := 4294967295) hx hb hown (hts _ kw_392) dX0_sum_2 ?_
  refine lv_land hx hb dX0_sum_5 ?_
  refine lv_iload_n hx hb dX0_sum_6 rfl (lv_at hl 2 rfl) ?_
  refine lv_i2l (v := v1.toInt64) hx hb dX0_sum_7 rfl ?_
  refine lv_ldc2 (v := 4294967295) hx hb hown (hts _ kw_392) dX0_sum_8 ?_
  refine lv_land hx hb dX0_sum_11 ?_
  refine lv_ladd hx hb dX0_sum_12 ?_
  refine lv_iload_n hx hb dX0_sum_13 rfl (lv_at hl 3 rfl) ?_
  refine lv_i2l (v := v2.toInt64) hx hb dX0_sum_14 rfl ?_
  refine lv_ladd hx hb dX0_sum_15 ?_
  refine lv_lstore (lv' := [(4, .long (((v0.toInt64 &&& 4294967295) + (v1.toInt64 &&& 4294967295)) + v2.toInt64)), (0, .ref (gA G 11)), (1, .int v0), (2, .int v1), (3, .int v2)]) hx hb dX0_sum_16 hl (by decide) rfl (fun ls hl => ?_)
  refine lv_lload hx hb dX0_sum_18 (lv_at hl 0 rfl) ?_
  refine lv_l2i (v := (((v0.toInt64 &&& 4294967295) + (v1.toInt64 &&& 4294967295)) + v2.toInt64).toInt32) hx hb dX0_sum_20 rfl ?_
  refine lv_istore (lv' := [(6, .int ((((v0.toInt64 &&& 4294967295) + (v1.toInt64 &&& 4294967295)) + v2.toInt64).toInt32)), (4, .long (((v0.toInt64 &&& 4294967295) + (v1.toInt64 &&& 4294967295)) + v2.toInt64)), (0, .ref (gA G 11)), (1, .int v0), (2, .int v1), (3, .int v2)]) hx hb dX0_sum_21 hl (by decide) rfl (fun ls hl => ?_)
  refine lv_iload_n hx hb dX0_sum_23 rfl (lv_at hl 3 rfl) ?_
  refine lv_iload hx hb dX0_sum_24 (lv_at hl 0 rfl) ?_
  refine lv_ixor hx hb dX0_sum_26 ?_
  refine lv_iload_n hx hb dX0_sum_27 rfl (lv_at hl 4 rfl) ?_
  refine lv_iload hx hb dX0_sum_28 (lv_at hl 0 rfl) ?_
  refine lv_ixor hx hb dX0_sum_30 ?_
  refine lv_iand hx hb dX0_sum_31 ?_
  refine lv_bipush (v := 31) hx hb dX0_sum_32 (by decide) ?_
  refine lv_iushr (v := iu ((v0 ^^^ ((((v0.toInt64 &&& 4294967295) + (v1.toInt64 &&& 4294967295)) + v2.toInt64).toInt32)) &&& (v1 ^^^ ((((v0.toInt64 &&& 4294967295) + (v1.toInt64 &&& 4294967295)) + v2.toInt64).toInt32))) 31) hx hb dX0_sum_34 rfl ?_
  refine lv_istore (lv' := [(7, .int (iu ((v0 ^^^ ((((v0.toInt64 &&& 4294967295) + (v1.toInt64 &&& 4294967295)) + v2.toInt64).toInt32)) &&& (v1 ^^^ ((((v0.toInt64 &&& 4294967295) + (v1.toInt64 &&& 4294967295)) + v2.toInt64).toInt32))) 31)), (6, .int ((((v0.toInt64 &&& 4294967295) + (v1.toInt64 &&& 4294967295)) + v2.toInt64).toInt32)), (4, .long (((v0.toInt64 &&& 4294967295) + (v1.toInt64 &&& 4294967295)) + v2.toInt64)), (0, .ref (gA G 11)), (1, .int v0), (2, .int v1), (3, .int v2)]) hx hb dX0_sum_35 hl (by decide) rfl (fun ls hl => ?_)
  refine lv_aload_n hx hb dX0_sum_37 rfl (lv_at hl 3 rfl) ?_
  refine lv_iload hx hb dX0_sum_38 (lv_at hl 1 rfl) ?_
  refine kz_dP0 (P := 0 ≤ ((((v0.toInt64 &&& 4294967295) + (v1.toInt64 &&& 4294967295)) + v2.toInt64).toInt32)) (tgt := 47) (M := 48) (fun a b => lv_if_ge (tgt := 47) hx hb dX0_sum_40 (by decide) a b) hx hb dX0_sum_43 dX0_sum_44 (by decide) dX0_sum_47 rfl ?_
  refine lv_iload hx hb dX0_sum_48 (lv_at hl 1 rfl) ?_
  refine kz_dN0 (P := ((((v0.toInt64 &&& 4294967295) + (v1.toInt64 &&& 4294967295)) + v2.toInt64).toInt32) = 0) (tgt := 57) (M := 58) (fun a b => lv_if_ne (tgt := 57) hx hb dX0_sum_50 (by decide) a b) hx hb dX0_sum_53 dX0_sum_54 (by decide) dX0_sum_57 rfl ?_
  refine lv_lload hx hb dX0_sum_58 (lv_at hl 2 rfl) ?_
  refine lv_bipush (v := 32) hx hb dX0_sum_60 (by decide) ?_
  refine lv_lushr (v := lu (((v0.toInt64 &&& 4294967295) + (v1.toInt64 &&& 4294967295)) + v2.toInt64) 32) hx hb dX0_sum_62 rfl ?_
  refine lv_l2i (v := (lu (((v0.toInt64 &&& 4294967295) + (v1.toInt64 &&& 4294967295)) + v2.toInt64) 32).toInt32) hx hb dX0_sum_63 rfl ?_
  refine lv_iload hx hb dX0_sum_64 (lv_at hl 0 rfl) ?_
  refine kc_Vv (rest := []) (cx_Alu_keep l G σ (decide (¬ 0 ≤ ((((v0.toInt64 &&& 4294967295) + (v1.toInt64 &&& 4294967295)) + v2.toInt64).toInt32))) (decide (((((v0.toInt64 &&& 4294967295) + (v1.toInt64 &&& 4294967295)) + v2.toInt64).toInt32) = 0)) ((lu (((v0.toInt64 &&& 4294967295) + (v1.toInt64 &&& 4294967295)) + v2.toInt64) 32).toInt32) (iu ((v0 ^^^ ((((v0.toInt64 &&& 4294967295) + (v1.toInt64 &&& 4294967295)) + v2.toInt64).toInt32)) &&& (v1 ^^^ ((((v0.toInt64 &&& 4294967295) + (v1.toInt64 &&& 4294967295)) + v2.toInt64).toInt32))) 31)) ⟨hx, hb, hml, hown, hts⟩ (cwV 4 hts (gi_V kw_382 kw_383 kw_384 kw_52 kw_385) rfl rfl rfl ⟨rfl, mdX0_keep⟩ ⟨by decide, by decide⟩) (va_recv hK hP (ci := 0) (q0 := 11) rfl rfl) cZ_ok hK hP hD hS hA hZ rfl hl.1 rfl (Nat.le_of_ble_eq_true rfl) dX0_sum_66 ⟨Nat.zero_le _, Nat.zero_le _⟩ (fun H locs hP hD hS => ?_)
  refine lv_iload hx hb dX0_sum_69 (lv_at hl 1 rfl) ?_
  exact hret ((((v0.toInt64 &&& 4294967295) + (v1.toInt64 &&& 4294967295)) + v2.toInt64).toInt32) (x_Alu_keep σ (decide (¬ 0 ≤ ((((v0.toInt64 &&& 4294967295) + (v1.toInt64 &&& 4294967295)) + v2.toInt64).toInt32))) (decide (((((v0.toInt64 &&& 4294967295) + (v1.toInt64 &&& 4294967295)) + v2.toInt64).toInt32) = 0)) ((lu (((v0.toInt64 &&& 4294967295) + (v1.toInt64 &&& 4294967295)) + v2.toInt64) 32).toInt32) (iu ((v0 ^^^ ((((v0.toInt64 &&& 4294967295) + (v1.toInt64 &&& 4294967295)) + v2.toInt64).toInt32)) &&& (v1 ^^^ ((((v0.toInt64 &&& 4294967295) + (v1.toInt64 &&& 4294967295)) + v2.toInt64).toInt32))) 31)) _ _ _ _ hf hP hD hS dX0_sum_71
def x_Alu_compute_76 (σ : CS) (v0 : Int32) (v1 : Int32) (v2 : Int32) (v3 : Int32) : Int32 × CS := (x_Alu_logic σ (v1 &&& v2) v3)
def x_Alu_compute_86 (σ : CS) (v0 : Int32) (v1 : Int32) (v2 : Int32) (v3 : Int32) : Int32 × CS := (x_Alu_logic σ (v1 ^^^ v2) v3)
def x_Alu_compute_96 (σ : CS) (v0 : Int32) (v1 : Int32) (v2 : Int32) (v3 : Int32) : Int32 × CS := (x_Alu_sum σ v1 (v2 ^^^ (-1)) 1)
def x_Alu_compute_116 (σ : CS) (v0 : Int32) (v1 : Int32) (v2 : Int32) (v3 : Int32) : Int32 × CS := (x_Alu_sum σ v1 v2 0)
def x_Alu_compute (σ : CS) (v0 : Int32) (v1 : Int32) (v2 : Int32) (v3 : Int32) : Int32 × CS := (if v0 = 0 then x_Alu_compute_76 σ v0 v1 v2 v3 else (if v0 = 1 then x_Alu_compute_86 σ v0 v1 v2 v3 else (if v0 = 2 then x_Alu_compute_96 σ v0 v1 v2 v3 else (if v0 = 3 then (x_Alu_sum σ v2 (v1 ^^^ (-1)) 1) else (if v0 = 4 then x_Alu_compute_116 σ v0 v1 v2 v3 else (if v0 = 5 then (x_Alu_sum σ v1 v2 (x_Registers_carry σ)) else (if v0 = 6 then (x_Alu_sum σ v1 (v2 ^^^ (-1)) (x_Registers_carry σ)) else (if v0 = 7 then (x_Alu_sum σ v2 (v1 ^^^ (-1)) (x_Registers_carry σ)) else (if v0 = 8 then x_Alu_compute_76 σ v0 v1 v2 v3 else (if v0 = 9 then x_Alu_compute_86 σ v0 v1 v2 v3 else (if v0 = 10 then x_Alu_compute_96 σ v0 v1 v2 v3 else (if v0 = 11 then x_Alu_compute_116 σ v0 v1 v2 v3 else (if v0 = 12 then (x_Alu_logic σ (v1 ||| v2) v3) else (if v0 = 13 then (x_Alu_logic σ v2 v3) else (if v0 = 14 then (x_Alu_logic σ (v1 &&& (v2 ^^^ (-1))) v3) else (x_Alu_logic σ (v2 ^^^ (-1)) v3))))))))))))))))
set_option maxRecDepth 20000 in
set_option maxHeartbeats 4000000 in
theorem cx_Alu_compute (l : Launch) (G : KG) (σ : CS) (v0 : Int32) (v1 : Int32) (v2 : Int32) (v3 : Int32) : KB l yX0_compute (Cond.code yX0_compute cX0_compute 5 (some .int) :: lw_all) (kr 2) (gD G) vwCl (gT G) (cZ G) (cW G) [.ref (gA G 11), .int v0, .int v1, .int v2, .int v3] σ (x_Alu_compute σ v0 v1 v2 v3) := by
  refine kc_in_b (q := x_Alu_compute σ v0 v1 v2 v3) (by decide) rfl (Nat.le_of_ble_eq_true rfl) ?_
  intro p e s m args below meth c A Q ls hx hb hml hown hts hK hP hD hA hS hZ hl hret
  have hts := fun w h => hts w (List.mem_cons_of_mem _ h)
  have hl : lv_has ls 5 [(0, .ref (gA G 11)), (1, .int v0), (2, .int v1), (3, .int v2), (4, .int v3)] := hl
  have hf : x_Alu_compute σ v0 v1 v2 v3 = x_Alu_compute σ v0 v1 v2 v3 := rfl
  have J76 : ∀ (H : Heap) (locs : List Loc) (ls : Array Slot), va_P (gD G) vwCl (cW G (σ)) H → va_D A (cW G (σ)) → va_S A s.heap H locs → lv_has ls 5 [(0, .ref (gA G 11)), (2, .int v1), (3, .int v2), (4, .int v3)] → x_Alu_compute σ v0 v1 v2 v3 = x_Alu_compute_76 σ v0 v1 v2 v3 → W p l e (kr 2) s m args below meth c H locs 0 0 Q (F0 m 76 ls []) := by
    intro H locs ls hP hD hS hl hf
    refine lv_aload_n hx hb dX0_compute_76 rfl (lv_at hl 0 rfl) ?_
    refine lv_iload_n hx hb dX0_compute_77 rfl (lv_at hl 1 rfl) ?_
    refine lv_iload_n hx hb dX0_compute_78 rfl (lv_at hl 2 rfl) ?_
    refine lv_iand hx hb dX0_compute_79 ?_
    refine lv_iload hx hb dX0_compute_80 (lv_at hl 3 rfl) ?_
    refine kc_Vb (rest := []) (cx_Alu_logic l G σ (v1 &&& v2) v3) ⟨hx, hb, hml, hown, hts⟩ (cwV 2 hts (gi_V kw_374 kw_375 kw_376 kw_52 kw_377) rfl rfl rfl ⟨rfl, mdX0_logic⟩ ⟨by decide, by decide⟩) (va_recv hK hP (ci := 0) (q0 := 11) rfl rfl) cZ_ok hK hP hD hS hA hZ rfl hl.1 rfl (Nat.le_of_ble_eq_true rfl) dX0_compute_82 ⟨Nat.zero_le _, Nat.zero_le _⟩ (fun H locs hP hD hS => ?_)
    exact hret ((x_Alu_logic σ (v1 &&& v2) v3).1) ((x_Alu_logic σ (v1 &&& v2) v3).2) _ _ _ _ hf hP hD hS dX0_compute_85
  have J86 : ∀ (H : Heap) (locs : List Loc) (ls : Array Slot), va_P (gD G) vwCl (cW G (σ)) H → va_D A (cW G (σ)) → va_S A s.heap H locs → lv_has ls 5 [(0, .ref (gA G 11)), (2, .int v1), (3, .int v2), (4, .int v3)] → x_Alu_compute σ v0 v1 v2 v3 = x_Alu_compute_86 σ v0 v1 v2 v3 → W p l e (kr 2) s m args below meth c H locs 0 0 Q (F0 m 86 ls []) := by
    intro H locs ls hP hD hS hl hf
    refine lv_aload_n hx hb dX0_compute_86 rfl (lv_at hl 0 rfl) ?_
    refine lv_iload_n hx hb dX0_compute_87 rfl (lv_at hl 1 rfl) ?_
    refine lv_iload_n hx hb dX0_compute_88 rfl (lv_at hl 2 rfl) ?_
    refine lv_ixor hx hb dX0_compute_89 ?_
    refine lv_iload hx hb dX0_compute_90 (lv_at hl 3 rfl) ?_
    refine kc_Vb (rest := []) (cx_Alu_logic l G σ (v1 ^^^ v2) v3) ⟨hx, hb, hml, hown, hts⟩ (cwV 2 hts (gi_V kw_374 kw_375 kw_376 kw_52 kw_377) rfl rfl rfl ⟨rfl, mdX0_logic⟩ ⟨by decide, by decide⟩) (va_recv hK hP (ci := 0) (q0 := 11) rfl rfl) cZ_ok hK hP hD hS hA hZ rfl hl.1 rfl (Nat.le_of_ble_eq_true rfl) dX0_compute_92 ⟨Nat.zero_le _, Nat.zero_le _⟩ (fun H locs hP hD hS => ?_)
    exact hret ((x_Alu_logic σ (v1 ^^^ v2) v3).1) ((x_Alu_logic σ (v1 ^^^ v2) v3).2) _ _ _ _ hf hP hD hS dX0_compute_95
  have J96 : ∀ (H : Heap) (locs : List Loc) (ls : Array Slot), va_P (gD G) vwCl (cW G (σ)) H → va_D A (cW G (σ)) → va_S A s.heap H locs → lv_has ls 5 [(0, .ref (gA G 11)), (2, .int v1), (3, .int v2)] → x_Alu_compute σ v0 v1 v2 v3 = x_Alu_compute_96 σ v0 v1 v2 v3 → W p l e (kr 2) s m args below meth c H locs 0 0 Q (F0 m 96 ls []) := by
    intro H locs ls hP hD hS hl hf
    refine lv_aload_n hx hb dX0_compute_96 rfl (lv_at hl 0 rfl) ?_
    refine lv_iload_n hx hb dX0_compute_97 rfl (lv_at hl 1 rfl) ?_
    refine lv_iload_n hx hb dX0_compute_98 rfl (lv_at hl 2 rfl) ?_
    refine lv_iconst (v := (-1)) hx hb dX0_compute_99 (by decide) ?_
    refine lv_ixor hx hb dX0_compute_100 ?_
    refine lv_iconst (v := 1) hx hb dX0_compute_101 (by decide) ?_
    refine kc_Vb (rest := []) (cx_Alu_sum l G σ v1 (v2 ^^^ (-1)) 1) ⟨hx, hb, hml, hown, hts⟩ (cwV 3 hts (gi_V kw_388 kw_389 kw_390 kw_52 kw_391) rfl rfl rfl ⟨rfl, mdX0_sum⟩ ⟨by decide, by decide⟩) (va_recv hK hP (ci := 0) (q0 := 11) rfl rfl) cZ_ok hK hP hD hS hA hZ rfl hl.1 rfl (Nat.le_of_ble_eq_true rfl) dX0_compute_102 ⟨Nat.zero_le _, Nat.zero_le _⟩ (fun H locs hP hD hS => ?_)
    exact hret ((x_Alu_sum σ v1 (v2 ^^^ (-1)) 1).1) ((x_Alu_sum σ v1 (v2 ^^^ (-1)) 1).2) _ _ _ _ hf hP hD hS dX0_compute_105
  have J116 : ∀ (H : Heap) (locs : List Loc) (ls : Array Slot), va_P (gD G) vwCl (cW G (σ)) H → va_D A (cW G (σ)) → va_S A s.heap H locs → lv_has ls 5 [(0, .ref (gA G 11)), (2, .int v1), (3, .int v2)] → x_Alu_compute σ v0 v1 v2 v3 = x_Alu_compute_116 σ v0 v1 v2 v3 → W p l e (kr 2) s m args below meth c H locs 0 0 Q (F0 m 116 ls []) := by
    intro H locs ls hP hD hS hl hf
    refine lv_aload_n hx hb dX0_compute_116 rfl (lv_at hl 0 rfl) ?_
    refine lv_iload_n hx hb dX0_compute_117 rfl (lv_at hl 1 rfl) ?_
    refine lv_iload_n hx hb dX0_compute_118 rfl (lv_at hl 2 rfl) ?_
    refine lv_iconst (v := 0) hx hb dX0_compute_119 (by decide) ?_
    refine kc_Vb (rest := []) (cx_Alu_sum l G σ v1 v2 0) ⟨hx, hb, hml, hown, hts⟩ (cwV 3 hts (gi_V kw_388 kw_389 kw_390 kw_52 kw_391) rfl rfl rfl ⟨rfl, mdX0_sum⟩ ⟨by decide, by decide⟩) (va_recv hK hP (ci := 0) (q0 := 11) rfl rfl) cZ_ok hK hP hD hS hA hZ rfl hl.1 rfl (Nat.le_of_ble_eq_true rfl) dX0_compute_120 ⟨Nat.zero_le _, Nat.zero_le _⟩ (fun H locs hP hD hS => ?_)
    exact hret ((x_Alu_sum σ v1 v2 0).1) ((x_Alu_sum σ v1 v2 0).2) _ _ _ _ hf hP hD hS dX0_compute_123
  refine lv_iload_n hx hb dX0_compute_0 rfl (lv_at hl 1 rfl) ?_
  by_cases h_16 : v0 = 0
  · have hf := hf.trans (if_pos h_16)
    refine lv_tableIn (tgt := 76) hx hb dX0_compute_1 (by rw [h_16]; decide) (by rw [h_16]; decide) (by rw [h_16]; rfl) (by decide) ?_
    exact J76 _ _ _ hP hD hS (lv_sub hl [0, 2, 3, 4] rfl) hf
  have hf := hf.trans (if_neg h_16)
  by_cases h_17 : v0 = 1
  · have hf := hf.trans (if_pos h_17)
    refine lv_tableIn (tgt := 86) hx hb dX0_compute_1 (by rw [h_17]; decide) (by rw [h_17]; decide) (by rw [h_17]; rfl) (by decide) ?_
    exact J86 _ _ _ hP hD hS (lv_sub hl [0, 2, 3, 4] rfl) hf
  have hf := hf.trans (if_neg h_17)
  by_cases h_18 : v0 = 2
  · have hf := hf.trans (if_pos h_18)
    refine lv_tableIn (tgt := 96) hx hb dX0_compute_1 (by rw [h_18]; decide) (by rw [h_18]; decide) (by rw [h_18]; rfl) (by decide) ?_
    exact J96 _ _ _ hP hD hS (lv_sub hl [0, 2, 3] rfl) hf
  have hf := hf.trans (if_neg h_18)
  by_cases h_19 : v0 = 3
  · have hf := hf.trans (if_pos h_19)
    refine lv_tableIn (tgt := 106) hx hb dX0_compute_1 (by rw [h_19]; decide) (by rw [h_19]; decide) (by rw [h_19]; rfl) (by decide) ?_
    refine lv_aload_n hx hb dX0_compute_106 rfl (lv_at hl 0 rfl) ?_
    refine lv_iload_n hx hb dX0_compute_107 rfl (lv_at hl 3 rfl) ?_
    refine lv_iload_n hx hb dX0_compute_108 rfl (lv_at hl 2 rfl) ?_
    refine lv_iconst (v := (-1)) hx hb dX0_compute_109 (by decide) ?_
    refine lv_ixor hx hb dX0_compute_110 ?_
    refine lv_iconst (v := 1) hx hb dX0_compute_111 (by decide) ?_
    refine kc_Vb (rest := []) (cx_Alu_sum l G σ v2 (v1 ^^^ (-1)) 1) ⟨hx, hb, hml, hown, hts⟩ (cwV 3 hts (gi_V kw_388 kw_389 kw_390 kw_52 kw_391) rfl rfl rfl ⟨rfl, mdX0_sum⟩ ⟨by decide, by decide⟩) (va_recv hK hP (ci := 0) (q0 := 11) rfl rfl) cZ_ok hK hP hD hS hA hZ rfl hl.1 rfl (Nat.le_of_ble_eq_true rfl) dX0_compute_112 ⟨Nat.zero_le _, Nat.zero_le _⟩ (fun H locs hP hD hS => ?_)
    exact hret ((x_Alu_sum σ v2 (v1 ^^^ (-1)) 1).1) ((x_Alu_sum σ v2 (v1 ^^^ (-1)) 1).2) _ _ _ _ hf hP hD hS dX0_compute_115
  have hf := hf.trans (if_neg h_19)
  by_cases h_20 : v0 = 4
  · have hf := hf.trans (if_pos h_20)
    refine lv_tableIn (tgt := 116) hx hb dX0_compute_1 (by rw [h_20]; decide) (by rw [h_20]; decide) (by rw [h_20]; rfl) (by decide) ?_
    exact J116 _ _ _ hP hD hS (lv_sub hl [0, 2, 3] rfl) hf
  have hf := hf.trans (if_neg h_20)
  by_cases h_21 : v0 = 5
  · have hf := hf.trans (if_pos h_21)
    refine lv_tableIn (tgt := 124) hx hb dX0_compute_1 (by rw [h_21]; decide) (by rw [h_21]; decide) (by rw [h_21]; rfl) (by decide) ?_
    refine lv_aload_n hx hb dX0_compute_124 rfl (lv_at hl 0 rfl) ?_
    refine lv_iload_n hx hb dX0_compute_125 rfl (lv_at hl 2 rfl) ?_
    refine lv_iload_n hx hb dX0_compute_126 rfl (lv_at hl 3 rfl) ?_
    refine lv_aload_n hx hb dX0_compute_127 rfl (lv_at hl 0 rfl) ?_
    refine va_get (D := gD G) (ci := 0) hx hb hts ku_0 hown hK hP 11 rfl rfl 0 (by decide) (hts _ kw_77) (fun _ h9 => h9) rfl dX0_compute_128 ?_
    refine kc_Vr (rest := [.int v2, .int v1, .ref (gA G 11)]) (cx_Registers_carry l G σ) ⟨hx, hb, hml, hown, hts⟩ (cwV 0 hts (gi_V kw_366 kw_367 kw_368 kw_19 kw_369) rfl rfl rfl ⟨rfl, mdX6_carry⟩ ⟨by decide, by decide⟩) (va_recv hK hP (ci := 4) (q0 := 3) rfl rfl) cZ_ok hK hP hD hS hA hZ rfl hl.1 rfl (Nat.le_of_ble_eq_true rfl) dX0_compute_131 ⟨Nat.zero_le _, Nat.zero_le _⟩ (fun H locs hP hD hS => ?_)
    refine kc_Vb (rest := []) (cx_Alu_sum l G σ v1 v2 (x_Registers_carry σ)) ⟨hx, hb, hml, hown, hts⟩ (cwV 3 hts (gi_V kw_388 kw_389 kw_390 kw_52 kw_391) rfl rfl rfl ⟨rfl, mdX0_sum⟩ ⟨by decide, by decide⟩) (va_recv hK hP (ci := 0) (q0 := 11) rfl rfl) cZ_ok hK hP hD hS hA hZ rfl hl.1 rfl (Nat.le_of_ble_eq_true rfl) dX0_compute_134 ⟨Nat.zero_le _, Nat.zero_le _⟩ (fun H locs hP hD hS => ?_)
    exact hret ((x_Alu_sum σ v1 v2 (x_Registers_carry σ)).1) ((x_Alu_sum σ v1 v2 (x_Registers_carry σ)).2) _ _ _ _ hf hP hD hS dX0_compute_137
  have hf := hf.trans (if_neg h_21)
  by_cases h_22 : v0 = 6
  · have hf := hf.trans (if_pos h_22)
    refine lv_tableIn (tgt := 138) hx hb dX0_compute_1 (by rw [h_22]; decide) (by rw [h_22]; decide) (by rw [h_22]; rfl) (by decide) ?_
    refine lv_aload_n hx hb dX0_compute_138 rfl (lv_at hl 0 rfl) ?_
    refine lv_iload_n hx hb dX0_compute_139 rfl (lv_at hl 2 rfl) ?_
    refine lv_iload_n hx hb dX0_compute_140 rfl (lv_at hl 3 rfl) ?_
    refine lv_iconst (v := (-1)) hx hb dX0_compute_141 (by decide) ?_
    refine lv_ixor hx hb dX0_compute_142 ?_
    refine lv_aload_n hx hb dX0_compute_143 rfl (lv_at hl 0 rfl) ?_
    refine va_get (D := gD G) (ci := 0) hx hb hts ku_0 hown hK hP 11 rfl rfl 0 (by decide) (hts _ kw_77) (fun _ h9 => h9) rfl dX0_compute_144 ?_
    refine kc_Vr (rest := [.int (v2 ^^^ (-1)), .int v1, .ref (gA G 11)]) (cx_Registers_carry l G σ) ⟨hx, hb, hml, hown, hts⟩ (cwV 0 hts (gi_V kw_366 kw_367 kw_368 kw_19 kw_369) rfl rfl rfl ⟨rfl, mdX6_carry⟩ ⟨by decide, by decide⟩) (va_recv hK hP (ci := 4) (q0 := 3) rfl rfl) cZ_ok hK hP hD hS hA hZ rfl hl.1 rfl (Nat.le_of_ble_eq_true rfl) dX0_compute_147 ⟨Nat.zero_le _, Nat.zero_le _⟩ (fun H locs hP hD hS => ?_)
    refine kc_Vb (rest := []) (cx_Alu_sum l G σ v1 (v2 ^^^ (-1)) (x_Registers_carry σ)) ⟨hx, hb, hml, hown, hts⟩ (cwV 3 hts (gi_V kw_388 kw_389 kw_390 kw_52 kw_391) rfl rfl rfl ⟨rfl, mdX0_sum⟩ ⟨by decide, by decide⟩) (va_recv hK hP (ci := 0) (q0 := 11) rfl rfl) cZ_ok hK hP hD hS hA hZ rfl hl.1 rfl (Nat.le_of_ble_eq_true rfl) dX0_compute_150 ⟨Nat.zero_le _, Nat.zero_le _⟩ (fun H locs hP hD hS => ?_)
    exact hret ((x_Alu_sum σ v1 (v2 ^^^ (-1)) (x_Registers_carry σ)).1) ((x_Alu_sum σ v1 (v2 ^^^ (-1)) (x_Registers_carry σ)).2) _ _ _ _ hf hP hD hS dX0_compute_153
  have hf := hf.trans (if_neg h_22)
  by_cases h_23 : v0 = 7
  · have hf := hf.trans (if_pos h_23)
    refine lv_tableIn (tgt := 154) hx hb dX0_compute_1 (by rw [h_23]; decide) (by rw [h_23]; decide) (by rw [h_23]; rfl) (by decide) ?_
    refine lv_aload_n hx hb dX0_compute_154 rfl (lv_at hl 0 rfl) ?_
    refine lv_iload_n hx hb dX0_compute_155 rfl (lv_at hl 3 rfl) ?_
    refine lv_iload_n hx hb dX0_compute_156 rfl (lv_at hl 2 rfl) ?_
    refine lv_iconst (v := (-1)) hx hb dX0_compute_157 (by decide) ?_
    refine lv_ixor hx hb dX0_compute_158 ?_
    refine lv_aload_n hx hb dX0_compute_159 rfl (lv_at hl 0 rfl) ?_
    refine va_get (D := gD G) (ci := 0) hx hb hts ku_0 hown hK hP 11 rfl rfl 0 (by decide) (hts _ kw_77) (fun _ h9 => h9) rfl dX0_compute_160 ?_
    refine kc_Vr (rest := [.int (v1 ^^^ (-1)), .int v2, .ref (gA G 11)]) (cx_Registers_carry l G σ) ⟨hx, hb, hml, hown, hts⟩ (cwV 0 hts (gi_V kw_366 kw_367 kw_368 kw_19 kw_369) rfl rfl rfl ⟨rfl, mdX6_carry⟩ ⟨by decide, by decide⟩) (va_recv hK hP (ci := 4) (q0 := 3) rfl rfl) cZ_ok hK hP hD hS hA hZ rfl hl.1 rfl (Nat.le_of_ble_eq_true rfl) dX0_compute_163 ⟨Nat.zero_le _, Nat.zero_le _⟩ (fun H locs hP hD hS => ?_)
    refine kc_Vb (rest := []) (cx_Alu_sum l G σ v2 (v1 ^^^ (-1)) (x_Registers_carry σ)) ⟨hx, hb, hml, hown, hts⟩ (cwV 3 hts (gi_V kw_388 kw_389 kw_390 kw_52 kw_391) rfl rfl rfl ⟨rfl, mdX0_sum⟩ ⟨by decide, by decide⟩) (va_recv hK hP (ci := 0) (q0 := 11) rfl rfl) cZ_ok hK hP hD hS hA hZ rfl hl.1 rfl (Nat.le_of_ble_eq_true rfl) dX0_compute_166 ⟨Nat.zero_le _, Nat.zero_le _⟩ (fun H locs hP hD hS => ?_)
    exact hret ((x_Alu_sum σ v2 (v1 ^^^ (-1)) (x_Registers_carry σ)).1) ((x_Alu_sum σ v2 (v1 ^^^ (-1)) (x_Registers_carry σ)).2) _ _ _ _ hf hP hD hS dX0_compute_169
  have hf := hf.trans (if_neg h_23)
  by_cases h_24 : v0 = 8
  · have hf := hf.trans (if_pos h_24)
    refine lv_tableIn (tgt := 76) hx hb dX0_compute_1 (by rw [h_24]; decide) (by rw [h_24]; decide) (by rw [h_24]; rfl) (by decide) ?_
    exact J76 _ _ _ hP hD hS (lv_sub hl [0, 2, 3, 4] rfl) hf
  have hf := hf.trans (if_neg h_24)
  by_cases h_25 : v0 = 9
  · have hf := hf.trans (if_pos h_25)
    refine lv_tableIn (tgt := 86) hx hb dX0_compute_1 (by rw [h_25]; decide) (by rw [h_25]; decide) (by rw [h_25]; rfl) (by decide) ?_
    exact J86 _ _ _ hP hD hS (lv_sub hl [0, 2, 3, 4] rfl) hf
  have hf := hf.trans (if_neg h_25)
  by_cases h_26 : v0 = 10
  · have hf := hf.trans (if_pos h_26)
    refine lv_tableIn (tgt := 96) hx hb dX0_compute_1 (by rw [h_26]; decide) (by rw [h_26]; decide) (by rw [h_26]; rfl) (by decide) ?_
    exact J96 _ _ _ hP hD hS (lv_sub hl [0, 2, 3] rfl) hf
  have hf := hf.trans (if_neg h_26)
  by_cases h_27 : v0 = 11
  · have hf := hf.trans (if_pos h_27)
    refine lv_tableIn (tgt := 116) hx hb dX0_compute_1 (by rw [h_27]; decide) (by rw [h_27]; decide) (by rw [h_27]; rfl) (by decide) ?_
    exact J116 _ _ _ hP hD hS (lv_sub hl [0, 2, 3] rfl) hf
  have hf := hf.trans (if_neg h_27)
  by_cases h_28 : v0 = 12
  · have hf := hf.trans (if_pos h_28)
    refine lv_tableIn (tgt := 170) hx hb dX0_compute_1 (by rw [h_28]; decide) (by rw [h_28]; decide) (by rw [h_28]; rfl) (by decide) ?_
    refine lv_aload_n hx hb dX0_compute_170 rfl (lv_at hl 0 rfl) ?_
    refine lv_iload_n hx hb dX0_compute_171 rfl (lv_at hl 2 rfl) ?_
    refine lv_iload_n hx hb dX0_compute_172 rfl (lv_at hl 3 rfl) ?_
    refine lv_ior hx hb dX0_compute_173 ?_
    refine lv_iload hx hb dX0_compute_174 (lv_at hl 4 rfl) ?_
    refine kc_Vb (rest := []) (cx_Alu_logic l G σ (v1 ||| v2) v3) ⟨hx, hb, hml, hown, hts⟩ (cwV 2 hts (gi_V kw_374 kw_375 kw_376 kw_52 kw_377) rfl rfl rfl ⟨rfl, mdX0_logic⟩ ⟨by decide, by decide⟩) (va_recv hK hP (ci := 0) (q0 := 11) rfl rfl) cZ_ok hK hP hD hS hA hZ rfl hl.1 rfl (Nat.le_of_ble_eq_true rfl) dX0_compute_176 ⟨Nat.zero_le _, Nat.zero_le _⟩ (fun H locs hP hD hS => ?_)
    exact hret ((x_Alu_logic σ (v1 ||| v2) v3).1) ((x_Alu_logic σ (v1 ||| v2) v3).2) _ _ _ _ hf hP hD hS dX0_compute_179
  have hf := hf.trans (if_neg h_28)
  by_cases h_29 : v0 = 13
  · have hf := hf.trans (if_pos h_29)
    refine lv_tableIn (tgt := 180) hx hb dX0_compute_1 (by rw [h_29]; decide) (by rw [h_29]; decide) (by rw [h_29]; rfl) (by decide) ?_
    refine lv_aload_n hx hb dX0_compute_180 rfl (lv_at hl 0 rfl) ?_
    refine lv_iload_n hx hb dX0_compute_181 rfl (lv_at hl 3 rfl) ?_
    refine lv_iload hx hb dX0_compute_182 (lv_at hl 4 rfl) ?_
    refine kc_Vb (rest := []) (cx_Alu_logic l G σ v2 v3) ⟨hx, hb, hml, hown, hts⟩ (cwV 2 hts (gi_V kw_374 kw_375 kw_376 kw_52 kw_377) rfl rfl rfl ⟨rfl, mdX0_logic⟩ ⟨by decide, by decide⟩) (va_recv hK hP (ci := 0) (q0 := 11) rfl rfl) cZ_ok hK hP hD hS hA hZ rfl hl.1 rfl (Nat.le_of_ble_eq_true rfl) dX0_compute_184 ⟨Nat.zero_le _, Nat.zero_le _⟩ (fun H locs hP hD hS => ?_)
    exact hret ((x_Alu_logic σ v2 v3).1) ((x_Alu_logic σ v2 v3).2) _ _ _ _ hf hP hD hS dX0_compute_187
  have hf := hf.trans (if_neg h_29)
  by_cases h_30 : v0 = 14
  · have hf := hf.trans (if_pos h_30)
    refine lv_tableIn (tgt := 188) hx hb dX0_compute_1 (by rw [h_30]; decide) (by rw [h_30]; decide) (by rw [h_30]; rfl) (by decide) ?_
    refine lv_aload_n hx hb dX0_compute_188 rfl (lv_at hl 0 rfl) ?_
    refine lv_iload_n hx hb dX0_compute_189 rfl (lv_at hl 2 rfl) ?_
    refine lv_iload_n hx hb dX0_compute_190 rfl (lv_at hl 3 rfl) ?_
    refine lv_iconst (v := (-1)) hx hb dX0_compute_191 (by decide) ?_
    refine lv_ixor hx hb dX0_compute_192 ?_
    refine lv_iand hx hb dX0_compute_193 ?_
    refine lv_iload hx hb dX0_compute_194 (lv_at hl 4 rfl) ?_
    refine kc_Vb (rest := []) (cx_Alu_logic l G σ (v1 &&& (v2 ^^^ (-1))) v3) ⟨hx, hb, hml, hown, hts⟩ (cwV 2 hts (gi_V kw_374 kw_375 kw_376 kw_52 kw_377) rfl rfl rfl ⟨rfl, mdX0_logic⟩ ⟨by decide, by decide⟩) (va_recv hK hP (ci := 0) (q0 := 11) rfl rfl) cZ_ok hK hP hD hS hA hZ rfl hl.1 rfl (Nat.le_of_ble_eq_true rfl) dX0_compute_196 ⟨Nat.zero_le _, Nat.zero_le _⟩ (fun H locs hP hD hS => ?_)
    exact hret ((x_Alu_logic σ (v1 &&& (v2 ^^^ (-1))) v3).1) ((x_Alu_logic σ (v1 &&& (v2 ^^^ (-1))) v3).2) _ _ _ _ hf hP hD hS dX0_compute_199
  have hf := hf.trans (if_neg h_30)
  refine ksw_dflt (tgt := 200) hx hb dX0_compute_1 [0, 1, 2, 3, 4, 5, 6, 7, 8, 9, 10, 11, 12, 13, 14] (ksw_c h_16 (ksw_c h_17 (ksw_c h_18 (ksw_c h_19 (ksw_c h_20 (ksw_c h_21 (ksw_c h_22 (ksw_c h_23 (ksw_c h_24 (ksw_c h_25 (ksw_c h_26 (ksw_c h_27 (ksw_c h_28 (ksw_c h_29 (ksw_c h_30 ksw_n))))))))))))))) (by decide) (by decide) ?_
  refine lv_aload_n hx hb dX0_compute_200 rfl (lv_at hl 0 rfl) ?_
  refine lv_iload_n hx hb dX0_compute_201 rfl (lv_at hl 3 rfl) ?_
  refine lv_iconst (v := (-1)) hx hb dX0_compute_202 (by decide) ?_
  refine lv_ixor hx hb dX0_compute_203 ?_
  refine lv_iload hx hb dX0_compute_204 (lv_at hl 4 rfl) ?_
  refine kc_Vb (rest := []) (cx_Alu_logic l G σ (v2 ^^^ (-1)) v3) ⟨hx, hb, hml, hown, hts⟩ (cwV 2 hts (gi_V kw_374 kw_375 kw_376 kw_52 kw_377) rfl rfl rfl ⟨rfl, mdX0_logic⟩ ⟨by decide, by decide⟩) (va_recv hK hP (ci := 0) (q0 := 11) rfl rfl) cZ_ok hK hP hD hS hA hZ rfl hl.1 rfl (Nat.le_of_ble_eq_true rfl) dX0_compute_206 ⟨Nat.zero_le _, Nat.zero_le _⟩ (fun H locs hP hD hS => ?_)
  exact hret ((x_Alu_logic σ (v2 ^^^ (-1)) v3).1) ((x_Alu_logic σ (v2 ^^^ (-1)) v3).2) _ _ _ _ hf hP hD hS dX0_compute_209
def x_Alu_apply (σ : CS) (v0 : Int32) (v1 : Int32) (v2 : Int32) (v3 : Int32) : CS := (if (x_Alu_isTest v0) = true then x_Registers_changeFlags ((x_Alu_compute σ v0 v2 v3 (x_Registers_carry σ)).2) (c_flags ((x_Alu_compute σ v0 v2 v3 (x_Registers_carry σ)).2)) else x_Registers_write (x_Registers_changeFlags ((x_Alu_compute σ v0 v2 v3 (x_Registers_carry σ)).2) (c_flags ((x_Alu_compute σ v0 v2 v3 (x_Registers_carry σ)).2))) v1 ((x_Alu_compute σ v0 v2 v3 (x_Registers_carry σ)).1))
set_option maxRecDepth 20000 in
set_option maxHeartbeats 4000000 in
theorem cx_Alu_apply (l : Launch) (G : KG) (σ : CS) (v0 : Int32) (v1 : Int32) (v2 : Int32) (v3 : Int32) (hv1 : vp_in v1 16) : KV l yX0_apply (Cond.code yX0_apply cX0_apply 6 none :: lw_all) (kr 3) (gD G) vwCl (gT G) (cZ G) (cW G) [.ref (gA G 11), .int v0, .int v1, .int v2, .int v3] σ (x_Alu_apply σ v0 v1 v2 v3) := by
  refine kc_in_v (q := x_Alu_apply σ v0 v1 v2 v3) (by decide) rfl (Nat.le_of_ble_eq_true rfl) ?_
  intro p e s m args below meth c A Q ls hx hb hml hown hts hK hP hD hA hS hZ hl hret
  have hts := fun w h => hts w (List.mem_cons_of_mem _ h)
  have hl : lv_has ls 6 [(0, .ref (gA G 11)), (1, .int v0), (2, .int v1), (3, .int v2), (4, .int v3)] := hl
  have hf : x_Alu_apply σ v0 v1 v2 v3 = x_Alu_apply σ v0 v1 v2 v3 := rfl
  refine lv_aload_n hx hb dX0_apply_0 rfl (lv_at hl 0 rfl) ?_
  refine lv_iload_n hx hb dX0_apply_1 rfl (lv_at hl 1 rfl) ?_
  refine lv_iload_n hx hb dX0_apply_2 rfl (lv_at hl 3 rfl) ?_
  refine lv_iload hx hb dX0_apply_3 (lv_at hl 4 rfl) ?_
  refine lv_aload_n hx hb dX0_apply_5 rfl (lv_at hl 0 rfl) ?_
  refine va_get (D := gD G) (ci := 0) hx hb hts ku_0 hown hK hP 11 rfl rfl 0 (by decide) (hts _ kw_77) (fun _ h9 => h9) rfl dX0_apply_6 ?_
  refine kc_Vr (rest := [.int v3, .int v2, .int v0, .ref (gA G 11)]) (cx_Registers_carry l G σ) ⟨hx, hb, hml, hown, hts⟩ (cwV 0 hts (gi_V kw_366 kw_367 kw_368 kw_19 kw_369) rfl rfl rfl ⟨rfl, mdX6_carry⟩ ⟨by decide, by decide⟩) (va_recv hK hP (ci := 4) (q0 := 3) rfl rfl) cZ_ok hK hP hD hS hA hZ rfl hl.1 rfl (Nat.le_of_ble_eq_true rfl) dX0_apply_9 ⟨Nat.zero_le _, Nat.zero_le _⟩ (fun H locs hP hD hS => ?_)
  refine kc_Vb (rest := []) (cx_Alu_compute l G σ v0 v2 v3 (x_Registers_carry σ)) ⟨hx, hb, hml, hown, hts⟩ (cwV 4 hts (gi_V kw_370 kw_371 kw_372 kw_52 kw_373) rfl rfl rfl ⟨rfl, mdX0_compute⟩ ⟨by decide, by decide⟩) (va_recv hK hP (ci := 0) (q0 := 11) rfl rfl) cZ_ok hK hP hD hS hA hZ rfl hl.1 rfl (Nat.le_of_ble_eq_true rfl) dX0_apply_12 ⟨Nat.zero_le _, Nat.zero_le _⟩ (fun H locs hP hD hS => ?_)
  refine lv_istore (lv' := [(5, .int ((x_Alu_compute σ v0 v2 v3 (x_Registers_carry σ)).1)), (0, .ref (gA G 11)), (1, .int v0), (2, .int v1), (3, .int v2), (4, .int v3)]) hx hb dX0_apply_15 hl (by decide) rfl (fun ls hl => ?_)
  refine lv_aload_n hx hb dX0_apply_17 rfl (lv_at hl 1 rfl) ?_
  refine va_get (D := gD G) (ci := 0) hx hb hts ku_0 hown hK hP 11 rfl rfl 0 (by decide) (hts _ kw_77) (fun _ h9 => h9) rfl dX0_apply_18 ?_
  refine lv_aload_n hx hb dX0_apply_21 rfl (lv_at hl 1 rfl) ?_
  refine va_get (D := gD G) (ci := 0) hx hb hts ku_0 hown hK hP 11 rfl rfl 1 (by decide) (hts _ kw_78) (fun _ h9 => h9) rfl dX0_apply_22 ?_
  refine kc_Vv (rest := []) (cx_Registers_changeFlags l G ((x_Alu_compute σ v0 v2 v3 (x_Registers_carry σ)).2) (c_flags ((x_Alu_compute σ v0 v2 v3 (x_Registers_carry σ)).2))) ⟨hx, hb, hml, hown, hts⟩ (cwV 1 hts (gi_V kw_393 kw_394 kw_395 kw_19 kw_396) rfl rfl rfl ⟨rfl, mdX6_changeFlags⟩ ⟨by decide, by decide⟩) (va_recv hK hP (ci := 4) (q0 := 3) rfl rfl) cZ_ok hK hP hD hS hA hZ rfl hl.1 rfl (Nat.le_of_ble_eq_true rfl) dX0_apply_25 ⟨Nat.zero_le _, Nat.zero_le _⟩ (fun H locs hP hD hS => ?_)
  refine lv_iload_n hx hb dX0_apply_28 rfl (lv_at hl 2 rfl) ?_
  refine kp_Si (rest := []) (cx_Alu_isTest l v0) ⟨hx, hb, hml, hown, hts⟩ (va_cwS 1 hts (gi_S kw_399 kw_400 kw_52 kw_401) rfl rfl rfl mdX0_isTest ⟨by decide, by decide⟩) rfl hl.1 rfl (Nat.le_of_ble_eq_true rfl) dX0_apply_29 ⟨Nat.zero_le _, Nat.zero_le _⟩ ?_
  refine kz_ne (tgt := 45) hx hb dX0_apply_32 (by decide) (fun h_2 => ?_) (fun h_2 => ?_)
  · have hf := hf.trans (if_pos h_2)
    exact hret (x_Registers_changeFlags ((x_Alu_compute σ v0 v2 v3 (x_Registers_carry σ)).2) (c_flags ((x_Alu_compute σ v0 v2 v3 (x_Registers_carry σ)).2))) _ _ _ _ hf hP hD hS dX0_apply_45
  · have hf := hf.trans (if_neg h_2)
    refine lv_aload_n hx hb dX0_apply_35 rfl (lv_at hl 1 rfl) ?_
    refine va_get (D := gD G) (ci := 0) hx hb hts ku_0 hown hK hP 11 rfl rfl 0 (by decide) (hts _ kw_77) (fun _ h9 => h9) rfl dX0_apply_36 ?_
    refine lv_iload_n hx hb dX0_apply_39 rfl (lv_at hl 3 rfl) ?_
    refine lv_iload hx hb dX0_apply_40 (lv_at hl 0 rfl) ?_
    refine kc_Vv (rest := []) (cx_Registers_write l G (x_Registers_changeFlags ((x_Alu_compute σ v0 v2 v3 (x_Registers_carry σ)).2) (c_flags ((x_Alu_compute σ v0 v2 v3 (x_Registers_carry σ)).2))) v1 ((x_Alu_compute σ v0 v2 v3 (x_Registers_carry σ)).1) hv1) ⟨hx, hb, hml, hown, hts⟩ (cwV 2 hts (gi_V kw_402 kw_403 kw_404 kw_19 kw_405) rfl rfl rfl ⟨rfl, mdX6_write⟩ ⟨by decide, by decide⟩) (va_recv hK hP (ci := 4) (q0 := 3) rfl rfl) cZ_ok hK hP hD hS hA hZ rfl hl.1 rfl (Nat.le_of_ble_eq_true rfl) dX0_apply_42 ⟨Nat.zero_le _, Nat.zero_le _⟩ (fun H locs hP hD hS => ?_)
    exact hret (x_Registers_write (x_Registers_changeFlags ((x_Alu_compute σ v0 v2 v3 (x_Registers_carry σ)).2) (c_flags ((x_Alu_compute σ v0 v2 v3 (x_Registers_carry σ)).2))) v1 ((x_Alu_compute σ v0 v2 v3 (x_Registers_carry σ)).1)) _ _ _ _ hf hP hD hS dX0_apply_45
def x_Alu_flagsOfProduct (σ : CS) (v0 : Int64) : CS := x_Registers_changeFlags (x_Alu_keep σ (decide (¬ 0 ≤ (lg_cmp v0 0))) (decide ((lg_cmp v0 0) = 0)) (x_Registers_carry σ) (x_Registers_overflow σ)) (c_flags (x_Alu_keep σ (decide (¬ 0 ≤ (lg_cmp v0 0))) (decide ((lg_cmp v0 0) = 0)) (x_Registers_carry σ) (x_Registers_overflow σ)))
set_option maxRecDepth 20000 in
set_option maxHeartbeats 4000000 in
theorem cx_Alu_flagsOfProduct (l : Launch) (G : KG) (σ : CS) (v0 : Int64) : KV l yX0_flagsOfProduct (Cond.code yX0_flagsOfProduct cX0_flagsOfProduct 3 none :: lw_all) (kr 1) (gD G) vwCl (gT G) (cZ G) (cW G) [.ref (gA G 11), .long v0] σ (x_Alu_flagsOfProduct σ v0) := by
  refine kc_in_v (q := x_Alu_flagsOfProduct σ v0) (by decide) rfl (Nat.le_of_ble_eq_true rfl) ?_
  intro p e s m args below meth c A Q ls hx hb hml hown hts hK hP hD hA hS hZ hl hret
  have hts := fun w h => hts w (List.mem_cons_of_mem _ h)
  have hl : lv_has ls 3 [(0, .ref (gA G 11)), (1, .long v0)] := hl
  have hf : x_Alu_flagsOfProduct σ v0 = x_Alu_flagsOfProduct σ v0 := rfl
  refine lv_aload_n hx hb dX0_flagsOfProduct_0 rfl (lv_at hl 0 rfl) ?_
  refine lv_lload_n hx hb dX0_flagsOfProduct_1 rfl (lv_at hl 1 rfl) ?_
  refine lv_lconst (v := 0) hx hb dX0_flagsOfProduct_2 (by decide) ?_
  refine W.lcmp hx hb dX0_flagsOfProduct_3 ?_
  refine kz_dP0 (P := 0 ≤ (lg_cmp v0 0)) (tgt := 11) (M := 12) (fun a b => lv_if_ge (tgt := 11) hx hb dX0_flagsOfProduct_4 (by decide) a b) hx hb dX0_flagsOfProduct_7 dX0_flagsOfProduct_8 (by decide) dX0_flagsOfProduct_11 rfl ?_
  refine lv_lload_n hx hb dX0_flagsOfProduct_12 rfl (lv_at hl 1 rfl) ?_
  refine lv_lconst (v := 0) hx hb dX0_flagsOfProduct_13 (by decide) ?_
  refine W.lcmp hx hb dX0_flagsOfProduct_14 ?_
  refine kz_dN0 (P := (lg_cmp v0 0) = 0) (tgt := 22) (M := 23) (fun a b => lv_if_ne (tgt := 22) hx hb dX0_flagsOfProduct_15 (by decide) a b) hx hb dX0_flagsOfProduct_18 dX0_flagsOfProduct_19 (by decide) dX0_flagsOfProduct_22 rfl ?_
  refine lv_aload_n hx hb dX0_flagsOfProduct_23 rfl (lv_at hl 0 rfl) ?_
  refine va_get (D := gD G) (ci := 0) hx hb hts ku_0 hown hK hP 11 rfl rfl 0 (by decide) (hts _ kw_77) (fun _ h9 => h9) rfl dX0_flagsOfProduct_24 ?_
  refine kc_Vr (rest := [.int (b01 (decide ((lg_cmp v0 0) = 0))), .int (b01 (decide (¬ 0 ≤ (lg_cmp v0 0)))), .ref (gA G 11)]) (cx_Registers_carry l G σ) ⟨hx, hb, hml, hown, hts⟩ (cwV 0 hts (gi_V kw_366 kw_367 kw_368 kw_19 kw_369) rfl rfl rfl ⟨rfl, mdX6_carry⟩ ⟨by decide, by decide⟩) (va_recv hK hP (ci := 4) (q0 := 3) rfl rfl) cZ_ok hK hP hD hS hA hZ rfl hl.1 rfl (Nat.le_of_ble_eq_true rfl) dX0_flagsOfProduct_27 ⟨Nat.zero_le _, Nat.zero_le _⟩ (fun H locs hP hD hS => ?_)
  refine lv_aload_n hx hb dX0_flagsOfProduct_30 rfl (lv_at hl 0 rfl) ?_
  refine va_get (D := gD G) (ci := 0) hx hb hts ku_0 hown hK hP 11 rfl rfl 0 (by decide) (hts _ kw_77) (fun _ h9 => h9) rfl dX0_flagsOfProduct_31 ?_
  refine kc_Vr (rest := [.int (x_Registers_carry σ), .int (b01 (decide ((lg_cmp v0 0) = 0))), .int (b01 (decide (¬ 0 ≤ (lg_cmp v0 0)))), .ref (gA G 11)]) (cx_Registers_overflow l G σ) ⟨hx, hb, hml, hown, hts⟩ (cwV 0 hts (gi_V kw_378 kw_379 kw_380 kw_19 kw_381) rfl rfl rfl ⟨rfl, mdX6_overflow⟩ ⟨by decide, by decide⟩) (va_recv hK hP (ci := 4) (q0 := 3) rfl rfl) cZ_ok hK hP hD hS hA hZ rfl hl.1 rfl (Nat.le_of_ble_eq_true rfl) dX0_flagsOfProduct_34 ⟨Nat.zero_le _, Nat.zero_le _⟩ (fun H locs hP hD hS => ?_)
  refine kc_Vv (rest := []) (cx_Alu_keep l G σ (decide (¬ 0 ≤ (lg_cmp v0 0))) (decide ((lg_cmp v0 0) = 0)) (x_Registers_carry σ) (x_Registers_overflow σ)) ⟨hx, hb, hml, hown, hts⟩ (cwV 4 hts (gi_V kw_382 kw_383 kw_384 kw_52 kw_385) rfl rfl rfl ⟨rfl, mdX0_keep⟩ ⟨by decide, by decide⟩) (va_recv hK hP (ci := 0) (q0 := 11) rfl rfl) cZ_ok hK hP hD hS hA hZ rfl hl.1 rfl (Nat.le_of_ble_eq_true rfl) dX0_flagsOfProduct_37 ⟨Nat.zero_le _, Nat.zero_le _⟩ (fun H locs hP hD hS => ?_)
  refine lv_aload_n hx hb dX0_flagsOfProduct_40 rfl (lv_at hl 0 rfl) ?_
  refine va_get (D := gD G) (ci := 0) hx hb hts ku_0 hown hK hP 11 rfl rfl 0 (by decide) (hts _ kw_77) (fun _ h9 => h9) rfl dX0_flagsOfProduct_41 ?_
  refine lv_aload_n hx hb dX0_flagsOfProduct_44 rfl (lv_at hl 0 rfl) ?_
  refine va_get (D := gD G) (ci := 0) hx hb hts ku_0 hown hK hP 11 rfl rfl 1 (by decide) (hts _ kw_78) (fun _ h9 => h9) rfl dX0_flagsOfProduct_45 ?_
  refine kc_Vv (rest := []) (cx_Registers_changeFlags l G (x_Alu_keep σ (decide (¬ 0 ≤ (lg_cmp v0 0))) (decide ((lg_cmp v0 0) = 0)) (x_Registers_carry σ) (x_Registers_overflow σ)) (c_flags (x_Alu_keep σ (decide (¬ 0 ≤ (lg_cmp v0 0))) (decide ((lg_cmp v0 0) = 0)) (x_Registers_carry σ) (x_Registers_overflow σ)))) ⟨hx, hb, hml, hown, hts⟩ (cwV 1 hts (gi_V kw_393 kw_394 kw_395 kw_19 kw_396) rfl rfl rfl ⟨rfl, mdX6_changeFlags⟩ ⟨by decide, by decide⟩) (va_recv hK hP (ci := 4) (q0 := 3) rfl rfl) cZ_ok hK hP hD hS hA hZ rfl hl.1 rfl (Nat.le_of_ble_eq_true rfl) dX0_flagsOfProduct_48 ⟨Nat.zero_le _, Nat.zero_le _⟩ (fun H locs hP hD hS => ?_)
  exact hret (x_Registers_changeFlags (x_Alu_keep σ (decide (¬ 0 ≤ (lg_cmp v0 0))) (decide ((lg_cmp v0 0) = 0)) (x_Registers_carry σ) (x_Registers_overflow σ)) (c_flags (x_Alu_keep σ (decide (¬ 0 ≤ (lg_cmp v0 0))) (decide ((lg_cmp v0 0) = 0)) (x_Registers_carry σ) (x_Registers_overflow σ)))) _ _ _ _ hf hP hD hS dX0_flagsOfProduct_51
