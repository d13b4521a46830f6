def le33 (v : Int32) : Prop := v ≤ 33
theorem le33_of {v : Int32} (h : v ≤ 33) : le33 v := h
theorem lp33 {b i : Int32} (h : le33 b) (hc : ¬ b ≤ i) : ¬ nI 33 ≤ i := fun q => hc (Int32.le_trans h q)
def y_Model_shift_87 (σ : MS) (v0 : Int32) (v1 : Int32) (v2 : Int32) : Nat → Int32 → Int32 → Int32 → MS → Int32 × MS
  | 0, _, _, _, _ => (0, σ)
  | n + 1, k0_79, n5_87, n6_87, τ_87 => (if k0_79 ≤ n6_87 then (n5_87, τ_87) else (if v0 = 0 then (if 0 ≤ n5_87 then (if v0 = 0 then y_Model_shift_87 σ v0 v1 v2 n k0_79 (n5_87 <<< ((1 : Int32) &&& 31)) (n6_87 + 1) (t_carry τ_87 false) else (if v0 = 1 then y_Model_shift_87 σ v0 v1 v2 n k0_79 (iu n5_87 1) (n6_87 + 1) (t_carry τ_87 false) else y_Model_shift_87 σ v0 v1 v2 n k0_79 (n5_87 >>> ((1 : Int32) &&& 31)) (n6_87 + 1) (t_carry τ_87 false))) else (if v0 = 0 then y_Model_shift_87 σ v0 v1 v2 n k0_79 (n5_87 <<< ((1 : Int32) &&& 31)) (n6_87 + 1) (t_carry τ_87 true) else (if v0 = 1 then y_Model_shift_87 σ v0 v1 v2 n k0_79 (iu n5_87 1) (n6_87 + 1) (t_carry τ_87 true) else y_Model_shift_87 σ v0 v1 v2 n k0_79 (n5_87 >>> ((1 : Int32) &&& 31)) (n6_87 + 1) (t_carry τ_87 true)))) else (if (n5_87 &&& 1) = 1 then (if v0 = 0 then y_Model_shift_87 σ v0 v1 v2 n k0_79 (n5_87 <<< ((1 : Int32) &&& 31)) (n6_87 + 1) (t_carry τ_87 true) else (if v0 = 1 then y_Model_shift_87 σ v0 v1 v2 n k0_79 (iu n5_87 1) (n6_87 + 1) (t_carry τ_87 true) else y_Model_shift_87 σ v0 v1 v2 n k0_79 (n5_87 >>> ((1 : Int32) &&& 31)) (n6_87 + 1) (t_carry τ_87 true))) else (if v0 = 0 then y_Model_shift_87 σ v0 v1 v2 n k0_79 (n5_87 <<< ((1 : Int32) &&& 31)) (n6_87 + 1) (t_carry τ_87 false) else (if v0 = 1 then y_Model_shift_87 σ v0 v1 v2 n k0_79 (iu n5_87 1) (n6_87 + 1) (t_carry τ_87 false) else y_Model_shift_87 σ v0 v1 v2 n k0_79 (n5_87 >>> ((1 : Int32) &&& 31)) (n6_87 + 1) (t_carry τ_87 false))))))
def y_Model_shift_79 (σ : MS) (v0 : Int32) (v1 : Int32) (v2 : Int32) (k0_79 : Int32) : Int32 × MS := y_Model_shift_87 σ v0 v1 v2 34 k0_79 v1 0 (t_carry σ (y_Model_is σ 29))
def y_Model_shift_48 (σ : MS) (v0 : Int32) (v1 : Int32) (v2 : Int32) (k0_48 : Int32) : Int32 × MS := (k0_48, t_carry (t_carry σ (y_Model_is σ 29)) (decide (¬ 0 ≤ k0_48)))
def y_Model_shift (σ : MS) (v0 : Int32) (v1 : Int32) (v2 : Int32) : Int32 × MS := (if v2 = 0 then (v1, t_carry σ (y_Model_is σ 29)) else (if v0 = 3 then (if (v2 &&& 31) = 0 then y_Model_shift_48 σ v0 v1 v2 v1 else y_Model_shift_48 σ v0 v1 v2 ((iu v1 (v2 &&& 31)) ||| (v1 <<< ((32 - (v2 &&& 31)) &&& 31)))) else (if v2 ≤ 33 then y_Model_shift_79 σ v0 v1 v2 v2 else y_Model_shift_79 σ v0 v1 v2 33)))
set_option maxRecDepth 20000 in
set_option maxHeartbeats 4000000 in
theorem cy_Model_shift (l : Launch) (G : KG) (σ : MS) (v0 : Int32) (v1 : Int32) (v2 : Int32) : KB l yX11_shift (Cond.code yX11_shift cX11_shift 7 (some .int) :: lw_all) (kr 1) (gD G) vwCl (gT G) (mZ G) (mW G) [.ref (gA G 20), .int v0, .int v1, .int v2] σ (y_Model_shift σ v0 v1 v2) := by
  refine kc_in_b (q := y_Model_shift σ v0 v1 v2) (by decide) rfl (Nat.le_of_ble_eq_true rfl) ?_
  intro p e s m args below meth c A Q ls hx hb hml hown hts hK hP hD hA hS hZ hl hret
  have hts := fun w h => hts w (List.mem_cons_of_mem _ h)
  have hl : lv_has ls 7 [(0, .ref (gA G 20)), (1, .int v0), (2, .int v1), (3, .int v2)] := hl
  have hf : y_Model_shift σ v0 v1 v2 = y_Model_shift σ v0 v1 v2 := rfl
  have J87 : ∀ (n : Nat), ∀ (k0_79 : Int32) (n5_87 : Int32) (n6_87 : Int32) (τ_87 : MS) (hk0_79 : le33 k0_79) (H : Heap) (locs : List Loc) (ls : Array Slot), va_P (gD G) vwCl (mW G (τ_87)) H → va_D A (mW G (τ_87)) → va_S A s.heap H locs → lv_has ls 7 [(0, .ref (gA G 20)), (1, .int v0), (4, .int k0_79), (5, .int n5_87), (6, .int n6_87)] → y_Model_shift σ v0 v1 v2 = y_Model_shift_87 σ v0 v1 v2 n k0_79 n5_87 n6_87 τ_87 → lpI 33 n n6_87 → W p l e (kr 1) s m args below meth c H locs 0 0 Q (F0 m 87 ls []) := by
    intro n
    induction n with
    | zero =>
      intro k0_79 n5_87 n6_87 τ_87 hk0_79 H locs ls hP hD hS hl hf hinv
      exact absurd hinv lpI_0
    | succ n ih =>
      intro k0_79 n5_87 n6_87 τ_87 hk0_79 H locs ls hP hD hS hl hf hinv
      refine lv_iload hx hb dX11_shift_87 (lv_at hl 4 rfl) ?_
      refine lv_iload hx hb dX11_shift_89 (lv_at hl 2 rfl) ?_
      refine lv_icmp_ge (tgt := 163) hx hb dX11_shift_91 (by decide) (fun h_18 => ?_) (fun h_18 => ?_)
      · have hf := hf.trans (if_pos h_18)
        refine lv_iload hx hb dX11_shift_163 (lv_at hl 3 rfl) ?_
        exact hret n5_87 τ_87 _ _ _ _ hf hP hD hS dX11_shift_165
      · have hf := hf.trans (if_neg h_18)
        refine lv_aload_n hx hb dX11_shift_94 rfl (lv_at hl 0 rfl) ?_
        refine lv_iload_n hx hb dX11_shift_95 rfl (lv_at hl 1 rfl) ?_
        refine lv_if_ne (tgt := 112) hx hb dX11_shift_96 (by decide) (fun h_19 => ?_) (fun h_19 => ?_)
        · have hf := hf.trans (if_neg h_19)
          refine lv_iload hx hb dX11_shift_112 (lv_at hl 3 rfl) ?_
          refine lv_iconst (v := 1) hx hb dX11_shift_114 (by decide) ?_
          refine lv_iand hx hb dX11_shift_115 ?_
          refine lv_iconst (v := 1) hx hb dX11_shift_116 (by decide) ?_
          refine lv_icmp_ne (tgt := 124) hx hb dX11_shift_117 (by decide) (fun h_20 => ?_) (fun h_20 => ?_)
          · have hf := hf.trans (if_neg h_20)
            refine lv_iconst (v := 0) hx hb dX11_shift_124 (by decide) ?_
            refine va_put (D := gD G) (ci := 9) (v := .int (b01 false)) (ty := .boolean) hx hb hts ku_11 tyX11 tyX11_ok nmX11 hown hK hP hD hS 0 rfl rfl 12 (by decide) (hts _ kw_762) (fun _ h9 => h9) rfl (tyX11_ok 12 (by decide)) (b01_nar _) (b01_fit _) (Nat.le_of_ble_eq_true rfl) dX11_shift_125 (fun H locs hP hD hS => ?_)
            have hP := kP_eq (mWs_carry G τ_87 false) hP
            have hD := kD_eq (mWs_carry G τ_87 false) hD
            refine lv_iload_n hx hb dX11_shift_128 rfl (lv_at hl 1 rfl) ?_
            refine lv_if_ne (tgt := 139) hx hb dX11_shift_129 (by decide) (fun h_21 => ?_) (fun h_21 => ?_)
            · have hf := hf.trans (if_neg h_21)
              refine lv_iload_n hx hb dX11_shift_139 rfl (lv_at hl 1 rfl) ?_
              refine lv_iconst (v := 1) hx hb dX11_shift_140 (by decide) ?_
              refine lv_icmp_ne (tgt := 151) hx hb dX11_shift_141 (by decide) (fun h_22 => ?_) (fun h_22 => ?_)
              · have hf := hf.trans (if_neg h_22)
                refine lv_iload hx hb dX11_shift_151 (lv_at hl 3 rfl) ?_
                refine lv_iconst (v := 1) hx hb dX11_shift_153 (by decide) ?_
                refine lv_ishr hx hb dX11_shift_154 ?_
                refine lv_istore (lv' := [(5, .int (n5_87 >>> ((1 : Int32) &&& 31))), (0, .ref (gA G 20)), (1, .int v0), (4, .int k0_79), (6, .int n6_87)]) hx hb dX11_shift_155 hl (by decide) rfl (fun ls hl => ?_)
                refine lv_iinc (v := n6_87 + 1) (lv' := [(6, .int (n6_87 + 1)), (5, .int (n5_87 >>> ((1 : Int32) &&& 31))), (0, .ref (gA G 20)), (1, .int v0), (4, .int k0_79)]) hx hb dX11_shift_157 hl (k := 4) rfl rfl (by decide) rfl (fun ls hl => ?_)
                refine lv_goto (tgt := 87) hx hb dX11_shift_160 (by decide) ?_
                exact ih k0_79 (n5_87 >>> ((1 : Int32) &&& 31)) (n6_87 + 1) (t_carry τ_87 false) hk0_79 _ _ _ hP hD hS (lv_sub hl [2, 3, 4, 1, 0] rfl) hf (lpI_s hinv (lp33 hk0_79 (by assumption)))
              · have hf := hf.trans (if_pos h_22)
                refine lv_iload hx hb dX11_shift_144 (lv_at hl 3 rfl) ?_
                refine lv_iconst (v := 1) hx hb dX11_shift_146 (by decide) ?_
                refine lv_iushr (v := iu n5_87 1) hx hb dX11_shift_147 rfl ?_
                refine lv_goto (tgt := 155) hx hb dX11_shift_148 (by decide) ?_
                refine lv_istore (lv' := [(5, .int (iu n5_87 1)), (0, .ref (gA G 20)), (1, .int v0), (4, .int k0_79), (6, .int n6_87)]) hx hb dX11_shift_155 hl (by decide) rfl (fun ls hl => ?_)
                refine lv_iinc (v := n6_87 + 1) (lv' := [(6, .int (n6_87 + 1)), (5, .int (iu n5_87 1)), (0, .ref (gA G 20)), (1, .int v0), (4, .int k0_79)]) hx hb dX11_shift_157 hl (k := 4) rfl rfl (by decide) rfl (fun ls hl => ?_)
                refine lv_goto (tgt := 87) hx hb dX11_shift_160 (by decide) ?_
                exact ih k0_79 (iu n5_87 1) (n6_87 + 1) (t_carry τ_87 false) hk0_79 _ _ _ hP hD hS (lv_sub hl [2, 3, 4, 1, 0] rfl) hf (lpI_s hinv (lp33 hk0_79 (by assumption)))
            · have hf := hf.trans (if_pos h_21)
              refine lv_iload hx hb dX11_shift_132 (lv_at hl 3 rfl) ?_
              refine lv_iconst (v := 1) hx hb dX11_shift_134 (by decide) ?_
              refine lv_ishl hx hb dX11_shift_135 ?_
              refine lv_goto (tgt := 155) hx hb dX11_shift_136 (by decide) ?_
              refine lv_istore (lv' := [(5, .int (n5_87 <<< ((1 : Int32) &&& 31))), (0, .ref (gA G 20)), (1, .int v0), (4, .int k0_79), (6, .int n6_87)]) hx hb dX11_shift_155 hl (by decide) rfl (fun ls hl => ?_)
              refine lv_iinc (v := n6_87 + 1) (lv' := [(6, .int (n6_87 + 1)), (5, .int (n5_87 <<< ((1 : Int32) &&& 31))), (0, .ref (gA G 20)), (1, .int v0), (4, .int k0_79)]) hx hb dX11_shift_157 hl (k := 4) rfl rfl (by decide) rfl (fun ls hl => ?_)
              refine lv_goto (tgt := 87) hx hb dX11_shift_160 (by decide) ?_
              exact ih k0_79 (n5_87 <<< ((1 : Int32) &&& 31)) (n6_87 + 1) (t_carry τ_87 false) hk0_79 _ _ _ hP hD hS (lv_sub hl [2, 3, 4, 1, 0] rfl) hf (lpI_s hinv (lp33 hk0_79 (by assumption)))
          · have hf := hf.trans (if_pos h_20)
            refine lv_iconst (v := 1) hx hb dX11_shift_120 (by decide) ?_
            refine lv_goto (tgt := 125) hx hb dX11_shift_121 (by decide) ?_
            refine va_put (D := gD G) (ci := 9) (v := .int (b01 true)) (ty := .boolean) hx hb hts ku_11 tyX11 tyX11_ok nmX11 hown hK hP hD hS 0 rfl rfl 12 (by decide) (hts _ kw_762) (fun _ h9 => h9) rfl (tyX11_ok 12 (by decide)) (b01_nar _) (b01_fit _) (Nat.le_of_ble_eq_true rfl) dX11_shift_125 (fun H locs hP hD hS => ?_)
            have hP := kP_eq (mWs_carry G τ_87 true) hP
            have hD := kD_eq (mWs_carry G τ_87 true) hD
            refine lv_iload_n hx hb dX11_shift_128 rfl (lv_at hl 1 rfl) ?_
            refine lv_if_ne (tgt := 139) hx hb dX11_shift_129 (by decide) (fun h_23 => ?_) (fun h_23 => ?_)
            · have hf := hf.trans (if_neg h_23)
              refine lv_iload_n hx hb dX11_shift_139 rfl (lv_at hl 1 rfl) ?_
              refine lv_iconst (v := 1) hx hb dX11_shift_140 (by decide) ?_
              refine lv_icmp_ne (tgt := 151) hx hb dX11_shift_141 (by decide) (fun h_24 => ?_) (fun h_24 => ?_)
              · have hf := hf.trans (if_neg h_24)
                refine lv_iload hx hb dX11_shift_151 (lv_at hl 3 rfl) ?_
                refine lv_iconst (v := 1) hx hb dX11_shift_153 (by decide) ?_
                refine lv_ishr hx hb dX11_shift_154 ?_
                refine lv_istore (lv' := [(5, .int (n5_87 >>> ((1 : Int32) &&& 31))), (0, .ref (gA G 20)), (1, .int v0), (4, .int k0_79), (6, .int n6_87)]) hx hb dX11_shift_155 hl (by decide) rfl (fun ls hl => ?_)
                refine lv_iinc (v := n6_87 + 1) (lv' := [(6, .int (n6_87 + 1)), (5, .int (n5_87 >>> ((1 : Int32) &&& 31))), (0, .ref (gA G 20)), (1, .int v0), (4, .int k0_79)]) hx hb dX11_shift_157 hl (k := 4) rfl rfl (by decide) rfl (fun ls hl => ?_)
                refine lv_goto (tgt := 87) hx hb dX11_shift_160 (by decide) ?_
                exact ih k0_79 (n5_87 >>> ((1 : Int32) &&& 31)) (n6_87 + 1) (t_carry τ_87 true) hk0_79 _ _ _ hP hD hS (lv_sub hl [2, 3, 4, 1, 0] rfl) hf (lpI_s hinv (lp33 hk0_79 (by assumption)))
              · have hf := hf.trans (if_pos h_24)
                refine lv_iload hx hb dX11_shift_144 (lv_at hl 3 rfl) ?_
                refine lv_iconst (v := 1) hx hb dX11_shift_146 (by decide) ?_
                refine lv_iushr (v := iu n5_87 1) hx hb dX11_shift_147 rfl ?_
                refine lv_goto (tgt := 155) hx hb dX11_shift_148 (by decide) ?_
                refine lv_istore (lv' := [(5, .int (iu n5_87 1)), (0, .ref (gA G 20)), (1, .int v0), (4, .int k0_79), (6, .int n6_87)]) hx hb dX11_shift_155 hl (by decide) rfl (fun ls hl => ?_)
                refine lv_iinc (v := n6_87 + 1) (lv' := [(6, .int (n6_87 + 1)), (5, .int (iu n5_87 1)), (0, .ref (gA G 20)), (1, .int v0), (4, .int k0_79)]) hx hb dX11_shift_157 hl (k := 4) rfl rfl (by decide) rfl (fun ls hl => ?_)
                refine lv_goto (tgt := 87) hx hb dX11_shift_160 (by decide) ?_
                exact ih k0_79 (iu n5_87 1) (n6_87 + 1) (t_carry τ_87 true) hk0_79 _ _ _ hP hD hS (lv_sub hl [2, 3, 4, 1, 0] rfl) hf (lpI_s hinv (lp33 hk0_79 (by assumption)))
            · have hf := hf.trans (if_pos h_23)
              refine lv_iload hx hb dX11_shift_132 (lv_at hl 3 rfl) ?_
              refine lv_iconst (v := 1) hx hb dX11_shift_134 (by decide) ?_
              refine lv_ishl hx hb dX11_shift_135 ?_
              refine lv_goto (tgt := 155) hx hb dX11_shift_136 (by decide) ?_
              refine lv_istore (lv' := [(5, .int (n5_87 <<< ((1 : Int32) &&& 31))), (0, .ref (gA G 20)), (1, .int v0), (4, .int k0_79), (6, .int n6_87)]) hx hb dX11_shift_155 hl (by decide) rfl (fun ls hl => ?_)
              refine lv_iinc (v := n6_87 + 1) (lv' := [(6, .int (n6_87 + 1)), (5, .int (n5_87 <<< ((1 : Int32) &&& 31))), (0, .ref (gA G 20)), (1, .int v0), (4, .int k0_79)]) hx hb dX11_shift_157 hl (k := 4) rfl rfl (by decide) rfl (fun ls hl => ?_)
              refine lv_goto (tgt := 87) hx hb dX11_shift_160 (by decide) ?_
              exact ih k0_79 (n5_87 <<< ((1 : Int32) &&& 31)) (n6_87 + 1) (t_carry τ_87 true) hk0_79 _ _ _ hP hD hS (lv_sub hl [2, 3, 4, 1, 0] rfl) hf (lpI_s hinv (lp33 hk0_79 (by assumption)))
        · have hf := hf.trans (if_pos h_19)
          refine lv_iload hx hb dX11_shift_99 (lv_at hl 3 rfl) ?_
          refine lv_if_ge (tgt := 108) hx hb dX11_shift_101 (by decide) (fun h_25 => ?_) (fun h_25 => ?_)
          · have hf := hf.trans (if_pos h_25)
            refine lv_iconst (v := 0) hx hb dX11_shift_108 (by decide) ?_
            refine lv_goto (tgt := 125) hx hb dX11_shift_109 (by decide) ?_
            refine va_put (D := gD G) (ci := 9) (v := .int (b01 false)) (ty := .boolean) hx hb hts ku_11 tyX11 tyX11_ok nmX11 hown hK hP hD hS 0 rfl rfl 12 (by decide) (hts _ kw_762) (fun _ h9 => h9) rfl (tyX11_ok 12 (by decide)) (b01_nar _) (b01_fit _) (Nat.le_of_ble_eq_true rfl) dX11_shift_125 (fun H locs hP hD hS => ?_)
            have hP := kP_eq (mWs_carry G τ_87 false) hP
            have hD := kD_eq (mWs_carry G τ_87 false) hD
            refine lv_iload_n hx hb dX11_shift_128 rfl (lv_at hl 1 rfl) ?_
            refine lv_if_ne (tgt := 139) hx hb dX11_shift_129 (by decide) (fun h_26 => ?_) (fun h_26 => ?_)
            · have hf := hf.trans (if_neg h_26)
              refine lv_iload_n hx hb dX11_shift_139 rfl (lv_at hl 1 rfl) ?_
              refine lv_iconst (v := 1) hx hb dX11_shift_140 (by decide) ?_
              refine lv_icmp_ne (tgt := 151) hx hb dX11_shift_141 (by decide) (fun h_27 => ?_) (fun h_27 => ?_)
              · have hf := hf.trans (if_neg h_27)
                refine lv_iload hx hb dX11_shift_151 (lv_at hl 3 rfl) ?_
                refine lv_iconst (v := 1) hx hb dX11_shift_153 (by decide) ?_
                refine lv_ishr hx hb dX11_shift_154 ?_
                refine lv_istore (lv' := [(5, .int (n5_87 >>> ((1 : Int32) &&& 31))), (0, .ref (gA G 20)), (1, .int v0), (4, .int k0_79), (6, .int n6_87)]) hx hb dX11_shift_155 hl (by decide) rfl (fun ls hl => ?_)
                refine lv_iinc (v := n6_87 + 1) (lv' := [(6, .int (n6_87 + 1)), (5, .int (n5_87 >>> ((1 : Int32) &&& 31))), (0, .ref (gA G 20)), (1, .int v0), (4, .int k0_79)]) hx hb dX11_shift_157 hl (k := 4) rfl rfl (by decide) rfl (fun ls hl => ?_)
                refine lv_goto (tgt := 87) hx hb dX11_shift_160 (by decide) ?_
                exact ih k0_79 (n5_87 >>> ((1 : Int32) &&& 31)) (n6_87 + 1) (t_carry τ_87 false) hk0_79 _ _ _ hP hD hS (lv_sub hl [2, 3, 4, 1, 0] rfl) hf (lpI_s hinv (lp33 hk0_79 (by assumption)))
              · have hf := hf.trans (if_pos h_27)
                refine lv_iload hx hb dX11_shift_144 (lv_at hl 3 rfl) ?_
                refine lv_iconst (v := 1) hx hb dX11_shift_146 (by decide) ?_
                refine lv_iushr (v := iu n5_87 1) hx hb dX11_shift_147 rfl ?_
                refine lv_goto (tgt := 155) hx hb dX11_shift_148 (by decide) ?_
                refine lv_istore (lv' := [(5, .int (iu n5_87 1)), (0, .ref (gA G 20)), (1, .int v0), (4, .int k0_79), (6, .int n6_87)]) hx hb dX11_shift_155 hl (by decide) rfl (fun ls hl => ?_)
                refine lv_iinc (v := n6_87 + 1) (lv' := [(6, .int (n6_87 + 1)), (5, .int (iu n5_87 1)), (0, .ref (gA G 20)), (1, .int v0), (4, .int k0_79)]) hx hb dX11_shift_157 hl (k := 4) rfl rfl (by decide) rfl (fun ls hl => ?_)
                refine lv_goto (tgt := 87) hx hb dX11_shift_160 (by decide) ?_
                exact ih k0_79 (iu n5_87 1) (n6_87 + 1) (t_carry τ_87 false) hk0_79 _ _ _ hP hD hS (lv_sub hl [2, 3, 4, 1, 0] rfl) hf (lpI_s hinv (lp33 hk0_79 (by assumption)))
            · have hf := hf.trans (if_pos h_26)
              refine lv_iload hx hb dX11_shift_132 (lv_at hl 3 rfl) ?_
              refine lv_iconst (v := 1) hx hb dX11_shift_134 (by decide) ?_
              refine lv_ishl hx hb dX11_shift_135 ?_
              refine lv_goto (tgt := 155) hx hb dX11_shift_136 (by decide) ?_
              refine lv_istore (lv' := [(5, .int (n5_87 <<< ((1 : Int32) &&& 31))), (0, .ref (gA G 20)), (1, .int v0), (4, .int k0_79), (6, .int n6_87)]) hx hb dX11_shift_155 hl (by decide) rfl (fun ls hl => ?_)
              refine lv_iinc (v := n6_87 + 1) (lv' := [(6, .int (n6_87 + 1)), (5, .int (n5_87 <<< ((1 : Int32) &&& 31))), (0, .ref (gA G 20)), (1, .int v0), (4, .int k0_79)]) hx hb dX11_shift_157 hl (k := 4) rfl rfl (by decide) rfl (fun ls hl => ?_)
              refine lv_goto (tgt := 87) hx hb dX11_shift_160 (by decide) ?_
              exact ih k0_79 (n5_87 <<< ((1 : Int32) &&& 31)) (n6_87 + 1) (t_carry τ_87 false) hk0_79 _ _ _ hP hD hS (lv_sub hl [2, 3, 4, 1, 0] rfl) hf (lpI_s hinv (lp33 hk0_79 (by assumption)))
          · have hf := hf.trans (if_neg h_25)
            refine lv_iconst (v := 1) hx hb dX11_shift_104 (by decide) ?_
            refine lv_goto (tgt := 125) hx hb dX11_shift_105 (by decide) ?_
            refine va_put (D := gD G) (ci := 9) (v := .int (b01 true)) (ty := .boolean) hx hb hts ku_11 tyX11 tyX11_ok nmX11 hown hK hP hD hS 0 rfl rfl 12 (by decide) (hts _ kw_762) (fun _ h9 => h9) rfl (tyX11_ok 12 (by decide)) (b01_nar _) (b01_fit _) (Nat.le_of_ble_eq_true rfl) dX11_shift_125 (fun H locs hP hD hS => ?_)
            have hP := kP_eq (mWs_carry G τ_87 true) hP
            have hD := kD_eq (mWs_carry G τ_87 true) hD
            refine lv_iload_n hx hb dX11_shift_128 rfl (lv_at hl 1 rfl) ?_
            refine lv_if_ne (tgt := 139) hx hb dX11_shift_129 (by decide) (fun h_28 => ?_) (fun h_28 => ?_)
            · have hf := hf.trans (if_neg h_28)
              refine lv_iload_n hx hb dX11_shift_139 rfl (lv_at hl 1 rfl) ?_
              refine lv_iconst (v := 1) hx hb dX11_shift_140 (by decide) ?_
              refine lv_icmp_ne (tgt := 151) hx hb dX11_shift_141 (by decide) (fun h_29 => ?_) (fun h_29 => ?_)
              · have hf := hf.trans (if_neg h_29)
                refine lv_iload hx hb dX11_shift_151 (lv_at hl 3 rfl) ?_
                refine lv_iconst (v := 1) hx hb dX11_shift_153 (by decide) ?_
                refine lv_ishr hx hb dX11_shift_154 ?_
                refine lv_istore (lv' := [(5, .int (n5_87 >>> ((1 : Int32) &&& 31))), (0, .ref (gA G 20)), (1, .int v0), (4, .int k0_79), (6, .int n6_87)]) hx hb dX11_shift_155 hl (by decide) rfl (fun ls hl => ?_)
                refine lv_iinc (v := n6_87 + 1) (lv' := [(6, .int (n6_87 + 1)), (5, .int (n5_87 >>> ((1 : Int32) &&& 31))), (0, .ref (gA G 20)), (1, .int v0), (4, .int k0_79)]) hx hb dX11_shift_157 hl (k := 4) rfl rfl (by decide) rfl (fun ls hl => ?_)
                refine lv_goto (tgt := 87) hx hb dX11_shift_160 (by decide) ?_
                exact ih k0_79 (n5_87 >>> ((1 : Int32) &&& 31)) (n6_87 + 1) (t_carry τ_87 true) hk0_79 _ _ _ hP hD hS (lv_sub hl [2, 3, 4, 1, 0] rfl) hf (lpI_s hinv (lp33 hk0_79 (by assumption)))
              · have hf := hf.trans (if_pos h_29)
                refine lv_iload hx hb dX11_shift_144 (lv_at hl 3 rfl) ?_
                refine lv_iconst (v := 1) hx hb dX11_shift_146 (by decide) ?_
                refine lv_iushr (v := iu n5_87 1) hx hb dX11_shift_147 rfl ?_
                refine lv_goto (tgt := 155) hx hb dX11_shift_148 (by decide) ?_
                refine lv_istore (lv' := [(5, .int (iu n5_87 1)), (0, .ref (gA G 20)), (1, .int v0), (4, .int k0_79), (6, .int n6_87)]) hx hb dX11_shift_155 hl (by decide) rfl (fun ls hl => ?_)
                refine lv_iinc (v := n6_87 + 1) (lv' := [(6, .int (n6_87 + 1)), (5, .int (iu n5_87 1)), (0, .ref (gA G 20)), (1, .int v0), (4, .int k0_79)]) hx hb dX11_shift_157 hl (k := 4) rfl rfl (by decide) rfl (fun ls hl => ?_)
                refine lv_goto (tgt := 87) hx hb dX11_shift_160 (by decide) ?_
                exact ih k0_79 (iu n5_87 1) (n6_87 + 1) (t_carry τ_87 true) hk0_79 _ _ _ hP hD hS (lv_sub hl [2, 3, 4, 1, 0] rfl) hf (lpI_s hinv (lp33 hk0_79 (by assumption)))
            · have hf := hf.trans (if_pos h_28)
              refine lv_iload hx hb dX11_shift_132 (lv_at hl 3 rfl) ?_
              refine lv_iconst (v := 1) hx hb dX11_shift_134 (by decide) ?_
              refine lv_ishl hx hb dX11_shift_135 ?_
              refine lv_goto (tgt := 155) hx hb dX11_shift_136 (by decide) ?_
              refine lv_istore (lv' := [(5, .int (n5_87 <<< ((1 : Int32) &&& 31))), (0, .ref (gA G 20)), (1, .int v0), (4, .int k0_79), (6, .int n6_87)]) hx hb dX11_shift_155 hl (by decide) rfl (fun ls hl => ?_)
              refine lv_iinc (v := n6_87 + 1) (lv' := [(6, .int (n6_87 + 1)), (5, .int (n5_87 <<< ((1 : Int32) &&& 31))), (0, .ref (gA G 20)), (1, .int v0), (4, .int k0_79)]) hx hb dX11_shift_157 hl (k := 4) rfl rfl (by decide) rfl (fun ls hl => ?_)
              refine lv_goto (tgt := 87) hx hb dX11_shift_160 (by decide) ?_
              exact ih k0_79 (n5_87 <<< ((1 : Int32) &&& 31)) (n6_87 + 1) (t_carry τ_87 true) hk0_79 _ _ _ hP hD hS (lv_sub hl [2, 3, 4, 1, 0] rfl) hf (lpI_s hinv (lp33 hk0_79 (by assumption)))
  have J79 : ∀ (k0_79 : Int32) (hk0_79 : le33 k0_79) (H : Heap) (locs : List Loc) (ls : Array Slot), va_P (gD G) vwCl (mW G (t_carry σ (y_Model_is σ 29))) H → va_D A (mW G (t_carry σ (y_Model_is σ 29))) → va_S A s.heap H locs → lv_has ls 7 [(0, .ref (gA G 20)), (1, .int v0), (2, .int v1)] → y_Model_shift σ v0 v1 v2 = y_Model_shift_79 σ v0 v1 v2 k0_79 → W p l e (kr 1) s m args below meth c H locs 0 0 Q (F0 m 79 ls [.int k0_79]) := by
    intro k0_79 hk0_79 H locs ls hP hD hS hl hf
    refine lv_istore (lv' := [(4, .int k0_79), (0, .ref (gA G 20)), (1, .int v0), (2, .int v1)]) hx hb dX11_shift_79 hl (by decide) rfl (fun ls hl => ?_)
    refine lv_iload_n hx hb dX11_shift_81 rfl (lv_at hl 3 rfl) ?_
    refine lv_istore (lv' := [(5, .int v1), (4, .int k0_79), (0, .ref (gA G 20)), (1, .int v0), (2, .int v1)]) hx hb dX11_shift_82 hl (by decide) rfl (fun ls hl => ?_)
    refine lv_iconst (v := 0) hx hb dX11_shift_84 (by decide) ?_
    refine lv_istore (lv' := [(6, .int 0), (5, .int v1), (4, .int k0_79), (0, .ref (gA G 20)), (1, .int v0), (2, .int v1)]) hx hb dX11_shift_85 hl (by decide) rfl (fun ls hl => ?_)
    exact J87 34 k0_79 v1 0 (t_carry σ (y_Model_is σ 29)) hk0_79 _ _ _ hP hD hS (lv_sub hl [3, 4, 2, 1, 0] rfl) hf (lpI_start 33)
  have J48 : ∀ (k0_48 : Int32) (H : Heap) (locs : List Loc) (ls : Array Slot), va_P (gD G) vwCl (mW G (t_carry σ (y_Model_is σ 29))) H → va_D A (mW G (t_carry σ (y_Model_is σ 29))) → va_S A s.heap H locs → lv_has ls 7 [(0, .ref (gA G 20))] → y_Model_shift σ v0 v1 v2 = y_Model_shift_48 σ v0 v1 v2 k0_48 → W p l e (kr 1) s m args below meth c H locs 0 0 Q (F0 m 48 ls [.int k0_48]) := by
    intro k0_48 H locs ls hP hD hS hl hf
    refine lv_istore (lv' := [(5, .int k0_48), (0, .ref (gA G 20))]) hx hb dX11_shift_48 hl (by decide) rfl (fun ls hl => ?_)
    refine lv_aload_n hx hb dX11_shift_50 rfl (lv_at hl 1 rfl) ?_
    refine lv_iload hx hb dX11_shift_51 (lv_at hl 0 rfl) ?_
    refine kz_dP0 (P := 0 ≤ k0_48) (tgt := 60) (M := 61) (fun a b => lv_if_ge (tgt := 60) hx hb dX11_shift_53 (by decide) a b) hx hb dX11_shift_56 dX11_shift_57 (by decide) dX11_shift_60 rfl ?_
    refine va_put (D := gD G) (ci := 9) (v := .int (b01 (decide (¬ 0 ≤ k0_48)))) (ty := .boolean) hx hb hts ku_11 tyX11 tyX11_ok nmX11 hown hK hP hD hS 0 rfl rfl 12 (by decide) (hts _ kw_762) (fun _ h9 => h9) rfl (tyX11_ok 12 (by decide)) (b01_nar _) (b01_fit _) (Nat.le_of_ble_eq_true rfl) dX11_shift_61 (fun H locs hP hD hS => ?_)
    have hP := kP_eq (mWs_carry G (t_carry σ (y_Model_is σ 29)) (decide (¬ 0 ≤ k0_48))) hP
    have hD := kD_eq (mWs_carry G (t_carry σ (y_Model_is σ 29)) (decide (¬ 0 ≤ k0_48))) hD
    refine lv_iload hx hb dX11_shift_64 (lv_at hl 0 rfl) ?_
    exact hret k0_48 (t_carry (t_carry σ (y_Model_is σ 29)) (decide (¬ 0 ≤ k0_48))) _ _ _ _ hf hP hD hS dX11_shift_66
  refine lv_aload_n hx hb dX11_shift_0 rfl (lv_at hl 0 rfl) ?_
  refine lv_aload_n hx hb dX11_shift_1 rfl (lv_at hl 0 rfl) ?_
  refine lv_bipush (v := 29) hx hb dX11_shift_2 (by decide) ?_
  refine kc_Vr (rest := [.ref (gA G 20)]) (cy_Model_is l G σ 29) ⟨hx, hb, hml, hown, hts⟩ (cwV 1 hts (gi_V kw_729 kw_730 kw_731 kw_5 kw_732) rfl rfl rfl ⟨rfl, mdX11_is⟩ ⟨by decide, by decide⟩) (va_recv hK hP (ci := 9) (q0 := 0) rfl rfl) mZ_ok hK hP hD hS hA hZ rfl hl.1 rfl (Nat.le_of_ble_eq_true rfl) dX11_shift_4 ⟨Nat.zero_le _, Nat.zero_le _⟩ (fun H locs hP hD hS => ?_)
  refine va_put (D := gD G) (ci := 9) (v := .int (b01 (y_Model_is σ 29))) (ty := .boolean) hx hb hts ku_11 tyX11 tyX11_ok nmX11 hown hK hP hD hS 0 rfl rfl 12 (by decide) (hts _ kw_762) (fun _ h9 => h9) rfl (tyX11_ok 12 (by decide)) (b01_nar _) (b01_fit _) (Nat.le_of_ble_eq_true rfl) dX11_shift_7 (fun H locs hP hD hS => ?_)
  have hP := kP_eq (mWs_carry G σ (y_Model_is σ 29)) hP
  have hD := kD_eq (mWs_carry G σ (y_Model_is σ 29)) hD
  refine lv_iload_n hx hb dX11_shift_10 rfl (lv_at hl 3 rfl) ?_
  refine lv_if_ne (tgt := 16) hx hb dX11_shift_11 (by decide) (fun h_31 => ?_) (fun h_31 => ?_)
  · have hf := hf.trans (if_neg h_31)
    refine lv_iload_n hx hb dX11_shift_16 rfl (lv_at hl 1 rfl) ?_
    refine lv_iconst (v := 3) hx hb dX11_shift_17 (by decide) ?_
    refine lv_icmp_ne (tgt := 67) hx hb dX11_shift_18 (by decide) (fun h_32 => ?_) (fun h_32 => ?_)
    · have hf := hf.trans (if_neg h_32)
      refine lv_iload_n hx hb dX11_shift_67 rfl (lv_at hl 3 rfl) ?_
      refine lv_bipush (v := 33) hx hb dX11_shift_68 (by decide) ?_
      refine lv_icmp_le (tgt := 78) hx hb dX11_shift_70 (by decide) (fun h_33 => ?_) (fun h_33 => ?_)
      · have hf := hf.trans (if_pos h_33)
        refine lv_iload_n hx hb dX11_shift_78 rfl (lv_at hl 3 rfl) ?_
        exact J79 v2 (le33_of (by assumption)) _ _ _ hP hD hS (lv_sub hl [0, 1, 2] rfl) hf
      · have hf := hf.trans (if_neg h_33)
        refine lv_bipush (v := 33) hx hb dX11_shift_73 (by decide) ?_
        refine lv_goto (tgt := 79) hx hb dX11_shift_75 (by decide) ?_
        exact J79 33 (by unfold le33; decide) _ _ _ hP hD hS (lv_sub hl [0, 1, 2] rfl) hf
    · have hf := hf.trans (if_pos h_32)
      refine lv_iload_n hx hb dX11_shift_21 rfl (lv_at hl 3 rfl) ?_
      refine lv_bipush (v := 31) hx hb dX11_shift_22 (by decide) ?_
      refine lv_iand hx hb dX11_shift_24 ?_
      refine lv_istore (lv' := [(4, .int (v2 &&& 31)), (0, .ref (gA G 20)), (1, .int v0), (2, .int v1), (3, .int v2)]) hx hb dX11_shift_25 hl (by decide) rfl (fun ls hl => ?_)
      refine lv_iload hx hb dX11_shift_27 (lv_at hl 0 rfl) ?_
      refine lv_if_ne (tgt := 36) hx hb dX11_shift_29 (by decide) (fun h_34 => ?_) (fun h_34 => ?_)
      · have hf := hf.trans (if_neg h_34)
        refine lv_iload_n hx hb dX11_shift_36 rfl (lv_at hl 3 rfl) ?_
        refine lv_iload hx hb dX11_shift_37 (lv_at hl 0 rfl) ?_
        refine lv_iushr (v := iu v1 (v2 &&& 31)) hx hb dX11_shift_39 rfl ?_
        refine lv_iload_n hx hb dX11_shift_40 rfl (lv_at hl 3 rfl) ?_
        refine lv_bipush (v := 32) hx hb dX11_shift_41 (by decide) ?_
        refine lv_iload hx hb dX11_shift_43 (lv_at hl 0 rfl) ?_
        refine lv_isub hx hb dX11_shift_45 ?_
        refine lv_ishl hx hb dX11_shift_46 ?_
        refine lv_ior hx hb dX11_shift_47 ?_
        exact J48 ((iu v1 (v2 &&& 31)) ||| (v1 <<< ((32 - (v2 &&& 31)) &&& 31))) _ _ _ hP hD hS (lv_sub hl [1] rfl) hf
      · have hf := hf.trans (if_pos h_34)
        refine lv_iload_n hx hb dX11_shift_32 rfl (lv_at hl 3 rfl) ?_
        refine lv_goto (tgt := 48) hx hb dX11_shift_33 (by decide) ?_
        exact J48 v1 _ _ _ hP hD hS (lv_sub hl [1] rfl) hf
  · have hf := hf.trans (if_pos h_31)
    refine lv_iload_n hx hb dX11_shift_14 rfl (lv_at hl 2 rfl) ?_
    exact hret v1 (t_carry σ (y_Model_is σ 29)) _ _ _ _ hf hP hD hS dX11_shift_15
