def y_Model_operate (σ : MS) (v0 : Int32) (v1 : Int32) (v2 : Int32) : Int32 × MS := (if v0 = 0 then (v1 &&& v2, σ) else (if v0 = 1 then (v1 ^^^ v2, σ) else (if v0 = 2 then (y_Model_sum σ v1 (v2 ^^^ (-1)) 1) else (if v0 = 3 then (y_Model_sum σ v2 (v1 ^^^ (-1)) 1) else (if v0 = 4 then (y_Model_sum σ v1 v2 0) else (if v0 = 5 then (y_Model_sum σ v1 v2 (y_Model_carryIn σ)) else (if v0 = 6 then (y_Model_sum σ v1 (v2 ^^^ (-1)) (y_Model_carryIn σ)) else (if v0 = 7 then (y_Model_sum σ v2 (v1 ^^^ (-1)) (y_Model_carryIn σ)) else (if v0 = 8 then (v1 &&& v2, σ) else (if v0 = 9 then (v1 ^^^ v2, σ) else (if v0 = 10 then (y_Model_sum σ v1 (v2 ^^^ (-1)) 1) else (if v0 = 11 then (y_Model_sum σ v1 v2 0) else (if v0 = 12 then (v1 ||| v2, σ) else (if v0 = 13 then (v2, σ) else (if v0 = 14 then (v1 &&& (v2 ^^^ (-1)), σ) else (v2 ^^^ (-1), σ))))))))))))))))
set_option maxRecDepth 20000 in
set_option maxHeartbeats 4000000 in
theorem cy_Model_operate (l : Launch) (G : KG) (σ : MS) (v0 : Int32) (v1 : Int32) (v2 : Int32) : KB l yX11_operate (Cond.code yX11_operate cX11_operate 4 (some .int) :: lw_all) (kr 2) (gD G) vwCl (gT G) (mZ G) (mW G) [.ref (gA G 20), .int v0, .int v1, .int v2] σ (y_Model_operate σ v0 v1 v2) := by
  refine kc_in_b (q := y_Model_operate σ v0 v1 v2) (by decide) rfl (Nat.le_of_ble_eq_true rfl) ?_
  intro p e s m args below meth c A Q ls hx hb hml hown hts hK hP hD hA hS hZ hl hret
  have hts := fun w h => hts w (List.mem_cons_of_mem _ h)
  have hl : lv_has ls 4 [(0, .ref (gA G 20)), (1, .int v0), (2, .int v1), (3, .int v2)] := hl
  have hf : y_Model_operate σ v0 v1 v2 = y_Model_operate σ v0 v1 v2 := rfl
  refine lv_iload_n hx hb dX11_operate_0 rfl (lv_at hl 1 rfl) ?_
  by_cases h_16 : v0 = 0
  · have hf := hf.trans (if_pos h_16)
    refine lv_tableIn (tgt := 76) hx hb dX11_operate_1 (by rw [h_16]; decide) (by rw [h_16]; decide) (by rw [h_16]; rfl) (by decide) ?_
    refine lv_iload_n hx hb dX11_operate_76 rfl (lv_at hl 2 rfl) ?_
    refine lv_iload_n hx hb dX11_operate_77 rfl (lv_at hl 3 rfl) ?_
    refine lv_iand hx hb dX11_operate_78 ?_
    exact hret (v1 &&& v2) σ _ _ _ _ hf hP hD hS dX11_operate_79
  have hf := hf.trans (if_neg h_16)
  by_cases h_17 : v0 = 1
  · have hf := hf.trans (if_pos h_17)
    refine lv_tableIn (tgt := 80) hx hb dX11_operate_1 (by rw [h_17]; decide) (by rw [h_17]; decide) (by rw [h_17]; rfl) (by decide) ?_
    refine lv_iload_n hx hb dX11_operate_80 rfl (lv_at hl 2 rfl) ?_
    refine lv_iload_n hx hb dX11_operate_81 rfl (lv_at hl 3 rfl) ?_
    refine lv_ixor hx hb dX11_operate_82 ?_
    exact hret (v1 ^^^ v2) σ _ _ _ _ hf hP hD hS dX11_operate_83
  have hf := hf.trans (if_neg h_17)
  by_cases h_18 : v0 = 2
  · have hf := hf.trans (if_pos h_18)
    refine lv_tableIn (tgt := 84) hx hb dX11_operate_1 (by rw [h_18]; decide) (by rw [h_18]; decide) (by rw [h_18]; rfl) (by decide) ?_
    refine lv_aload_n hx hb dX11_operate_84 rfl (lv_at hl 0 rfl) ?_
    refine lv_iload_n hx hb dX11_operate_85 rfl (lv_at hl 2 rfl) ?_
    refine lv_iload_n hx hb dX11_operate_86 rfl (lv_at hl 3 rfl) ?_
    refine lv_iconst (v := (-1)) hx hb dX11_operate_87 (by decide) ?_
    refine lv_ixor hx hb dX11_operate_88 ?_
    refine lv_iconst (v := 1) hx hb dX11_operate_89 (by decide) ?_
    refine kc_Vb (rest := []) (cy_Model_sum l G σ v1 (v2 ^^^ (-1)) 1) ⟨hx, hb, hml, hown, hts⟩ (cwV 3 hts (gi_V kw_776 kw_777 kw_778 kw_5 kw_779) rfl rfl rfl ⟨rfl, mdX11_sum⟩ ⟨by decide, by decide⟩) (va_recv hK hP (ci := 9) (q0 := 0) rfl rfl) mZ_ok hK hP hD hS hA hZ rfl hl.1 rfl (Nat.le_of_ble_eq_true rfl) dX11_operate_90 ⟨Nat.zero_le _, Nat.zero_le _⟩ (fun H locs hP hD hS => ?_)
    exact hret ((y_Model_sum σ v1 (v2 ^^^ (-1)) 1).1) ((y_Model_sum σ v1 (v2 ^^^ (-1)) 1).2) _ _ _ _ hf hP hD hS dX11_operate_93
  have hf := hf.trans (if_neg h_18)
  by_cases h_19 : v0 = 3
  · have hf := hf.trans (if_pos h_19)
    refine lv_tableIn (tgt := 94) hx hb dX11_operate_1 (by rw [h_19]; decide) (by rw [h_19]; decide) (by rw [h_19]; rfl) (by decide) ?_
    refine lv_aload_n hx hb dX11_operate_94 rfl (lv_at hl 0 rfl) ?_
    refine lv_iload_n hx hb dX11_operate_95 rfl (lv_at hl 3 rfl) ?_
    refine lv_iload_n hx hb dX11_operate_96 rfl (lv_at hl 2 rfl) ?_
    refine lv_iconst (v := (-1)) hx hb dX11_operate_97 (by decide) ?_
    refine lv_ixor hx hb dX11_operate_98 ?_
    refine lv_iconst (v := 1) hx hb dX11_operate_99 (by decide) ?_
    refine kc_Vb (rest := []) (cy_Model_sum l G σ v2 (v1 ^^^ (-1)) 1) ⟨hx, hb, hml, hown, hts⟩ (cwV 3 hts (gi_V kw_776 kw_777 kw_778 kw_5 kw_779) rfl rfl rfl ⟨rfl, mdX11_sum⟩ ⟨by decide, by decide⟩) (va_recv hK hP (ci := 9) (q0 := 0) rfl rfl) mZ_ok hK hP hD hS hA hZ rfl hl.1 rfl (Nat.le_of_ble_eq_true rfl) dX11_operate_100 ⟨Nat.zero_le _, Nat.zero_le _⟩ (fun H locs hP hD hS => ?_)
    exact hret ((y_Model_sum σ v2 (v1 ^^^ (-1)) 1).1) ((y_Model_sum σ v2 (v1 ^^^ (-1)) 1).2) _ _ _ _ hf hP hD hS dX11_operate_103
  have hf := hf.trans (if_neg h_19)
  by_cases h_20 : v0 = 4
  · have hf := hf.trans (if_pos h_20)
    refine lv_tableIn (tgt := 104) hx hb dX11_operate_1 (by rw [h_20]; decide) (by rw [h_20]; decide) (by rw [h_20]; rfl) (by decide) ?_
    refine lv_aload_n hx hb dX11_operate_104 rfl (lv_at hl 0 rfl) ?_
    refine lv_iload_n hx hb dX11_operate_105 rfl (lv_at hl 2 rfl) ?_
    refine lv_iload_n hx hb dX11_operate_106 rfl (lv_at hl 3 rfl) ?_
    refine lv_iconst (v := 0) hx hb dX11_operate_107 (by decide) ?_
    refine kc_Vb (rest := []) (cy_Model_sum l G σ v1 v2 0) ⟨hx, hb, hml, hown, hts⟩ (cwV 3 hts (gi_V kw_776 kw_777 kw_778 kw_5 kw_779) rfl rfl rfl ⟨rfl, mdX11_sum⟩ ⟨by decide, by decide⟩) (va_recv hK hP (ci := 9) (q0 := 0) rfl rfl) mZ_ok hK hP hD hS hA hZ rfl hl.1 rfl (Nat.le_of_ble_eq_true rfl) dX11_operate_108 ⟨Nat.zero_le _, Nat.zero_le _⟩ (fun H locs hP hD hS => ?_)
    exact hret ((y_Model_sum σ v1 v2 0).1) ((y_Model_sum σ v1 v2 0).2) _ _ _ _ hf hP hD hS dX11_operate_111
  have hf := hf.trans (if_neg h_20)
  by_cases h_21 : v0 = 5
  · have hf := hf.trans (if_pos h_21)
    refine lv_tableIn (tgt := 112) hx hb dX11_operate_1 (by rw [h_21]; decide) (by rw [h_21]; decide) (by rw [h_21]; rfl) (by decide) ?_
    refine lv_aload_n hx hb dX11_operate_112 rfl (lv_at hl 0 rfl) ?_
    refine lv_iload_n hx hb dX11_operate_113 rfl (lv_at hl 2 rfl) ?_
    refine lv_iload_n hx hb dX11_operate_114 rfl (lv_at hl 3 rfl) ?_
    refine lv_aload_n hx hb dX11_operate_115 rfl (lv_at hl 0 rfl) ?_
    refine kc_Vr (rest := [.int v2, .int v1, .ref (gA G 20)]) (cy_Model_carryIn l G σ) ⟨hx, hb, hml, hown, hts⟩ (cwV 0 hts (gi_V kw_781 kw_782 kw_783 kw_5 kw_784) rfl rfl rfl ⟨rfl, mdX11_carryIn⟩ ⟨by decide, by decide⟩) (va_recv hK hP (ci := 9) (q0 := 0) rfl rfl) mZ_ok hK hP hD hS hA hZ rfl hl.1 rfl (Nat.le_of_ble_eq_true rfl) dX11_operate_116 ⟨Nat.zero_le _, Nat.zero_le _⟩ (fun H locs hP hD hS => ?_)
    refine kc_Vb (rest := []) (cy_Model_sum l G σ v1 v2 (y_Model_carryIn σ)) ⟨hx, hb, hml, hown, hts⟩ (cwV 3 hts (gi_V kw_776 kw_777 kw_778 kw_5 kw_779) rfl rfl rfl ⟨rfl, mdX11_sum⟩ ⟨by decide, by decide⟩) (va_recv hK hP (ci := 9) (q0 := 0) rfl rfl) mZ_ok hK hP hD hS hA hZ rfl hl.1 rfl (Nat.le_of_ble_eq_true rfl) dX11_operate_119 ⟨Nat.zero_le _, Nat.zero_le _⟩ (fun H locs hP hD hS => ?_)
    exact hret ((y_Model_sum σ v1 v2 (y_Model_carryIn σ)).1) ((y_Model_sum σ v1 v2 (y_Model_carryIn σ)).2) _ _ _ _ hf hP hD hS dX11_operate_122
  have hf := hf.trans (if_neg h_21)
  by_cases h_22 : v0 = 6
  · have hf := hf.trans (if_pos h_22)
    refine lv_tableIn (tgt := 123) hx hb dX11_operate_1 (by rw [h_22]; decide) (by rw [h_22]; decide) (by rw [h_22]; rfl) (by decide) ?_
    refine lv_aload_n hx hb dX11_operate_123 rfl (lv_at hl 0 rfl) ?_
    refine lv_iload_n hx hb dX11_operate_124 rfl (lv_at hl 2 rfl) ?_
    refine lv_iload_n hx hb dX11_operate_125 rfl (lv_at hl 3 rfl) ?_
    refine lv_iconst (v := (-1)) hx hb dX11_operate_126 (by decide) ?_
    refine lv_ixor hx hb dX11_operate_127 ?_
    refine lv_aload_n hx hb dX11_operate_128 rfl (lv_at hl 0 rfl) ?_
    refine kc_Vr (rest := [.int (v2 ^^^ (-1)), .int v1, .ref (gA G 20)]) (cy_Model_carryIn l G σ) ⟨hx, hb, hml, hown, hts⟩ (cwV 0 hts (gi_V kw_781 kw_782 kw_783 kw_5 kw_784) rfl rfl rfl ⟨rfl, mdX11_carryIn⟩ ⟨by decide, by decide⟩) (va_recv hK hP (ci := 9) (q0 := 0) rfl rfl) mZ_ok hK hP hD hS hA hZ rfl hl.1 rfl (Nat.le_of_ble_eq_true rfl) dX11_operate_129 ⟨Nat.zero_le _, Nat.zero_le _⟩ (fun H locs hP hD hS => ?_)
    refine kc_Vb (rest := []) (cy_Model_sum l G σ v1 (v2 ^^^ (-1)) (y_Model_carryIn σ)) ⟨hx, hb, hml, hown, hts⟩ (cwV 3 hts (gi_V kw_776 kw_777 kw_778 kw_5 kw_779) rfl rfl rfl ⟨rfl, mdX11_sum⟩ ⟨by decide, by decide⟩) (va_recv hK hP (ci := 9) (q0 := 0) rfl rfl) mZ_ok hK hP hD hS hA hZ rfl hl.1 rfl (Nat.le_of_ble_eq_true rfl) dX11_operate_132 ⟨Nat.zero_le _, Nat.zero_le _⟩ (fun H locs hP hD hS => ?_)
    exact hret ((y_Model_sum σ v1 (v2 ^^^ (-1)) (y_Model_carryIn σ)).1) ((y_Model_sum σ v1 (v2 ^^^ (-1)) (y_Model_carryIn σ)).2) _ _ _ _ hf hP hD hS dX11_operate_135
  have hf := hf.trans (if_neg h_22)
  by_cases h_23 : v0 = 7
  · have hf := hf.trans (if_pos h_23)
    refine lv_tableIn (tgt := 136) hx hb dX11_operate_1 (by rw [h_23]; decide) (by rw [h_23]; decide) (by rw [h_23]; rfl) (by decide) ?_
    refine lv_aload_n hx hb dX11_operate_136 rfl (lv_at hl 0 rfl) ?_
    refine lv_iload_n hx hb dX11_operate_137 rfl (lv_at hl 3 rfl) ?_
    refine lv_iload_n hx hb dX11_operate_138 rfl (lv_at hl 2 rfl) ?_
    refine lv_iconst (v := (-1)) hx hb dX11_operate_139 (by decide) ?_
    refine lv_ixor hx hb dX11_operate_140 ?_
    refine lv_aload_n hx hb dX11_operate_141 rfl (lv_at hl 0 rfl) ?_
    refine kc_Vr (rest := [.int (v1 ^^^ (-1)), .int v2, .ref (gA G 20)]) (cy_Model_carryIn l G σ) ⟨hx, hb, hml, hown, hts⟩ (cwV 0 hts (gi_V kw_781 kw_782 kw_783 kw_5 kw_784) rfl rfl rfl ⟨rfl, mdX11_carryIn⟩ ⟨by decide, by decide⟩) (va_recv hK hP (ci := 9) (q0 := 0) rfl rfl) mZ_ok hK hP hD hS hA hZ rfl hl.1 rfl (Nat.le_of_ble_eq_true rfl) dX11_operate_142 ⟨Nat.zero_le _, Nat.zero_le _⟩ (fun H locs hP hD hS => ?_)
    refine kc_Vb (rest := []) (cy_Model_sum l G σ v2 (v1 ^^^ (-1)) (y_Model_carryIn σ)) ⟨hx, hb, hml, hown, hts⟩ (cwV 3 hts (gi_V kw_776 kw_777 kw_778 kw_5 kw_779) rfl rfl rfl ⟨rfl, mdX11_sum⟩ ⟨by decide, by decide⟩) (va_recv hK hP (ci := 9) (q0 := 0) rfl rfl) mZ_ok hK hP hD hS hA hZ rfl hl.1 rfl (Nat.le_of_ble_eq_true rfl) dX11_operate_145 ⟨Nat.zero_le _, Nat.zero_le _⟩ (fun H locs hP hD hS => ?_)
    exact hret ((y_Model_sum σ v2 (v1 ^^^ (-1)) (y_Model_carryIn σ)).1) ((y_Model_sum σ v2 (v1 ^^^ (-1)) (y_Model_carryIn σ)).2) _ _ _ _ hf hP hD hS dX11_operate_148
  have hf := hf.trans (if_neg h_23)
  by_cases h_24 : v0 = 8
  · have hf := hf.trans (if_pos h_24)
    refine lv_tableIn (tgt := 149) hx hb dX11_operate_1 (by rw [h_24]; decide) (by rw [h_24]; decide) (by rw [h_24]; rfl) (by decide) ?_
    refine lv_iload_n hx hb dX11_operate_149 rfl (lv_at hl 2 rfl) ?_
    refine lv_iload_n hx hb dX11_operate_150 rfl (lv_at hl 3 rfl) ?_
    refine lv_iand hx hb dX11_operate_151 ?_
    exact hret (v1 &&& v2) σ _ _ _ _ hf hP hD hS dX11_operate_152
  have hf := hf.trans (if_neg h_24)
  by_cases h_25 : v0 = 9
  · have hf := hf.trans (if_pos h_25)
    refine lv_tableIn (tgt := 153) hx hb dX11_operate_1 (by rw [h_25]; decide) (by rw [h_25]; decide) (by rw [h_25]; rfl) (by decide) ?_
    refine lv_iload_n hx hb dX11_operate_153 rfl (lv_at hl 2 rfl) ?_
    refine lv_iload_n hx hb dX11_operate_154 rfl (lv_at hl 3 rfl) ?_
    refine lv_ixor hx hb dX11_operate_155 ?_
    exact hret (v1 ^^^ v2) σ _ _ _ _ hf hP hD hS dX11_operate_156
  have hf := hf.trans (if_neg h_25)
  by_cases h_26 : v0 = 10
  · have hf := hf.trans (if_pos h_26)
    refine lv_tableIn (tgt := 157) hx hb dX11_operate_1 (by rw [h_26]; decide) (by rw [h_26]; decide) (by rw [h_26]; rfl) (by decide) ?_
    refine lv_aload_n hx hb dX11_operate_157 rfl (lv_at hl 0 rfl) ?_
    refine lv_iload_n hx hb dX11_operate_158 rfl (lv_at hl 2 rfl) ?_
    refine lv_iload_n hx hb dX11_operate_159 rfl (lv_at hl 3 rfl) ?_
    refine lv_iconst (v := (-1)) hx hb dX11_operate_160 (by decide) ?_
    refine lv_ixor hx hb dX11_operate_161 ?_
    refine lv_iconst (v := 1) hx hb dX11_operate_162 (by decide) ?_
    refine kc_Vb (rest := []) (cy_Model_sum l G σ v1 (v2 ^^^ (-1)) 1) ⟨hx, hb, hml, hown, hts⟩ (cwV 3 hts (gi_V kw_776 kw_777 kw_778 kw_5 kw_779) rfl rfl rfl ⟨rfl, mdX11_sum⟩ ⟨by decide, by decide⟩) (va_recv hK hP (ci := 9) (q0 := 0) rfl rfl) mZ_ok hK hP hD hS hA hZ rfl hl.1 rfl (Nat.le_of_ble_eq_true rfl) dX11_operate_163 ⟨Nat.zero_le _, Nat.zero_le _⟩ (fun H locs hP hD hS => ?_)
    exact hret ((y_Model_sum σ v1 (v2 ^^^ (-1)) 1).1) ((y_Model_sum σ v1 (v2 ^^^ (-1)) 1).2) _ _ _ _ hf hP hD hS dX11_operate_166
  have hf := hf.trans (if_neg h_26)
  by_cases h_27 : v0 = 11
  · have hf := hf.trans (if_pos h_27)
    refine lv_tableIn (tgt := 167) hx hb dX11_operate_1 (by rw [h_27]; decide) (by rw [h_27]; decide) (by rw [h_27]; rfl) (by decide) ?_
    refine lv_aload_n hx hb dX11_operate_167 rfl (lv_at hl 0 rfl) ?_
    refine lv_iload_n hx hb dX11_operate_168 rfl (lv_at hl 2 rfl) ?_
    refine lv_iload_n hx hb dX11_operate_169 rfl (lv_at hl 3 rfl) ?_
    refine lv_iconst (v := 0) hx hb dX11_operate_170 (by decide) ?_
    refine kc_Vb (rest := []) (cy_Model_sum l G σ v1 v2 0) ⟨hx, hb, hml, hown, hts⟩ (cwV 3 hts (gi_V kw_776 kw_777 kw_778 kw_5 kw_779) rfl rfl rfl ⟨rfl, mdX11_sum⟩ ⟨by decide, by decide⟩) (va_recv hK hP (ci := 9) (q0 := 0) rfl rfl) mZ_ok hK hP hD hS hA hZ rfl hl.1 rfl (Nat.le_of_ble_eq_true rfl) dX11_operate_171 ⟨Nat.zero_le _, Nat.zero_le _⟩ (fun H locs hP hD hS => ?_)
    exact hret ((y_Model_sum σ v1 v2 0).1) ((y_Model_sum σ v1 v2 0).2) _ _ _ _ hf hP hD hS dX11_operate_174
  have hf := hf.trans (if_neg h_27)
  by_cases h_28 : v0 = 12
  · have hf := hf.trans (if_pos h_28)
    refine lv_tableIn (tgt := 175) hx hb dX11_operate_1 (by rw [h_28]; decide) (by rw [h_28]; decide) (by rw [h_28]; rfl) (by decide) ?_
    refine lv_iload_n hx hb dX11_operate_175 rfl (lv_at hl 2 rfl) ?_
    refine lv_iload_n hx hb dX11_operate_176 rfl (lv_at hl 3 rfl) ?_
    refine lv_ior hx hb dX11_operate_177 ?_
    exact hret (v1 ||| v2) σ _ _ _ _ hf hP hD hS dX11_operate_178
  have hf := hf.trans (if_neg h_28)
  by_cases h_29 : v0 = 13
  · have hf := hf.trans (if_pos h_29)
    refine lv_tableIn (tgt := 179) hx hb dX11_operate_1 (by rw [h_29]; decide) (by rw [h_29]; decide) (by rw [h_29]; rfl) (by decide) ?_
    refine lv_iload_n hx hb dX11_operate_179 rfl (lv_at hl 3 rfl) ?_
    exact hret v2 σ _ _ _ _ hf hP hD hS dX11_operate_180
  have hf := hf.trans (if_neg h_29)
  by_cases h_30 : v0 = 14
  · have hf := hf.trans (if_pos h_30)
    refine lv_tableIn (tgt := 181) hx hb dX11_operate_1 (by rw [h_30]; decide) (by rw [h_30]; decide) (by rw [h_30]; rfl) (by decide) ?_
    refine lv_iload_n hx hb dX11_operate_181 rfl (lv_at hl 2 rfl) ?_
    refine lv_iload_n hx hb dX11_operate_182 rfl (lv_at hl 3 rfl) ?_
    refine lv_iconst (v := (-1)) hx hb dX11_operate_183 (by decide) ?_
    refine lv_ixor hx hb dX11_operate_184 ?_
    refine lv_iand hx hb dX11_operate_185 ?_
    exact hret (v1 &&& (v2 ^^^ (-1))) σ _ _ _ _ hf hP hD hS dX11_operate_186
  have hf := hf.trans (if_neg h_30)
  refine ksw_dflt (tgt := 187) hx hb dX11_operate_1 [0, 1, 2, 3, 4, 5, 6, 7, 8, 9, 10, 11, 12, 13, 14] (ksw_c h_16 (ksw_c h_17 (ksw_c h_18 (ksw_c h_19 (ksw_c h_20 (ksw_c h_21 (ksw_c h_22 (ksw_c h_23 (ksw_c h_24 (ksw_c h_25 (ksw_c h_26 (ksw_c h_27 (ksw_c h_28 (ksw_c h_29 (ksw_c h_30 ksw_n))))))))))))))) (by decide) (by decide) ?_
  refine lv_iload_n hx hb dX11_operate_187 rfl (lv_at hl 3 rfl) ?_
  refine lv_iconst (v := (-1)) hx hb dX11_operate_188 (by decide) ?_
  refine lv_ixor hx hb dX11_operate_189 ?_
  exact hret (v2 ^^^ (-1)) σ _ _ _ _ hf hP hD hS dX11_operate_190
