def y_Model_isSo_172 (σ : MS) (v0 : Int32) (k0_172 : Bool) : Bool := (if (b01 k0_172) = (b01 (decide (v0 = 8))) then true else false)
def y_Model_isSo_171 (σ : MS) (v0 : Int32) : Bool := y_Model_isSo_172 σ v0 false
def y_Model_isSo_238 (σ : MS) (v0 : Int32) (k0_238 : Bool) : Bool := (if (b01 k0_238) = (b01 (decide (v0 = 12))) then true else false)
def y_Model_isSo_237 (σ : MS) (v0 : Int32) : Bool := y_Model_isSo_238 σ v0 false
def y_Model_isSo (σ : MS) (v0 : Int32) : Bool := (if (v0 >>> ((1 : Int32) &&& 31)) = 0 then (if (b01 (y_Model_is σ 30)) = (b01 (decide (v0 = 0))) then true else false) else (if (v0 >>> ((1 : Int32) &&& 31)) = 1 then (if (b01 (y_Model_is σ 29)) = (b01 (decide (v0 = 2))) then true else false) else (if (v0 >>> ((1 : Int32) &&& 31)) = 2 then (if (b01 (y_Model_is σ 31)) = (b01 (decide (v0 = 4))) then true else false) else (if (v0 >>> ((1 : Int32) &&& 31)) = 3 then (if (b01 (y_Model_is σ 28)) = (b01 (decide (v0 = 6))) then true else false) else (if (v0 >>> ((1 : Int32) &&& 31)) = 4 then (if (y_Model_is σ 29) = true then (if (y_Model_is σ 30) = true then y_Model_isSo_171 σ v0 else y_Model_isSo_172 σ v0 true) else y_Model_isSo_171 σ v0) else (if (v0 >>> ((1 : Int32) &&& 31)) = 5 then (if (b01 (decide ((b01 (y_Model_is σ 31)) = (b01 (y_Model_is σ 28))))) = (b01 (decide (v0 = 10))) then true else false) else (if (v0 >>> ((1 : Int32) &&& 31)) = 6 then (if (y_Model_is σ 30) = true then y_Model_isSo_237 σ v0 else (if (b01 (y_Model_is σ 31)) = (b01 (y_Model_is σ 28)) then y_Model_isSo_238 σ v0 true else y_Model_isSo_237 σ v0)) else true)))))))
set_option maxRecDepth 20000 in
set_option maxHeartbeats 4000000 in
theorem cy_Model_isSo (l : Launch) (G : KG) (σ : MS) (v0 : Int32) : KB l yX11_isSo (Cond.code yX11_isSo cX11_isSo 5 (some .boolean) :: lw_all) (kr 1) (gD G) vwCl (gT G) (mZ G) (mW G) [.ref (gA G 20), .int v0] σ (b01 (y_Model_isSo σ v0), σ) := by
  refine kc_in_y (q := y_Model_isSo σ v0) (by decide) rfl (Nat.le_of_ble_eq_true rfl) ?_
  intro p e s m args below meth c A Q ls hx hb hml hown hts hK hP hD hA hS hZ hl hret
  have hts := fun w h => hts w (List.mem_cons_of_mem _ h)
  have hl : lv_has ls 5 [(0, .ref (gA G 20)), (1, .int v0)] := hl
  have hf : y_Model_isSo σ v0 = y_Model_isSo σ v0 := rfl
  have J172 : ∀ (k0_172 : Bool) (H : Heap) (locs : List Loc) (ls : Array Slot), va_P (gD G) vwCl (mW G (σ)) H → va_D A (mW G (σ)) → va_S A s.heap H locs → lv_has ls 5 [(1, .int v0)] → y_Model_isSo σ v0 = y_Model_isSo_172 σ v0 k0_172 → W p l e (kr 1) s m args below meth c H locs 0 0 Q (F0 m 172 ls [.int (b01 k0_172)]) := by
    intro k0_172 H locs ls hP hD hS hl hf
    refine lv_iload_n hx hb dX11_isSo_172 rfl (lv_at hl 0 rfl) ?_
    refine lv_bipush (v := 8) hx hb dX11_isSo_173 (by decide) ?_
    refine kz_dN0 (P := v0 = 8) (tgt := 182) (M := 183) (fun a b => lv_icmp_ne (tgt := 182) hx hb dX11_isSo_175 (by decide) a b) hx hb dX11_isSo_178 dX11_isSo_179 (by decide) dX11_isSo_182 rfl ?_
    refine lv_icmp_ne (tgt := 190) hx hb dX11_isSo_183 (by decide) (fun h_28 => ?_) (fun h_28 => ?_)
    · have hf := hf.trans (if_neg h_28)
      refine lv_iconst (v := 0) hx hb dX11_isSo_190 (by decide) ?_
      exact hret false _ _ _ _ hf hP hD hS dX11_isSo_191
    · have hf := hf.trans (if_pos h_28)
      refine lv_iconst (v := 1) hx hb dX11_isSo_186 (by decide) ?_
      refine lv_goto (tgt := 191) hx hb dX11_isSo_187 (by decide) ?_
      exact hret true _ _ _ _ hf hP hD hS dX11_isSo_191
  have J171 : ∀ (H : Heap) (locs : List Loc) (ls : Array Slot), va_P (gD G) vwCl (mW G (σ)) H → va_D A (mW G (σ)) → va_S A s.heap H locs → lv_has ls 5 [(1, .int v0)] → y_Model_isSo σ v0 = y_Model_isSo_171 σ v0 → W p l e (kr 1) s m args below meth c H locs 0 0 Q (F0 m 171 ls []) := by
    intro H locs ls hP hD hS hl hf
    refine lv_iconst (v := 0) hx hb dX11_isSo_171 (by decide) ?_
    exact J172 false _ _ _ hP hD hS (lv_sub hl [0] rfl) hf
  have J238 : ∀ (k0_238 : Bool) (H : Heap) (locs : List Loc) (ls : Array Slot), va_P (gD G) vwCl (mW G (σ)) H → va_D A (mW G (σ)) → va_S A s.heap H locs → lv_has ls 5 [(1, .int v0)] → y_Model_isSo σ v0 = y_Model_isSo_238 σ v0 k0_238 → W p l e (kr 1) s m args below meth c H locs 0 0 Q (F0 m 238 ls [.int (b01 k0_238)]) := by
    intro k0_238 H locs ls hP hD hS hl hf
    refine lv_iload_n hx hb dX11_isSo_238 rfl (lv_at hl 0 rfl) ?_
    refine lv_bipush (v := 12) hx hb dX11_isSo_239 (by decide) ?_
    refine kz_dN0 (P := v0 = 12) (tgt := 248) (M := 249) (fun a b => lv_icmp_ne (tgt := 248) hx hb dX11_isSo_241 (by decide) a b) hx hb dX11_isSo_244 dX11_isSo_245 (by decide) dX11_isSo_248 rfl ?_
    refine lv_icmp_ne (tgt := 256) hx hb dX11_isSo_249 (by decide) (fun h_30 => ?_) (fun h_30 => ?_)
    · have hf := hf.trans (if_neg h_30)
      refine lv_iconst (v := 0) hx hb dX11_isSo_256 (by decide) ?_
      exact hret false _ _ _ _ hf hP hD hS dX11_isSo_257
    · have hf := hf.trans (if_pos h_30)
      refine lv_iconst (v := 1) hx hb dX11_isSo_252 (by decide) ?_
      refine lv_goto (tgt := 257) hx hb dX11_isSo_253 (by decide) ?_
      exact hret true _ _ _ _ hf hP hD hS dX11_isSo_257
  have J237 : ∀ (H : Heap) (locs : List Loc) (ls : Array Slot), va_P (gD G) vwCl (mW G (σ)) H → va_D A (mW G (σ)) → va_S A s.heap H locs → lv_has ls 5 [(1, .int v0)] → y_Model_isSo σ v0 = y_Model_isSo_237 σ v0 → W p l e (kr 1) s m args below meth c H locs 0 0 Q (F0 m 237 ls []) := by
    intro H locs ls hP hD hS hl hf
    refine lv_iconst (v := 0) hx hb dX11_isSo_237 (by decide) ?_
    exact J238 false _ _ _ hP hD hS (lv_sub hl [0] rfl) hf
  refine lv_aload_n hx hb dX11_isSo_0 rfl (lv_at hl 0 rfl) ?_
  refine lv_bipush (v := 31) hx hb dX11_isSo_1 (by decide) ?_
  refine kc_Vr (rest := []) (cy_Model_is l G σ 31) ⟨hx, hb, hml, hown, hts⟩ (cwV 1 hts (gi_V kw_729 kw_730 kw_731 kw_5 kw_732) rfl rfl rfl ⟨rfl, mdX11_is⟩ ⟨by decide, by decide⟩) (va_recv hK hP (ci := 9) (q0 := 0) rfl rfl) mZ_ok hK hP hD hS hA hZ rfl hl.1 rfl (Nat.le_of_ble_eq_true rfl) dX11_isSo_3 ⟨Nat.zero_le _, Nat.zero_le _⟩ (fun H locs hP hD hS => ?_)
  refine lv_istore_n (lv' := [(2, .int (b01 (y_Model_is σ 31))), (0, .ref (gA G 20)), (1, .int v0)]) hx hb dX11_isSo_6 rfl hl (by decide) rfl (fun ls hl => ?_)
  refine lv_aload_n hx hb dX11_isSo_7 rfl (lv_at hl 1 rfl) ?_
  refine lv_bipush (v := 30) hx hb dX11_isSo_8 (by decide) ?_
  refine kc_Vr (rest := []) (cy_Model_is l G σ 30) ⟨hx, hb, hml, hown, hts⟩ (cwV 1 hts (gi_V kw_729 kw_730 kw_731 kw_5 kw_732) rfl rfl rfl ⟨rfl, mdX11_is⟩ ⟨by decide, by decide⟩) (va_recv hK hP (ci := 9) (q0 := 0) rfl rfl) mZ_ok hK hP hD hS hA hZ rfl hl.1 rfl (Nat.le_of_ble_eq_true rfl) dX11_isSo_10 ⟨Nat.zero_le _, Nat.zero_le _⟩ (fun H locs hP hD hS => ?_)
  refine lv_istore_n (lv' := [(3, .int (b01 (y_Model_is σ 30))), (2, .int (b01 (y_Model_is σ 31))), (0, .ref (gA G 20)), (1, .int v0)]) hx hb dX11_isSo_13 rfl hl (by decide) rfl (fun ls hl => ?_)
  refine lv_aload_n hx hb dX11_isSo_14 rfl (lv_at hl 2 rfl) ?_
  refine lv_bipush (v := 28) hx hb dX11_isSo_15 (by decide) ?_
  refine kc_Vr (rest := []) (cy_Model_is l G σ 28) ⟨hx, hb, hml, hown, hts⟩ (cwV 1 hts (gi_V kw_729 kw_730 kw_731 kw_5 kw_732) rfl rfl rfl ⟨rfl, mdX11_is⟩ ⟨by decide, by decide⟩) (va_recv hK hP (ci := 9) (q0 := 0) rfl rfl) mZ_ok hK hP hD hS hA hZ rfl hl.1 rfl (Nat.le_of_ble_eq_true rfl) dX11_isSo_17 ⟨Nat.zero_le _, Nat.zero_le _⟩ (fun H locs hP hD hS => ?_)
  refine lv_istore (lv' := [(4, .int (b01 (y_Model_is σ 28))), (3, .int (b01 (y_Model_is σ 30))), (2, .int (b01 (y_Model_is σ 31))), (0, .ref (gA G 20)), (1, .int v0)]) hx hb dX11_isSo_20 hl (by decide) rfl (fun ls hl => ?_)
  refine lv_iload_n hx hb dX11_isSo_22 rfl (lv_at hl 4 rfl) ?_
  refine lv_iconst (v := 1) hx hb dX11_isSo_23 (by decide) ?_
  refine lv_ishr hx hb dX11_isSo_24 ?_
  by_cases h_31 : (v0 >>> ((1 : Int32) &&& 31)) = 0
  · have hf := hf.trans (if_pos h_31)
    refine lv_tableIn (tgt := 68) hx hb dX11_isSo_25 (by rw [h_31]; decide) (by rw [h_31]; decide) (by rw [h_31]; rfl) (by decide) ?_
    refine lv_iload_n hx hb dX11_isSo_68 rfl (lv_at hl 1 rfl) ?_
    refine lv_iload_n hx hb dX11_isSo_69 rfl (lv_at hl 4 rfl) ?_
    refine kz_dN0 (P := v0 = 0) (tgt := 77) (M := 78) (fun a b => lv_if_ne (tgt := 77) hx hb dX11_isSo_70 (by decide) a b) hx hb dX11_isSo_73 dX11_isSo_74 (by decide) dX11_isSo_77 rfl ?_
    refine lv_icmp_ne (tgt := 85) hx hb dX11_isSo_78 (by decide) (fun h_33 => ?_) (fun h_33 => ?_)
    · have hf := hf.trans (if_neg h_33)
      refine lv_iconst (v := 0) hx hb dX11_isSo_85 (by decide) ?_
      exact hret false _ _ _ _ hf hP hD hS dX11_isSo_86
    · have hf := hf.trans (if_pos h_33)
      refine lv_iconst (v := 1) hx hb dX11_isSo_81 (by decide) ?_
      refine lv_goto (tgt := 86) hx hb dX11_isSo_82 (by decide) ?_
      exact hret true _ _ _ _ hf hP hD hS dX11_isSo_86
  have hf := hf.trans (if_neg h_31)
  by_cases h_34 : (v0 >>> ((1 : Int32) &&& 31)) = 1
  · have hf := hf.trans (if_pos h_34)
    refine lv_tableIn (tgt := 87) hx hb dX11_isSo_25 (by rw [h_34]; decide) (by rw [h_34]; decide) (by rw [h_34]; rfl) (by decide) ?_
    refine lv_aload_n hx hb dX11_isSo_87 rfl (lv_at hl 3 rfl) ?_
    refine lv_bipush (v := 29) hx hb dX11_isSo_88 (by decide) ?_
    refine kc_Vr (rest := []) (cy_Model_is l G σ 29) ⟨hx, hb, hml, hown, hts⟩ (cwV 1 hts (gi_V kw_729 kw_730 kw_731 kw_5 kw_732) rfl rfl rfl ⟨rfl, mdX11_is⟩ ⟨by decide, by decide⟩) (va_recv hK hP (ci := 9) (q0 := 0) rfl rfl) mZ_ok hK hP hD hS hA hZ rfl hl.1 rfl (Nat.le_of_ble_eq_true rfl) dX11_isSo_90 ⟨Nat.zero_le _, Nat.zero_le _⟩ (fun H locs hP hD hS => ?_)
    refine lv_iload_n hx hb dX11_isSo_93 rfl (lv_at hl 4 rfl) ?_
    refine lv_iconst (v := 2) hx hb dX11_isSo_94 (by decide) ?_
    refine kz_dN0 (P := v0 = 2) (tgt := 102) (M := 103) (fun a b => lv_icmp_ne (tgt := 102) hx hb dX11_isSo_95 (by decide) a b) hx hb dX11_isSo_98 dX11_isSo_99 (by decide) dX11_isSo_102 rfl ?_
    refine lv_icmp_ne (tgt := 110) hx hb dX11_isSo_103 (by decide) (fun h_36 => ?_) (fun h_36 => ?_)
    · have hf := hf.trans (if_neg h_36)
      refine lv_iconst (v := 0) hx hb dX11_isSo_110 (by decide) ?_
      exact hret false _ _ _ _ hf hP hD hS dX11_isSo_111
    · have hf := hf.trans (if_pos h_36)
      refine lv_iconst (v := 1) hx hb dX11_isSo_106 (by decide) ?_
      refine lv_goto (tgt := 111) hx hb dX11_isSo_107 (by decide) ?_
      exact hret true _ _ _ _ hf hP hD hS dX11_isSo_111
  have hf := hf.trans (if_neg h_34)
  by_cases h_37 : (v0 >>> ((1 : Int32) &&& 31)) = 2
  · have hf := hf.trans (if_pos h_37)
    refine lv_tableIn (tgt := 112) hx hb dX11_isSo_25 (by rw [h_37]; decide) (by rw [h_37]; decide) (by rw [h_37]; rfl) (by decide) ?_
    refine lv_iload_n hx hb dX11_isSo_112 rfl (lv_at hl 2 rfl) ?_
    refine lv_iload_n hx hb dX11_isSo_113 rfl (lv_at hl 4 rfl) ?_
    refine lv_iconst (v := 4) hx hb dX11_isSo_114 (by decide) ?_
    refine kz_dN0 (P := v0 = 4) (tgt := 122) (M := 123) (fun a b => lv_icmp_ne (tgt := 122) hx hb dX11_isSo_115 (by decide) a b) hx hb dX11_isSo_118 dX11_isSo_119 (by decide) dX11_isSo_122 rfl ?_
    refine lv_icmp_ne (tgt := 130) hx hb dX11_isSo_123 (by decide) (fun h_39 => ?_) (fun h_39 => ?_)
    · have hf := hf.trans (if_neg h_39)
      refine lv_iconst (v := 0) hx hb dX11_isSo_130 (by decide) ?_
      exact hret false _ _ _ _ hf hP hD hS dX11_isSo_131
    · have hf := hf.trans (if_pos h_39)
      refine lv_iconst (v := 1) hx hb dX11_isSo_126 (by decide) ?_
      refine lv_goto (tgt := 131) hx hb dX11_isSo_127 (by decide) ?_
      exact hret true _ _ _ _ hf hP hD hS dX11_isSo_131
  have hf := hf.trans (if_neg h_37)
  by_cases h_40 : (v0 >>> ((1 : Int32) &&& 31)) = 3
  · have hf := hf.trans (if_pos h_40)
    refine lv_tableIn (tgt := 132) hx hb dX11_isSo_25 (by rw [h_40]; decide) (by rw [h_40]; decide) (by rw [h_40]; rfl) (by decide) ?_
    refine lv_iload hx hb dX11_isSo_132 (lv_at hl 0 rfl) ?_
    refine lv_iload_n hx hb dX11_isSo_134 rfl (lv_at hl 4 rfl) ?_
    refine lv_bipush (v := 6) hx hb dX11_isSo_135 (by decide) ?_
    refine kz_dN0 (P := v0 = 6) (tgt := 144) (M := 145) (fun a b => lv_icmp_ne (tgt := 144) hx hb dX11_isSo_137 (by decide) a b) hx hb dX11_isSo_140 dX11_isSo_141 (by decide) dX11_isSo_144 rfl ?_
    refine lv_icmp_ne (tgt := 152) hx hb dX11_isSo_145 (by decide) (fun h_42 => ?_) (fun h_42 => ?_)
    · have hf := hf.trans (if_neg h_42)
      refine lv_iconst (v := 0) hx hb dX11_isSo_152 (by decide) ?_
      exact hret false _ _ _ _ hf hP hD hS dX11_isSo_153
    · have hf := hf.trans (if_pos h_42)
      refine lv_iconst (v := 1) hx hb dX11_isSo_148 (by decide) ?_
      refine lv_goto (tgt := 153) hx hb dX11_isSo_149 (by decide) ?_
      exact hret true _ _ _ _ hf hP hD hS dX11_isSo_153
  have hf := hf.trans (if_neg h_40)
  by_cases h_43 : (v0 >>> ((1 : Int32) &&& 31)) = 4
  · have hf := hf.trans (if_pos h_43)
    refine lv_tableIn (tgt := 154) hx hb dX11_isSo_25 (by rw [h_43]; decide) (by rw [h_43]; decide) (by rw [h_43]; rfl) (by decide) ?_
    refine lv_aload_n hx hb dX11_isSo_154 rfl (lv_at hl 3 rfl) ?_
    refine lv_bipush (v := 29) hx hb dX11_isSo_155 (by decide) ?_
    refine kc_Vr (rest := []) (cy_Model_is l G σ 29) ⟨hx, hb, hml, hown, hts⟩ (cwV 1 hts (gi_V kw_729 kw_730 kw_731 kw_5 kw_732) rfl rfl rfl ⟨rfl, mdX11_is⟩ ⟨by decide, by decide⟩) (va_recv hK hP (ci := 9) (q0 := 0) rfl rfl) mZ_ok hK hP hD hS hA hZ rfl hl.1 rfl (Nat.le_of_ble_eq_true rfl) dX11_isSo_157 ⟨Nat.zero_le _, Nat.zero_le _⟩ (fun H locs hP hD hS => ?_)
    refine kz_eq (tgt := 171) hx hb dX11_isSo_160 (by decide) (fun h_44 => ?_) (fun h_44 => ?_)
    · have hf := hf.trans (if_neg h_44)
      exact J171 _ _ _ hP hD hS (lv_sub hl [4] rfl) hf
    · have hf := hf.trans (if_pos h_44)
      refine lv_iload_n hx hb dX11_isSo_163 rfl (lv_at hl 1 rfl) ?_
      refine kz_ne (tgt := 171) hx hb dX11_isSo_164 (by decide) (fun h_45 => ?_) (fun h_45 => ?_)
      · have hf := hf.trans (if_pos h_45)
        exact J171 _ _ _ hP hD hS (lv_sub hl [4] rfl) hf
      · have hf := hf.trans (if_neg h_45)
        refine lv_iconst (v := 1) hx hb dX11_isSo_167 (by decide) ?_
        refine lv_goto (tgt := 172) hx hb dX11_isSo_168 (by decide) ?_
        exact J172 true _ _ _ hP hD hS (lv_sub hl [4] rfl) hf
  have hf := hf.trans (if_neg h_43)
  by_cases h_46 : (v0 >>> ((1 : Int32) &&& 31)) = 5
  · have hf := hf.trans (if_pos h_46)
    refine lv_tableIn (tgt := 192) hx hb dX11_isSo_25 (by rw [h_46]; decide) (by rw [h_46]; decide) (by rw [h_46]; rfl) (by decide) ?_
    refine lv_iload_n hx hb dX11_isSo_192 rfl (lv_at hl 2 rfl) ?_
    refine lv_iload hx hb dX11_isSo_193 (lv_at hl 0 rfl) ?_
    refine kz_dN0 (P := (b01 (y_Model_is σ 31)) = (b01 (y_Model_is σ 28))) (tgt := 202) (M := 203) (fun a b => lv_icmp_ne (tgt := 202) hx hb dX11_isSo_195 (by decide) a b) hx hb dX11_isSo_198 dX11_isSo_199 (by decide) dX11_isSo_202 rfl ?_
    refine lv_iload_n hx hb dX11_isSo_203 rfl (lv_at hl 4 rfl) ?_
    refine lv_bipush (v := 10) hx hb dX11_isSo_204 (by decide) ?_
    refine kz_dN0 (P := v0 = 10) (tgt := 213) (M := 214) (fun a b => lv_icmp_ne (tgt := 213) hx hb dX11_isSo_206 (by decide) a b) hx hb dX11_isSo_209 dX11_isSo_210 (by decide) dX11_isSo_213 rfl ?_
    refine lv_icmp_ne (tgt := 221) hx hb dX11_isSo_214 (by decide) (fun h_49 => ?_) (fun h_49 => ?_)
    · have hf := hf.trans (if_neg h_49)
      refine lv_iconst (v := 0) hx hb dX11_isSo_221 (by decide) ?_
      exact hret false _ _ _ _ hf hP hD hS dX11_isSo_222
    · have hf := hf.trans (if_pos h_49)
      refine lv_iconst (v := 1) hx hb dX11_isSo_217 (by decide) ?_
      refine lv_goto (tgt := 222) hx hb dX11_isSo_218 (by decide) ?_
      exact hret true _ _ _ _ hf hP hD hS dX11_isSo_222
  have hf := hf.trans (if_neg h_46)
  by_cases h_50 : (v0 >>> ((1 : Int32) &&& 31)) = 6
  · have hf := hf.trans (if_pos h_50)
    refine lv_tableIn (tgt := 223) hx hb dX11_isSo_25 (by rw [h_50]; decide) (by rw [h_50]; decide) (by rw [h_50]; rfl) (by decide) ?_
    refine lv_iload_n hx hb dX11_isSo_223 rfl (lv_at hl 1 rfl) ?_
    refine kz_ne (tgt := 237) hx hb dX11_isSo_224 (by decide) (fun h_51 => ?_) (fun h_51 => ?_)
    · have hf := hf.trans (if_pos h_51)
      exact J237 _ _ _ hP hD hS (lv_sub hl [4] rfl) hf
    · have hf := hf.trans (if_neg h_51)
      refine lv_iload_n hx hb dX11_isSo_227 rfl (lv_at hl 2 rfl) ?_
      refine lv_iload hx hb dX11_isSo_228 (lv_at hl 0 rfl) ?_
      refine lv_icmp_ne (tgt := 237) hx hb dX11_isSo_230 (by decide) (fun h_52 => ?_) (fun h_52 => ?_)
      · have hf := hf.trans (if_neg h_52)
        exact J237 _ _ _ hP hD hS (lv_sub hl [4] rfl) hf
      · have hf := hf.trans (if_pos h_52)
        refine lv_iconst (v := 1) hx hb dX11_isSo_233 (by decide) ?_
        refine lv_goto (tgt := 238) hx hb dX11_isSo_234 (by decide) ?_
        exact J238 true _ _ _ hP hD hS (lv_sub hl [4] rfl) hf
  have hf := hf.trans (if_neg h_50)
  refine ksw_dflt (tgt := 258) hx hb dX11_isSo_25 [0, 1, 2, 3, 4, 5, 6] (ksw_c h_31 (ksw_c h_34 (ksw_c h_37 (ksw_c h_40 (ksw_c h_43 (ksw_c h_46 (ksw_c h_50 ksw_n))))))) (by decide) (by decide) ?_
  refine lv_iconst (v := 1) hx hb dX11_isSo_258 (by decide) ?_
  exact hret true _ _ _ _ hf hP hD hS dX11_isSo_259
