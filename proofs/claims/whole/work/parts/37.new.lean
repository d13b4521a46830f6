set_option maxRecDepth 20000 in
set_option maxHeartbeats 4000000 in
theorem cn_Shifter (l : Launch) (G : KG) (b : Nat) : KN 0 0 l yX7_init (Cond.code yX7_init cX7_init 1 none :: lw_all) { frames := 1, cells := 0, slots := 0, locals := 39 } (gD G) vwCl (gT G) [.ref b] [(b, .inr (5, [.int 0]))] (fun u => u = [(b, .inr (5, [.int 0]))]) := by
  refine kn_in (by decide) rfl rfl (Nat.le_of_ble_eq_true rfl) ?_
  intro p e s m args below meth c A Q ls hx hb hml hown hts hK hP hD hA hS hin hl hret
  have hts := fun w h => hts w (List.mem_cons_of_mem _ h)
  have hl : lv_has ls 1 [(0, .ref b)] := hl
  refine lv_aload_n hx hb dX7_init_0 rfl (lv_at hl 0 rfl) ?_
  refine W.objInit hx hb hown (hts _ kw_71) (hts _ kw_11) (hts _ kw_12) rfl (by rw [hml]; exact hl.1) rfl dX7_init_1 (Nat.le_of_ble_eq_true rfl) (Nat.le_of_ble_eq_true rfl) ?_
  refine W.eq (g2 := F0 m 4 ls []) rfl ?_
  refine lv_aload_n hx hb dX7_init_4 rfl (lv_at hl 0 rfl) ?_
  refine lv_iconst (v := 0) hx hb dX7_init_5 (by decide) ?_
  refine va_put (D := gD G) (ci := 5) (v := .int 0) (ty := .int) hx hb hts ku_7 tyX7 tyX7_ok nmX7 hown hK hP hD hS 0 rfl rfl 0 (by decide) (hts _ kw_72) (fun _ h9 => h9) rfl (tyX7_ok 0 (by decide)) rfl rfl (Nat.le_of_ble_eq_true rfl) dX7_init_6 (fun H locs hP hD hS => ?_)
  have hP : va_P (gD G) vwCl [(b, .inr (5, [.int 0]))] H := hP
  have hD : va_D A [(b, .inr (5, [.int 0]))] := hD
  exact hret _ _ _ _ _ _ _ (rfl) hP hD hS (Nat.le_of_ble_eq_true rfl) (Nat.le_of_ble_eq_true rfl) dX7_init_9
set_option maxRecDepth 20000 in
set_option maxHeartbeats 4000000 in
theorem cn_Alu (l : Launch) (G : KG) (b a1 : Nat) : KN 0 0 l yX0_init (Cond.code yX0_init cX0_init 2 none :: lw_all) { frames := 1, cells := 0, slots := 0, locals := 39 } (gD G) vwCl (gT G) [.ref b, .ref a1] [(b, .inr (0, [.null, .int 0]))] (fun u => u = [(b, .inr (0, [.ref a1, .int 0]))]) := by
  refine kn_in (by decide) rfl rfl (Nat.le_of_ble_eq_true rfl) ?_
  intro p e s m args below meth c A Q ls hx hb hml hown hts hK hP hD hA hS hin hl hret
  have hts := fun w h => hts w (List.mem_cons_of_mem _ h)
  have hl : lv_has ls 2 [(0, .ref b), (1, .ref a1)] := hl
  refine lv_aload_n hx hb dX0_init_0 rfl (lv_at hl 0 rfl) ?_
  refine W.objInit hx hb hown (hts _ kw_76) (hts _ kw_11) (hts _ kw_12) rfl (by rw [hml]; exact hl.1) rfl dX0_init_1 (Nat.le_of_ble_eq_true rfl) (Nat.le_of_ble_eq_true rfl) ?_
  refine W.eq (g2 := F0 m 4 ls []) rfl ?_
  refine lv_aload_n hx hb dX0_init_4 rfl (lv_at hl 0 rfl) ?_
  refine lv_aload_n hx hb dX0_init_5 rfl (lv_at hl 1 rfl) ?_
  refine va_putF (D := gD G) (ci := 0) (v := .ref a1) (ty := (.object "TwoSetMachine$Registers")) hx hb hts ku_0 tyX0 tyX0_ok nmX0 hown hK hP hD hS 0 rfl rfl 0 (by decide) (hts _ kw_77) (fun _ h9 => h9) rfl hin rfl (tyX0_ok 0 (by decide)) rfl rfl (Nat.le_of_ble_eq_true rfl) dX0_init_6 (fun H locs hP hD hS => ?_)
  have hP : va_P (gD G) vwCl [(b, .inr (0, [.ref a1, .int 0]))] H := hP
  have hD : va_D A [(b, .inr (0, [.ref a1, .int 0]))] := hD
  refine lv_aload_n hx hb dX0_init_9 rfl (lv_at hl 0 rfl) ?_
  refine lv_iconst (v := 0) hx hb dX0_init_10 (by decide) ?_
  refine va_put (D := gD G) (ci := 0) (v := .int 0) (ty := .int) hx hb hts ku_0 tyX0 tyX0_ok nmX0 hown hK hP hD hS 0 rfl rfl 1 (by decide) (hts _ kw_78) (fun _ h9 => h9) rfl (tyX0_ok 1 (by decide)) rfl rfl (Nat.le_of_ble_eq_true rfl) dX0_init_11 (fun H locs hP hD hS => ?_)
  have hP : va_P (gD G) vwCl [(b, .inr (0, [.ref a1, .int 0]))] H := hP
  have hD : va_D A [(b, .inr (0, [.ref a1, .int 0]))] := hD
  exact hret _ _ _ _ _ _ _ (rfl) hP hD hS (Nat.le_of_ble_eq_true rfl) (Nat.le_of_ble_eq_true rfl) dX0_init_14
set_option maxRecDepth 20000 in
set_option maxHeartbeats 4000000 in
theorem cn_Transfers (l : Launch) (G : KG) (b a1 a2 : Nat) : KN 0 0 l yX9_init (Cond.code yX9_init cX9_init 3 none :: lw_all) { frames := 1, cells := 0, slots := 0, locals := 39 } (gD G) vwCl (gT G) [.ref b, .ref a1, .ref a2] [(b, .inr (7, [.null, .null]))] (fun u => u = [(b, .inr (7, [.ref a1, .ref a2]))]) := by
  refine kn_in (by decide) rfl rfl (Nat.le_of_ble_eq_true rfl) ?_
  intro p e s m args below meth c A Q ls hx hb hml hown hts hK hP hD hA hS hin hl hret
  have hts := fun w h => hts w (List.mem_cons_of_mem _ h)
  have hl : lv_has ls 3 [(0, .ref b), (1, .ref a1), (2, .ref a2)] := hl
  refine lv_aload_n hx hb dX9_init_0 rfl (lv_at hl 0 rfl) ?_
  refine W.objInit hx hb hown (hts _ kw_82) (hts _ kw_11) (hts _ kw_12) rfl (by rw [hml]; exact hl.1) rfl dX9_init_1 (Nat.le_of_ble_eq_true rfl) (Nat.le_of_ble_eq_true rfl) ?_
  refine W.eq (g2 := F0 m 4 ls []) rfl ?_
  refine lv_aload_n hx hb dX9_init_4 rfl (lv_at hl 0 rfl) ?_
  refine lv_aload_n hx hb dX9_init_5 rfl (lv_at hl 1 rfl) ?_
  refine va_putF (D := gD G) (ci := 7) (v := .ref a1) (ty := (.object "TwoSetMachine$Memory")) hx hb hts ku_9 tyX9 tyX9_ok nmX9 hown hK hP hD hS 0 rfl rfl 0 (by decide) (hts _ kw_83) (fun _ h9 => h9) rfl hin rfl (tyX9_ok 0 (by decide)) rfl rfl (Nat.le_of_ble_eq_true rfl) dX9_init_6 (fun H locs hP hD hS => ?_)
  have hP : va_P (gD G) vwCl [(b, .inr (7, [.ref a1, .null]))] H := hP
  have hD : va_D A [(b, .inr (7, [.ref a1, .null]))] := hD
  refine lv_aload_n hx hb dX9_init_9 rfl (lv_at hl 0 rfl) ?_
  refine lv_aload_n hx hb dX9_init_10 rfl (lv_at hl 2 rfl) ?_
  refine va_putF (D := gD G) (ci := 7) (v := .ref a2) (ty := (.object "TwoSetMachine$Registers")) hx hb hts ku_9 tyX9 tyX9_ok nmX9 hown hK hP hD hS 0 rfl rfl 1 (by decide) (hts _ kw_84) (fun _ h9 => h9) rfl hin rfl (tyX9_ok 1 (by decide)) rfl rfl (Nat.le_of_ble_eq_true rfl) dX9_init_11 (fun H locs hP hD hS => ?_)
  have hP : va_P (gD G) vwCl [(b, .inr (7, [.ref a1, .ref a2]))] H := hP
  have hD : va_D A [(b, .inr (7, [.ref a1, .ref a2]))] := hD
  exact hret _ _ _ _ _ _ _ (rfl) hP hD hS (Nat.le_of_ble_eq_true rfl) (Nat.le_of_ble_eq_true rfl) dX9_init_14
set_option maxRecDepth 20000 in
set_option maxHeartbeats 4000000 in
theorem cn_ArmSet (l : Launch) (G : KG) (b a1 a2 a3 a4 : Nat) : KN 0 0 l yX1_init (Cond.code yX1_init cX1_init 5 none :: lw_all) { frames := 1, cells := 0, slots := 0, locals := 39 } (gD G) vwCl (gT G) [.ref b, .ref a1, .ref a2, .ref a3, .ref a4] [(b, .inr (1, [.null, .null, .null, .null]))] (fun u => u = [(b, .inr (1, [.ref a1, .ref a2, .ref a3, .ref a4]))]) := by
  refine kn_in (by decide) rfl rfl (Nat.le_of_ble_eq_true rfl) ?_
  intro p e s m args below meth c A Q ls hx hb hml hown hts hK hP hD hA hS hin hl hret
  have hts := fun w h => hts w (List.mem_cons_of_mem _ h)
  have hl : lv_has ls 5 [(0, .ref b), (1, .ref a1), (2, .ref a2), (3, .ref a3), (4, .ref a4)] := hl
  refine lv_aload_n hx hb dX1_init_0 rfl (lv_at hl 0 rfl) ?_
  refine W.objInit hx hb hown (hts _ kw_88) (hts _ kw_11) (hts _ kw_12) rfl (by rw [hml]; exact hl.1) rfl dX1_init_1 (Nat.le_of_ble_eq_true rfl) (Nat.le_of_ble_eq_true rfl) ?_
  refine W.eq (g2 := F0 m 4 ls []) rfl ?_
  refine lv_aload_n hx hb dX1_init_4 rfl (lv_at hl 0 rfl) ?_
  refine lv_aload_n hx hb dX1_init_5 rfl (lv_at hl 1 rfl) ?_
  refine va_putF (D := gD G) (ci := 1) (v := .ref a1) (ty := (.object "TwoSetMachine$Registers")) hx hb hts ku_1 tyX1 tyX1_ok nmX1 hown hK hP hD hS 0 rfl rfl 0 (by decide) (hts _ kw_89) (fun _ h9 => h9) rfl hin rfl (tyX1_ok 0 (by decide)) rfl rfl (Nat.le_of_ble_eq_true rfl) dX1_init_6 (fun H locs hP hD hS => ?_)
  have hP : va_P (gD G) vwCl [(b, .inr (1, [.ref a1, .null, .null, .null]))] H := hP
  have hD : va_D A [(b, .inr (1, [.ref a1, .null, .null, .null]))] := hD
  refine lv_aload_n hx hb dX1_init_9 rfl (lv_at hl 0 rfl) ?_
  refine lv_aload_n hx hb dX1_init_10 rfl (lv_at hl 2 rfl) ?_
  refine va_putF (D := gD G) (ci := 1) (v := .ref a2) (ty := (.object "TwoSetMachine$Shifter")) hx hb hts ku_1 tyX1 tyX1_ok nmX1 hown hK hP hD hS 0 rfl rfl 1 (by decide) (hts _ kw_90) (fun _ h9 => h9) rfl hin rfl (tyX1_ok 1 (by decide)) rfl rfl (Nat.le_of_ble_eq_true rfl) dX1_init_11 (fun H locs hP hD hS => ?_)
  have hP : va_P (gD G) vwCl [(b, .inr (1, [.ref a1, .ref a2, .null, .null]))] H := hP
  have hD : va_D A [(b, .inr (1, [.ref a1, .ref a2, .null, .null]))] := hD
  refine lv_aload_n hx hb dX1_init_14 rfl (lv_at hl 0 rfl) ?_
  refine lv_aload_n hx hb dX1_init_15 rfl (lv_at hl 3 rfl) ?_
  refine va_putF (D := gD G) (ci := 1) (v := .ref a3) (ty := (.object "TwoSetMachine$Alu")) hx hb hts ku_1 tyX1 tyX1_ok nmX1 hown hK hP hD hS 0 rfl rfl 2 (by decide) (hts _ kw_91) (fun _ h9 => h9) rfl hin rfl (tyX1_ok 2 (by decide)) rfl rfl (Nat.le_of_ble_eq_true rfl) dX1_init_16 (fun H locs hP hD hS => ?_)
  have hP : va_P (gD G) vwCl [(b, .inr (1, [.ref a1, .ref a2, .ref a3, .null]))] H := hP
  have hD : va_D A [(b, .inr (1, [.ref a1, .ref a2, .ref a3, .null]))] := hD
  refine lv_aload_n hx hb dX1_init_19 rfl (lv_at hl 0 rfl) ?_
  refine lv_aload hx hb dX1_init_20 (lv_at hl 4 rfl) ?_
  refine va_putF (D := gD G) (ci := 1) (v := .ref a4) (ty := (.object "TwoSetMachine$Transfers")) hx hb hts ku_1 tyX1 tyX1_ok nmX1 hown hK hP hD hS 0 rfl rfl 3 (by decide) (hts _ kw_92) (fun _ h9 => h9) rfl hin rfl (tyX1_ok 3 (by decide)) rfl rfl (Nat.le_of_ble_eq_true rfl) dX1_init_22 (fun H locs hP hD hS => ?_)
  have hP : va_P (gD G) vwCl [(b, .inr (1, [.ref a1, .ref a2, .ref a3, .ref a4]))] H := hP
  have hD : va_D A [(b, .inr (1, [.ref a1, .ref a2, .ref a3, .ref a4]))] := hD
  exact hret _ _ _ _ _ _ _ (rfl) hP hD hS (Nat.le_of_ble_eq_true rfl) (Nat.le_of_ble_eq_true rfl) dX1_init_25
set_option maxRecDepth 20000 in
set_option maxHeartbeats 4000000 in
theorem cn_ThumbSet (l : Launch) (G : KG) (b a1 a2 a3 a4 : Nat) : KN 0 0 l yX8_init (Cond.code yX8_init cX8_init 5 none :: lw_all) { frames := 1, cells := 0, slots := 0, locals := 39 } (gD G) vwCl (gT G) [.ref b, .ref a1, .ref a2, .ref a3, .ref a4] [(b, .inr (6, [.null, .null, .null, .null]))] (fun u => u = [(b, .inr (6, [.ref a1, .ref a2, .ref a3, .ref a4]))]) := by
  refine kn_in (by decide) rfl rfl (Nat.le_of_ble_eq_true rfl) ?_
  intro p e s m args below meth c A Q ls hx hb hml hown hts hK hP hD hA hS hin hl hret
  have hts := fun w h => hts w (List.mem_cons_of_mem _ h)
  have hl : lv_has ls 5 [(0, .ref b), (1, .ref a1), (2, .ref a2), (3, .ref a3), (4, .ref a4)] := hl
  refine lv_aload_n hx hb dX8_init_0 rfl (lv_at hl 0 rfl) ?_
  refine W.objInit hx hb hown (hts _ kw_96) (hts _ kw_11) (hts _ kw_12) rfl (by rw [hml]; exact hl.1) rfl dX8_init_1 (Nat.le_of_ble_eq_true rfl) (Nat.le_of_ble_eq_true rfl) ?_
  refine W.eq (g2 := F0 m 4 ls []) rfl ?_
  refine lv_aload_n hx hb dX8_init_4 rfl (lv_at hl 0 rfl) ?_
  refine lv_aload_n hx hb dX8_init_5 rfl (lv_at hl 1 rfl) ?_
  refine va_putF (D := gD G) (ci := 6) (v := .ref a1) (ty := (.object "TwoSetMachine$Registers")) hx hb hts ku_8 tyX8 tyX8_ok nmX8 hown hK hP hD hS 0 rfl rfl 0 (by decide) (hts _ kw_97) (fun _ h9 => h9) rfl hin rfl (tyX8_ok 0 (by decide)) rfl rfl (Nat.le_of_ble_eq_true rfl) dX8_init_6 (fun H locs hP hD hS => ?_)
  have hP : va_P (gD G) vwCl [(b, .inr (6, [.ref a1, .null, .null, .null]))] H := hP
  have hD : va_D A [(b, .inr (6, [.ref a1, .null, .null, .null]))] := hD
  refine lv_aload_n hx hb dX8_init_9 rfl (lv_at hl 0 rfl) ?_
  refine lv_aload_n hx hb dX8_init_10 rfl (lv_at hl 2 rfl) ?_
  refine va_putF (D := gD G) (ci := 6) (v := .ref a2) (ty := (.object "TwoSetMachine$Shifter")) hx hb hts ku_8 tyX8 tyX8_ok nmX8 hown hK hP hD hS 0 rfl rfl 1 (by decide) (hts _ kw_98) (fun _ h9 => h9) rfl hin rfl (tyX8_ok 1 (by decide)) rfl rfl (Nat.le_of_ble_eq_true rfl) dX8_init_11 (fun H locs hP hD hS => ?_)
  have hP : va_P (gD G) vwCl [(b, .inr (6, [.ref a1, .ref a2, .null, .null]))] H := hP
  have hD : va_D A [(b, .inr (6, [.ref a1, .ref a2, .null, .null]))] := hD
  refine lv_aload_n hx hb dX8_init_14 rfl (lv_at hl 0 rfl) ?_
  refine lv_aload_n hx hb dX8_init_15 rfl (lv_at hl 3 rfl) ?_
  refine va_putF (D := gD G) (ci := 6) (v := .ref a3) (ty := (.object "TwoSetMachine$Alu")) hx hb hts ku_8 tyX8 tyX8_ok nmX8 hown hK hP hD hS 0 rfl rfl 2 (by decide) (hts _ kw_99) (fun _ h9 => h9) rfl hin rfl (tyX8_ok 2 (by decide)) rfl rfl (Nat.le_of_ble_eq_true rfl) dX8_init_16 (fun H locs hP hD hS => ?_)
  have hP : va_P (gD G) vwCl [(b, .inr (6, [.ref a1, .ref a2, .ref a3, .null]))] H := hP
  have hD : va_D A [(b, .inr (6, [.ref a1, .ref a2, .ref a3, .null]))] := hD
  refine lv_aload_n hx hb dX8_init_19 rfl (lv_at hl 0 rfl) ?_
  refine lv_aload hx hb dX8_init_20 (lv_at hl 4 rfl) ?_
  refine va_putF (D := gD G) (ci := 6) (v := .ref a4) (ty := (.object "TwoSetMachine$Transfers")) hx hb hts ku_8 tyX8 tyX8_ok nmX8 hown hK hP hD hS 0 rfl rfl 3 (by decide) (hts _ kw_100) (fun _ h9 => h9) rfl hin rfl (tyX8_ok 3 (by decide)) rfl rfl (Nat.le_of_ble_eq_true rfl) dX8_init_22 (fun H locs hP hD hS => ?_)
  have hP : va_P (gD G) vwCl [(b, .inr (6, [.ref a1, .ref a2, .ref a3, .ref a4]))] H := hP
  have hD : va_D A [(b, .inr (6, [.ref a1, .ref a2, .ref a3, .ref a4]))] := hD
  exact hret _ _ _ _ _ _ _ (rfl) hP hD hS (Nat.le_of_ble_eq_true rfl) (Nat.le_of_ble_eq_true rfl) dX8_init_25
set_option maxRecDepth 20000 in
set_option maxHeartbeats 4000000 in
theorem cn_Memory (l : Launch) (G : KG) (b : Nat) : KN 1 65536 l yX4_init (Cond.code yX4_init cX4_init 1 none :: lw_all) { frames := 1, cells := 1, slots := 65536, locals := 39 } (gD G) vwCl (gT G) [.ref b] [(b, .inr (2, [.null]))] (fun u => ∃ q0 : Nat, u = [(b, .inr (2, [.ref q0])), (q0, .inl (G.2.1.1, 65536, .inl (fun _ => 0)))]) := by
  refine kn_in (by decide) rfl rfl (Nat.le_of_ble_eq_true rfl) ?_
  intro p e s m args below meth c A Q ls hx hb hml hown hts hK hP hD hA hS hin hl hret
  have hts := fun w h => hts w (List.mem_cons_of_mem _ h)
  have hl : lv_has ls 1 [(0, .ref b)] := hl
  refine lv_aload_n hx hb dX4_init_0 rfl (lv_at hl 0 rfl) ?_
  refine W.objInit hx hb hown (hts _ kw_28) (hts _ kw_11) (hts _ kw_12) rfl (by rw [hml]; exact hl.1) rfl dX4_init_1 (Nat.le_of_ble_eq_true rfl) (Nat.le_of_ble_eq_true rfl) ?_
  refine W.eq (g2 := F0 m 4 ls []) rfl ?_
  refine lv_aload_n hx hb dX4_init_4 rfl (lv_at hl 0 rfl) ?_
  refine lv_ldc hx hb hown (hts _ kw_29) dX4_init_5 ?_
  refine kn_newa (atype := .int) (ty := .int) (N' := 65536) (a0 := (65536, .inl (fun _ => 0))) hx hb (hts _ kw_30) rfl hK hP hD hS hA (fun _ => rfl) (by decide) (by decide) (by decide) (Nat.le_of_ble_eq_true rfl) (Nat.le_of_ble_eq_true rfl) dX4_init_7 0 rfl (fun _ h => h) (fun q0 H hP hD hS => ?_)
  have hP : va_P (gD G) vwCl [(b, .inr (2, [.null])), (q0, .inl (G.2.1.1, 65536, .inl (fun _ => 0)))] H := hP
  have hD : va_D A [(b, .inr (2, [.null])), (q0, .inl (G.2.1.1, 65536, .inl (fun _ => 0)))] := hD
  refine va_putF (D := gD G) (ci := 2) (v := .ref q0) (ty := (.array .int)) hx hb hts ku_4 tyX4 tyX4_ok nmX4 hown hK hP hD hS 0 rfl rfl 0 (by decide) (hts _ kw_31) (fun _ h9 => h9) rfl hin rfl (tyX4_ok 0 (by decide)) rfl rfl (Nat.le_of_ble_eq_true rfl) dX4_init_9 (fun H locs hP hD hS => ?_)
  have hP : va_P (gD G) vwCl [(b, .inr (2, [.ref q0])), (q0, .inl (G.2.1.1, 65536, .inl (fun _ => 0)))] H := hP
  have hD : va_D A [(b, .inr (2, [.ref q0])), (q0, .inl (G.2.1.1, 65536, .inl (fun _ => 0)))] := hD
  exact hret _ _ _ _ _ _ _ (⟨q0, rfl⟩) hP hD hS (Nat.le_of_ble_eq_true rfl) (Nat.le_of_ble_eq_true rfl) dX4_init_12
set_option maxRecDepth 20000 in
set_option maxHeartbeats 4000000 in
theorem cn_Registers (l : Launch) (G : KG) (b : Nat) : KN 2 37 l yX6_init (Cond.code yX6_init cX6_init 1 none :: lw_all) { frames := 1, cells := 2, slots := 37, locals := 39 } (gD G) vwCl (gT G) [.ref b] [(b, .inr (4, [.null, .null, .int 0, .int 0, .int 0]))] (fun u => ∃ q0 q1 : Nat, u = [(b, .inr (4, [.ref q0, .ref q1, .int 211, .int 3, .int 0])), (q0, .inl (G.2.1.1, 31, .inl (fun _ => 0))), (q1, .inl (G.2.1.1, 6, .inl (fun _ => 0)))]) := by
  refine kn_in (by decide) rfl rfl (Nat.le_of_ble_eq_true rfl) ?_
  intro p e s m args below meth c A Q ls hx hb hml hown hts hK hP hD hA hS hin hl hret
  have hts := fun w h => hts w (List.mem_cons_of_mem _ h)
  have hl : lv_has ls 1 [(0, .ref b)] := hl
  refine lv_aload_n hx hb dX6_init_0 rfl (lv_at hl 0 rfl) ?_
  refine W.objInit hx hb hown (hts _ kw_35) (hts _ kw_11) (hts _ kw_12) rfl (by rw [hml]; exact hl.1) rfl dX6_init_1 (Nat.le_of_ble_eq_true rfl) (Nat.le_of_ble_eq_true rfl) ?_
  refine W.eq (g2 := F0 m 4 ls []) rfl ?_
  refine lv_aload_n hx hb dX6_init_4 rfl (lv_at hl 0 rfl) ?_
  refine lv_bipush (v := 31) hx hb dX6_init_5 (by decide) ?_
  refine kn_newa (atype := .int) (ty := .int) (N' := 31) (a0 := (31, .inl (fun _ => 0))) hx hb (hts _ kw_30) rfl hK hP hD hS hA (fun _ => rfl) (by decide) (by decide) (by decide) (Nat.le_of_ble_eq_true rfl) (Nat.le_of_ble_eq_true rfl) dX6_init_7 0 rfl (fun _ h => h) (fun q0 H hP hD hS => ?_)
  have hP : va_P (gD G) vwCl [(b, .inr (4, [.null, .null, .int 0, .int 0, .int 0])), (q0, .inl (G.2.1.1, 31, .inl (fun _ => 0)))] H := hP
  have hD : va_D A [(b, .inr (4, [.null, .null, .int 0, .int 0, .int 0])), (q0, .inl (G.2.1.1, 31, .inl (fun _ => 0)))] := hD
  refine va_putF (D := gD G) (ci := 4) (v := .ref q0) (ty := (.array .int)) hx hb hts ku_6 tyX6 tyX6_ok nmX6 hown hK hP hD hS 0 rfl rfl 0 (by decide) (hts _ kw_36) (fun _ h9 => h9) rfl hin rfl (tyX6_ok 0 (by decide)) rfl rfl (Nat.le_of_ble_eq_true rfl) dX6_init_9 (fun H locs hP hD hS => ?_)
  have hP : va_P (gD G) vwCl [(b, .inr (4, [.ref q0, .null, .int 0, .int 0, .int 0])), (q0, .inl (G.2.1.1, 31, .inl (fun _ => 0)))] H := hP
  have hD : va_D A [(b, .inr (4, [.ref q0, .null, .int 0, .int 0, .int 0])), (q0, .inl (G.2.1.1, 31, .inl (fun _ => 0)))] := hD
  refine lv_aload_n hx hb dX6_init_12 rfl (lv_at hl 0 rfl) ?_
  refine lv_bipush (v := 6) hx hb dX6_init_13 (by decide) ?_
  refine kn_newa (atype := .int) (ty := .int) (N' := 6) (a0 := (6, .inl (fun _ => 0))) hx hb (hts _ kw_30) rfl hK hP hD hS hA (fun _ => rfl) (by decide) (by decide) (by decide) (Nat.le_of_ble_eq_true rfl) (Nat.le_of_ble_eq_true rfl) dX6_init_15 0 rfl (fun _ h => h) (fun q1 H hP hD hS => ?_)
  have hP : va_P (gD G) vwCl [(b, .inr (4, [.ref q0, .null, .int 0, .int 0, .int 0])), (q0, .inl (G.2.1.1, 31, .inl (fun _ => 0))), (q1, .inl (G.2.1.1, 6, .inl (fun _ => 0)))] H := hP
  have hD : va_D A [(b, .inr (4, [.ref q0, .null, .int 0, .int 0, .int 0])), (q0, .inl (G.2.1.1, 31, .inl (fun _ => 0))), (q1, .inl (G.2.1.1, 6, .inl (fun _ => 0)))] := hD
  refine va_putF (D := gD G) (ci := 4) (v := .ref q1) (ty := (.array .int)) hx hb hts ku_6 tyX6 tyX6_ok nmX6 hown hK hP hD hS 0 rfl rfl 1 (by decide) (hts _ kw_37) (fun _ h9 => h9) rfl hin rfl (tyX6_ok 1 (by decide)) rfl rfl (Nat.le_of_ble_eq_true rfl) dX6_init_17 (fun H locs hP hD hS => ?_)
  have hP : va_P (gD G) vwCl [(b, .inr (4, [.ref q0, .ref q1, .int 0, .int 0, .int 0])), (q0, .inl (G.2.1.1, 31, .inl (fun _ => 0))), (q1, .inl (G.2.1.1, 6, .inl (fun _ => 0)))] H := hP
  have hD : va_D A [(b, .inr (4, [.ref q0, .ref q1, .int 0, .int 0, .int 0])), (q0, .inl (G.2.1.1, 31, .inl (fun _ => 0))), (q1, .inl (G.2.1.1, 6, .inl (fun _ => 0)))] := hD
  refine lv_aload_n hx hb dX6_init_20 rfl (lv_at hl 0 rfl) ?_
  refine lv_sipush (v := 211) hx hb dX6_init_21 (by decide) ?_
  refine va_put (D := gD G) (ci := 4) (v := .int 211) (ty := .int) hx hb hts ku_6 tyX6 tyX6_ok nmX6 hown hK hP hD hS 0 rfl rfl 2 (by decide) (hts _ kw_38) (fun _ h9 => h9) rfl (tyX6_ok 2 (by decide)) rfl rfl (Nat.le_of_ble_eq_true rfl) dX6_init_24 (fun H locs hP hD hS => ?_)
  have hP : va_P (gD G) vwCl [(b, .inr (4, [.ref q0, .ref q1, .int 211, .int 0, .int 0])), (q0, .inl (G.2.1.1, 31, .inl (fun _ => 0))), (q1, .inl (G.2.1.1, 6, .inl (fun _ => 0)))] H := hP
  have hD : va_D A [(b, .inr (4, [.ref q0, .ref q1, .int 211, .int 0, .int 0])), (q0, .inl (G.2.1.1, 31, .inl (fun _ => 0))), (q1, .inl (G.2.1.1, 6, .inl (fun _ => 0)))] := hD
  refine lv_aload_n hx hb dX6_init_27 rfl (lv_at hl 0 rfl) ?_
  refine lv_iconst (v := 3) hx hb dX6_init_28 (by decide) ?_
  refine va_put (D := gD G) (ci := 4) (v := .int 3) (ty := .int) hx hb hts ku_6 tyX6 tyX6_ok nmX6 hown hK hP hD hS 0 rfl rfl 3 (by decide) (hts _ kw_39) (fun _ h9 => h9) rfl (tyX6_ok 3 (by decide)) rfl rfl (Nat.le_of_ble_eq_true rfl) dX6_init_29 (fun H locs hP hD hS => ?_)
  have hP : va_P (gD G) vwCl [(b, .inr (4, [.ref q0, .ref q1, .int 211, .int 3, .int 0])), (q0, .inl (G.2.1.1, 31, .inl (fun _ => 0))), (q1, .inl (G.2.1.1, 6, .inl (fun _ => 0)))] H := hP
  have hD : va_D A [(b, .inr (4, [.ref q0, .ref q1, .int 211, .int 3, .int 0])), (q0, .inl (G.2.1.1, 31, .inl (fun _ => 0))), (q1, .inl (G.2.1.1, 6, .inl (fun _ => 0)))] := hD
  refine lv_aload_n hx hb dX6_init_32 rfl (lv_at hl 0 rfl) ?_
  refine lv_iconst (v := 0) hx hb dX6_init_33 (by decide) ?_
  refine va_put (D := gD G) (ci := 4) (v := .int 0) (ty := .int) hx hb hts ku_6 tyX6 tyX6_ok nmX6 hown hK hP hD hS 0 rfl rfl 4 (by decide) (hts _ kw_40) (fun _ h9 => h9) rfl (tyX6_ok 4 (by decide)) rfl rfl (Nat.le_of_ble_eq_true rfl) dX6_init_34 (fun H locs hP hD hS => ?_)
  have hP : va_P (gD G) vwCl [(b, .inr (4, [.ref q0, .ref q1, .int 211, .int 3, .int 0])), (q0, .inl (G.2.1.1, 31, .inl (fun _ => 0))), (q1, .inl (G.2.1.1, 6, .inl (fun _ => 0)))] H := hP
  have hD : va_D A [(b, .inr (4, [.ref q0, .ref q1, .int 211, .int 3, .int 0])), (q0, .inl (G.2.1.1, 31, .inl (fun _ => 0))), (q1, .inl (G.2.1.1, 6, .inl (fun _ => 0)))] := hD
  exact hret _ _ _ _ _ _ _ (⟨q0, q1, rfl⟩) hP hD hS (Nat.le_of_ble_eq_true rfl) (Nat.le_of_ble_eq_true rfl) dX6_init_37
set_option maxRecDepth 20000 in
set_option maxHeartbeats 4000000 in
theorem cn_Processor (l : Launch) (G : KG) (b a1 a2 : Nat) : KN 6 19 l yX5_init (Cond.code yX5_init cX5_init 6 none :: lw_all) { frames := 2, cells := 6, slots := 19, locals := 78 } (gD G) vwCl (gT G) [.ref b, .ref a1, .ref a2] [(b, .inr (3, [.null, .null, .null, .null, .null, .int 0, .int 0, .int 0]))] (fun u => ∃ q0 q1 q2 q3 q4 q5 : Nat, u = [(b, .inr (3, [.ref a1, .ref a2, .ref q3, .ref q4, .ref q5, .int 0, .int 0, .int 0])), (q0, .inr (5, [.int 0])), (q1, .inr (0, [.ref a2, .int 0])), (q2, .inr (7, [.ref a1, .ref a2])), (q3, .inr (1, [.ref a2, .ref q0, .ref q1, .ref q2])), (q4, .inr (6, [.ref a2, .ref q0, .ref q1, .ref q2])), (q5, .inl (G.2.1.1, 6, .inl (fun _ => 0)))]) := by
  refine kn_in (by decide) rfl rfl (Nat.le_of_ble_eq_true rfl) ?_
  intro p e s m args below meth c A Q ls hx hb hml hown hts hK hP hD hA hS hin hl hret
  have hts := fun w h => hts w (List.mem_cons_of_mem _ h)
  have hl : lv_has ls 6 [(0, .ref b), (1, .ref a1), (2, .ref a2)] := hl
  refine lv_aload_n hx hb dX5_init_0 rfl (lv_at hl 0 rfl) ?_
  refine W.objInit hx hb hown (hts _ kw_44) (hts _ kw_11) (hts _ kw_12) rfl (by rw [hml]; exact hl.1) rfl dX5_init_1 (Nat.le_of_ble_eq_true rfl) (Nat.le_of_ble_eq_true rfl) ?_
  refine W.eq (g2 := F0 m 4 ls []) rfl ?_
  refine lv_aload_n hx hb dX5_init_4 rfl (lv_at hl 0 rfl) ?_
  refine lv_aload_n hx hb dX5_init_5 rfl (lv_at hl 1 rfl) ?_
  refine va_putF (D := gD G) (ci := 3) (v := .ref a1) (ty := (.object "TwoSetMachine$Memory")) hx hb hts ku_5 tyX5 tyX5_ok nmX5 hown hK hP hD hS 0 rfl rfl 0 (by decide) (hts _ kw_45) (fun _ h9 => h9) rfl hin rfl (tyX5_ok 0 (by decide)) rfl rfl (Nat.le_of_ble_eq_true rfl) dX5_init_6 (fun H locs hP hD hS => ?_)
  have hP : va_P (gD G) vwCl [(b, .inr (3, [.ref a1, .null, .null, .null, .null, .int 0, .int 0, .int 0]))] H := hP
  have hD : va_D A [(b, .inr (3, [.ref a1, .null, .null, .null, .null, .int 0, .int 0, .int 0]))] := hD
  refine lv_aload_n hx hb dX5_init_9 rfl (lv_at hl 0 rfl) ?_
  refine lv_aload_n hx hb dX5_init_10 rfl (lv_at hl 2 rfl) ?_
  refine va_putF (D := gD G) (ci := 3) (v := .ref a2) (ty := (.object "TwoSetMachine$Registers")) hx hb hts ku_5 tyX5 tyX5_ok nmX5 hown hK hP hD hS 0 rfl rfl 1 (by decide) (hts _ kw_46) (fun _ h9 => h9) rfl hin rfl (tyX5_ok 1 (by decide)) rfl rfl (Nat.le_of_ble_eq_true rfl) dX5_init_11 (fun H locs hP hD hS => ?_)
  have hP : va_P (gD G) vwCl [(b, .inr (3, [.ref a1, .ref a2, .null, .null, .null, .int 0, .int 0, .int 0]))] H := hP
  have hD : va_D A [(b, .inr (3, [.ref a1, .ref a2, .null, .null, .null, .int 0, .int 0, .int 0]))] := hD
  refine va_new (ci := 5) (fs := [.int 0]) (C := RX7) (T := TX7) (N := 1) hx hb hts ku_7 tyX7 tyX7_ok hown (hts _ kw_47) (hts _ kw_48) (hts _ kw_49) hK hP hD hS hA rfl (fun j hj => by rcases (show j = 0 by omega) with rfl <;> rfl) (Nat.le_of_ble_eq_true rfl) (Nat.le_of_ble_eq_true rfl) dX5_init_14 (fun q0 H hP hD hS => ?_)
  have hP : va_P (gD G) vwCl [(b, .inr (3, [.ref a1, .ref a2, .null, .null, .null, .int 0, .int 0, .int 0])), (q0, .inr (5, [.int 0]))] H := hP
  have hD : va_D A [(b, .inr (3, [.ref a1, .ref a2, .null, .null, .null, .int 0, .int 0, .int 0])), (q0, .inr (5, [.int 0]))] := hD
  refine lv_dup hx hb dX5_init_17 rfl ?_
  refine kn_I (wr := [(b, .inr (3, [.ref a1, .ref a2, .null, .null, .null, .int 0, .int 0, .int 0]))]) (w0 := [(q0, .inr (5, [.int 0]))]) (As := []) (rest := [.ref q0]) (cn_Shifter l G q0) ⟨hx, hb, hml, hown, hts⟩ (cwI 0 hts (lw_gc kw_70 lw_all_good) rfl rfl rfl (hts _ kw_49) (hts _ kw_68) (hts _ kw_69) rfl (by decide +kernel) ⟨by decide, by decide⟩) hK hP hD hS hA rfl hl.1 rfl (Nat.le_of_ble_eq_true rfl) dX5_init_18 ⟨Nat.le_of_ble_eq_true rfl, Nat.le_of_ble_eq_true rfl⟩ (fun u H locs hu hP hD hS => ?_)
  obtain rfl := hu
  have hP : va_P (gD G) vwCl [(b, .inr (3, [.ref a1, .ref a2, .null, .null, .null, .int 0, .int 0, .int 0])), (q0, .inr (5, [.int 0]))] H := hP
  have hD : va_D A [(b, .inr (3, [.ref a1, .ref a2, .null, .null, .null, .int 0, .int 0, .int 0])), (q0, .inr (5, [.int 0]))] := hD
  refine lv_astore_n (lv' := [(3, .ref q0), (0, .ref b), (1, .ref a1), (2, .ref a2)]) hx hb dX5_init_21 rfl hl (by decide) rfl (fun ls hl => ?_)
  refine va_new (ci := 0) (fs := [.null, .int 0]) (C := RX0) (T := TX0) (N := 2) hx hb hts ku_0 tyX0 tyX0_ok hown (hts _ kw_50) (hts _ kw_51) (hts _ kw_52) hK hP hD hS hA rfl (fun j hj => by rcases (show j = 0 ∨ j = 1 by omega) with rfl | rfl <;> rfl) (Nat.le_of_ble_eq_true rfl) (Nat.le_of_ble_eq_true rfl) dX5_init_22 (fun q1 H hP hD hS => ?_)
  have hP : va_P (gD G) vwCl [(b, .inr (3, [.ref a1, .ref a2, .null, .null, .null, .int 0, .int 0, .int 0])), (q0, .inr (5, [.int 0])), (q1, .inr (0, [.null, .int 0]))] H := hP
  have hD : va_D A [(b, .inr (3, [.ref a1, .ref a2, .null, .null, .null, .int 0, .int 0, .int 0])), (q0, .inr (5, [.int 0])), (q1, .inr (0, [.null, .int 0]))] := hD
  refine lv_dup hx hb dX5_init_25 rfl ?_
  refine lv_aload_n hx hb dX5_init_26 rfl (lv_at hl 3 rfl) ?_
  refine kn_I (wr := [(b, .inr (3, [.ref a1, .ref a2, .null, .null, .null, .int 0, .int 0, .int 0])), (q0, .inr (5, [.int 0]))]) (w0 := [(q1, .inr (0, [.null, .int 0]))]) (As := [.ref a2]) (rest := [.ref q1]) (cn_Alu l G q1 a2) ⟨hx, hb, hml, hown, hts⟩ (cwI 1 hts (lw_gc kw_75 lw_all_good) rfl rfl rfl (hts _ kw_52) (hts _ kw_73) (hts _ kw_74) rfl (by decide +kernel) ⟨by decide, by decide⟩) hK hP hD hS hA rfl hl.1 rfl (Nat.le_of_ble_eq_true rfl) dX5_init_27 ⟨Nat.le_of_ble_eq_true rfl, Nat.le_of_ble_eq_true rfl⟩ (fun u H locs hu hP hD hS => ?_)
  obtain rfl := hu
  have hP : va_P (gD G) vwCl [(b, .inr (3, [.ref a1, .ref a2, .null, .null, .null, .int 0, .int 0, .int 0])), (q0, .inr (5, [.int 0])), (q1, .inr (0, [.ref a2, .int 0]))] H := hP
  have hD : va_D A [(b, .inr (3, [.ref a1, .ref a2, .null, .null, .null, .int 0, .int 0, .int 0])), (q0, .inr (5, [.int 0])), (q1, .inr (0, [.ref a2, .int 0]))] := hD
  refine lv_astore (lv' := [(4, .ref q1), (3, .ref q0), (0, .ref b), (1, .ref a1), (2, .ref a2)]) hx hb dX5_init_30 hl (by decide) rfl (fun ls hl => ?_)
  refine va_new (ci := 7) (fs := [.null, .null]) (C := RX9) (T := TX9) (N := 2) hx hb hts ku_9 tyX9 tyX9_ok hown (hts _ kw_53) (hts _ kw_54) (hts _ kw_55) hK hP hD hS hA rfl (fun j hj => by rcases (show j = 0 ∨ j = 1 by omega) with rfl | rfl <;> rfl) (Nat.le_of_ble_eq_true rfl) (Nat.le_of_ble_eq_true rfl) dX5_init_32 (fun q2 H hP hD hS => ?_)
  have hP : va_P (gD G) vwCl [(b, .inr (3, [.ref a1, .ref a2, .null, .null, .null, .int 0, .int 0, .int 0])), (q0, .inr (5, [.int 0])), (q1, .inr (0, [.ref a2, .int 0])), (q2, .inr (7, [.null, .null]))] H := hP
  have hD : va_D A [(b, .inr (3, [.ref a1, .ref a2, .null, .null, .null, .int 0, .int 0, .int 0])), (q0, .inr (5, [.int 0])), (q1, .inr (0, [.ref a2, .int 0])), (q2, .inr (7, [.null, .null]))] := hD
  refine lv_dup hx hb dX5_init_35 rfl ?_
  refine lv_aload_n hx hb dX5_init_36 rfl (lv_at hl 3 rfl) ?_
  refine lv_aload_n hx hb dX5_init_37 rfl (lv_at hl 4 rfl) ?_
  refine kn_I (wr := [(b, .inr (3, [.ref a1, .ref a2, .null, .null, .null, .int 0, .int 0, .int 0])), (q0, .inr (5, [.int 0])), (q1, .inr (0, [.ref a2, .int 0]))]) (w0 := [(q2, .inr (7, [.null, .null]))]) (As := [.ref a1, .ref a2]) (rest := [.ref q2]) (cn_Transfers l G q2 a1 a2) ⟨hx, hb, hml, hown, hts⟩ (cwI 2 hts (lw_gc kw_81 lw_all_good) rfl rfl rfl (hts _ kw_55) (hts _ kw_79) (hts _ kw_80) rfl (by decide +kernel) ⟨by decide, by decide⟩) hK hP hD hS hA rfl hl.1 rfl (Nat.le_of_ble_eq_true rfl) dX5_init_38 ⟨Nat.le_of_ble_eq_true rfl, Nat.le_of_ble_eq_true rfl⟩ (fun u H locs hu hP hD hS => ?_)
  obtain rfl := hu
  have hP : va_P (gD G) vwCl [(b, .inr (3, [.ref a1, .ref a2, .null, .null, .null, .int 0, .int 0, .int 0])), (q0, .inr (5, [.int 0])), (q1, .inr (0, [.ref a2, .int 0])), (q2, .inr (7, [.ref a1, .ref a2]))] H := hP
  have hD : va_D A [(b, .inr (3, [.ref a1, .ref a2, .null, .null, .null, .int 0, .int 0, .int 0])), (q0, .inr (5, [.int 0])), (q1, .inr (0, [.ref a2, .int 0])), (q2, .inr (7, [.ref a1, .ref a2]))] := hD
  refine lv_astore (lv' := [(5, .ref q2), (4, .ref q1), (3, .ref q0), (0, .ref b), (1, .ref a1), (2, .ref a2)]) hx hb dX5_init_41 hl (by decide) rfl (fun ls hl => ?_)
  refine lv_aload_n hx hb dX5_init_43 rfl (lv_at hl 3 rfl) ?_
  refine va_new (ci := 1) (fs := [.null, .null, .null, .null]) (C := RX1) (T := TX1) (N := 4) hx hb hts ku_1 tyX1 tyX1_ok hown (hts _ kw_56) (hts _ kw_57) (hts _ kw_58) hK hP hD hS hA rfl (fun j hj => by rcases (show j = 0 ∨ j = 1 ∨ j = 2 ∨ j = 3 by omega) with rfl | rfl | rfl | rfl <;> rfl) (Nat.le_of_ble_eq_true rfl) (Nat.le_of_ble_eq_true rfl) dX5_init_44 (fun q3 H hP hD hS => ?_)
  have hP : va_P (gD G) vwCl [(b, .inr (3, [.ref a1, .ref a2, .null, .null, .null, .int 0, .int 0, .int 0])), (q0, .inr (5, [.int 0])), (q1, .inr (0, [.ref a2, .int 0])), (q2, .inr (7, [.ref a1, .ref a2])), (q3, .inr (1, [.null, .null, .null, .null]))] H := hP
  have hD : va_D A [(b, .inr (3, [.ref a1, .ref a2, .null, .null, .null, .int 0, .int 0, .int 0])), (q0, .inr (5, [.int 0])), (q1, .inr (0, [.ref a2, .int 0])), (q2, .inr (7, [.ref a1, .ref a2])), (q3, .inr (1, [.null, .null, .null, .null]))] := hD
  refine lv_dup hx hb dX5_init_47 rfl ?_
  refine lv_aload_n hx hb dX5_init_48 rfl (lv_at hl 5 rfl) ?_
  refine lv_aload_n hx hb dX5_init_49 rfl (lv_at hl 2 rfl) ?_
  refine lv_aload hx hb dX5_init_50 (lv_at hl 1 rfl) ?_
  refine lv_aload hx hb dX5_init_52 (lv_at hl 0 rfl) ?_
  refine kn_I (wr := [(b, .inr (3, [.ref a1, .ref a2, .null, .null, .null, .int 0, .int 0, .int 0])), (q0, .inr (5, [.int 0])), (q1, .inr (0, [.ref a2, .int 0])), (q2, .inr (7, [.ref a1, .ref a2]))]) (w0 := [(q3, .inr (1, [.null, .null, .null, .null]))]) (As := [.ref a2, .ref q0, .ref q1, .ref q2]) (rest := [.ref q3, .ref b]) (cn_ArmSet l G q3 a2 q0 q1 q2) ⟨hx, hb, hml, hown, hts⟩ (cwI 4 hts (lw_gc kw_87 lw_all_good) rfl rfl rfl (hts _ kw_58) (hts _ kw_85) (hts _ kw_86) rfl (by decide +kernel) ⟨by decide, by decide⟩) hK hP hD hS hA rfl hl.1 rfl (Nat.le_of_ble_eq_true rfl) dX5_init_54 ⟨Nat.le_of_ble_eq_true rfl, Nat.le_of_ble_eq_true rfl⟩ (fun u H locs hu hP hD hS => ?_)
  obtain rfl := hu
  have hP : va_P (gD G) vwCl [(b, .inr (3, [.ref a1, .ref a2, .null, .null, .null, .int 0, .int 0, .int 0])), (q0, .inr (5, [.int 0])), (q1, .inr (0, [.ref a2, .int 0])), (q2, .inr (7, [.ref a1, .ref a2])), (q3, .inr (1, [.ref a2, .ref q0, .ref q1, .ref q2]))] H := hP
  have hD : va_D A [(b, .inr (3, [.ref a1, .ref a2, .null, .null, .null, .int 0, .int 0, .int 0])), (q0, .inr (5, [.int 0])), (q1, .inr (0, [.ref a2, .int 0])), (q2, .inr (7, [.ref a1, .ref a2])), (q3, .inr (1, [.ref a2, .ref q0, .ref q1, .ref q2]))] := hD
  refine va_putF (D := gD G) (ci := 3) (v := .ref q3) (ty := (.object "TwoSetMachine$ArmSet")) hx hb hts ku_5 tyX5 tyX5_ok nmX5 hown hK hP hD hS 0 rfl rfl 2 (by decide) (hts _ kw_59) (fun _ h9 => h9) rfl hin rfl (tyX5_ok 2 (by decide)) rfl rfl (Nat.le_of_ble_eq_true rfl) dX5_init_57 (fun H locs hP hD hS => ?_)
  have hP : va_P (gD G) vwCl [(b, .inr (3, [.ref a1, .ref a2, .ref q3, .null, .null, .int 0, .int 0, .int 0])), (q0, .inr (5, [.int 0])), (q1, .inr (0, [.ref a2, .int 0])), (q2, .inr (7, [.ref a1, .ref a2])), (q3, .inr (1, [.ref a2, .ref q0, .ref q1, .ref q2]))] H := hP
  have hD : va_D A [(b, .inr (3, [.ref a1, .ref a2, .ref q3, .null, .null, .int 0, .int 0, .int 0])), (q0, .inr (5, [.int 0])), (q1, .inr (0, [.ref a2, .int 0])), (q2, .inr (7, [.ref a1, .ref a2])), (q3, .inr (1, [.ref a2, .ref q0, .ref q1, .ref q2]))] := hD
  refine lv_aload_n hx hb dX5_init_60 rfl (lv_at hl 3 rfl) ?_
  refine va_new (ci := 6) (fs := [.null, .null, .null, .null]) (C := RX8) (T := TX8) (N := 4) hx hb hts ku_8 tyX8 tyX8_ok hown (hts _ kw_60) (hts _ kw_61) (hts _ kw_62) hK hP hD hS hA rfl (fun j hj => by rcases (show j = 0 ∨ j = 1 ∨ j = 2 ∨ j = 3 by omega) with rfl | rfl | rfl | rfl <;> rfl) (Nat.le_of_ble_eq_true rfl) (Nat.le_of_ble_eq_true rfl) dX5_init_61 (fun q4 H hP hD hS => ?_)
  have hP : va_P (gD G) vwCl [(b, .inr (3, [.ref a1, .ref a2, .ref q3, .null, .null, .int 0, .int 0, .int 0])), (q0, .inr (5, [.int 0])), (q1, .inr (0, [.ref a2, .int 0])), (q2, .inr (7, [.ref a1, .ref a2])), (q3, .inr (1, [.ref a2, .ref q0, .ref q1, .ref q2])), (q4, .inr (6, [.null, .null, .null, .null]))] H := hP
  have hD : va_D A [(b, .inr (3, [.ref a1, .ref a2, .ref q3, .null, .null, .int 0, .int 0, .int 0])), (q0, .inr (5, [.int 0])), (q1, .inr (0, [.ref a2, .int 0])), (q2, .inr (7, [.ref a1, .ref a2])), (q3, .inr (1, [.ref a2, .ref q0, .ref q1, .ref q2])), (q4, .inr (6, [.null, .null, .null, .null]))] := hD
  refine lv_dup hx hb dX5_init_64 rfl ?_
  refine lv_aload_n hx hb dX5_init_65 rfl (lv_at hl 5 rfl) ?_
  refine lv_aload_n hx hb dX5_init_66 rfl (lv_at hl 2 rfl) ?_
  refine lv_aload hx hb dX5_init_67 (lv_at hl 1 rfl) ?_
  refine lv_aload hx hb dX5_init_69 (lv_at hl 0 rfl) ?_
  refine kn_I (wr := [(b, .inr (3, [.ref a1, .ref a2, .ref q3, .null, .null, .int 0, .int 0, .int 0])), (q0, .inr (5, [.int 0])), (q1, .inr (0, [.ref a2, .int 0])), (q2, .inr (7, [.ref a1, .ref a2])), (q3, .inr (1, [.ref a2, .ref q0, .ref q1, .ref q2]))]) (w0 := [(q4, .inr (6, [.null, .null, .null, .null]))]) (As := [.ref a2, .ref q0, .ref q1, .ref q2]) (rest := [.ref q4, .ref b]) (cn_ThumbSet l G q4 a2 q0 q1 q2) ⟨hx, hb, hml, hown, hts⟩ (cwI 4 hts (lw_gc kw_95 lw_all_good) rfl rfl rfl (hts _ kw_62) (hts _ kw_93) (hts _ kw_94) rfl (by decide +kernel) ⟨by decide, by decide⟩) hK hP hD hS hA rfl hl.1 rfl (Nat.le_of_ble_eq_true rfl) dX5_init_71 ⟨Nat.le_of_ble_eq_true rfl, Nat.le_of_ble_eq_true rfl⟩ (fun u H locs hu hP hD hS => ?_)
  obtain rfl := hu
  have hP : va_P (gD G) vwCl [(b, .inr (3, [.ref a1, .ref a2, .ref q3, .null, .null, .int 0, .int 0, .int 0])), (q0, .inr (5, [.int 0])), (q1, .inr (0, [.ref a2, .int 0])), (q2, .inr (7, [.ref a1, .ref a2])), (q3, .inr (1, [.ref a2, .ref q0, .ref q1, .ref q2])), (q4, .inr (6, [.ref a2, .ref q0, .ref q1, .ref q2]))] H := hP
  have hD : va_D A [(b, .inr (3, [.ref a1, .ref a2, .ref q3, .null, .null, .int 0, .int 0, .int 0])), (q0, .inr (5, [.int 0])), (q1, .inr (0, [.ref a2, .int 0])), (q2, .inr (7, [.ref a1, .ref a2])), (q3, .inr (1, [.ref a2, .ref q0, .ref q1, .ref q2])), (q4, .inr (6, [.ref a2, .ref q0, .ref q1, .ref q2]))] := hD
  refine va_putF (D := gD G) (ci := 3) (v := .ref q4) (ty := (.object "TwoSetMachine$ThumbSet")) hx hb hts ku_5 tyX5 tyX5_ok nmX5 hown hK hP hD hS 0 rfl rfl 3 (by decide) (hts _ kw_63) (fun _ h9 => h9) rfl hin rfl (tyX5_ok 3 (by decide)) rfl rfl (Nat.le_of_ble_eq_true rfl) dX5_init_74 (fun H locs hP hD hS => ?_)
  have hP : va_P (gD G) vwCl [(b, .inr (3, [.ref a1, .ref a2, .ref q3, .ref q4, .null, .int 0, .int 0, .int 0])), (q0, .inr (5, [.int 0])), (q1, .inr (0, [.ref a2, .int 0])), (q2, .inr (7, [.ref a1, .ref a2])), (q3, .inr (1, [.ref a2, .ref q0, .ref q1, .ref q2])), (q4, .inr (6, [.ref a2, .ref q0, .ref q1, .ref q2]))] H := hP
  have hD : va_D A [(b, .inr (3, [.ref a1, .ref a2, .ref q3, .ref q4, .null, .int 0, .int 0, .int 0])), (q0, .inr (5, [.int 0])), (q1, .inr (0, [.ref a2, .int 0])), (q2, .inr (7, [.ref a1, .ref a2])), (q3, .inr (1, [.ref a2, .ref q0, .ref q1, .ref q2])), (q4, .inr (6, [.ref a2, .ref q0, .ref q1, .ref q2]))] := hD
  refine lv_aload_n hx hb dX5_init_77 rfl (lv_at hl 3 rfl) ?_
  refine lv_bipush (v := 6) hx hb dX5_init_78 (by decide) ?_
  refine kn_newa (atype := .int) (ty := .int) (N' := 6) (a0 := (6, .inl (fun _ => 0))) hx hb (hts _ kw_30) rfl hK hP hD hS hA (fun _ => rfl) (by decide) (by decide) (by decide) (Nat.le_of_ble_eq_true rfl) (Nat.le_of_ble_eq_true rfl) dX5_init_80 0 rfl (fun _ h => h) (fun q5 H hP hD hS => ?_)
  have hP : va_P (gD G) vwCl [(b, .inr (3, [.ref a1, .ref a2, .ref q3, .ref q4, .null, .int 0, .int 0, .int 0])), (q0, .inr (5, [.int 0])), (q1, .inr (0, [.ref a2, .int 0])), (q2, .inr (7, [.ref a1, .ref a2])), (q3, .inr (1, [.ref a2, .ref q0, .ref q1, .ref q2])), (q4, .inr (6, [.ref a2, .ref q0, .ref q1, .ref q2])), (q5, .inl (G.2.1.1, 6, .inl (fun _ => 0)))] H := hP
  have hD : va_D A [(b, .inr (3, [.ref a1, .ref a2, .ref q3, .ref q4, .null, .int 0, .int 0, .int 0])), (q0, .inr (5, [.int 0])), (q1, .inr (0, [.ref a2, .int 0])), (q2, .inr (7, [.ref a1, .ref a2])), (q3, .inr (1, [.ref a2, .ref q0, .ref q1, .ref q2])), (q4, .inr (6, [.ref a2, .ref q0, .ref q1, .ref q2])), (q5, .inl (G.2.1.1, 6, .inl (fun _ => 0)))] := hD
  refine va_putF (D := gD G) (ci := 3) (v := .ref q5) (ty := (.array .int)) hx hb hts ku_5 tyX5 tyX5_ok nmX5 hown hK hP hD hS 0 rfl rfl 4 (by decide) (hts _ kw_64) (fun _ h9 => h9) rfl hin rfl (tyX5_ok 4 (by decide)) rfl rfl (Nat.le_of_ble_eq_true rfl) dX5_init_82 (fun H locs hP hD hS => ?_)
  have hP : va_P (gD G) vwCl [(b, .inr (3, [.ref a1, .ref a2, .ref q3, .ref q4, .ref q5, .int 0, .int 0, .int 0])), (q0, .inr (5, [.int 0])), (q1, .inr (0, [.ref a2, .int 0])), (q2, .inr (7, [.ref a1, .ref a2])), (q3, .inr (1, [.ref a2, .ref q0, .ref q1, .ref q2])), (q4, .inr (6, [.ref a2, .ref q0, .ref q1, .ref q2])), (q5, .inl (G.2.1.1, 6, .inl (fun _ => 0)))] H := hP
  have hD : va_D A [(b, .inr (3, [.ref a1, .ref a2, .ref q3, .ref q4, .ref q5, .int 0, .int 0, .int 0])), (q0, .inr (5, [.int 0])), (q1, .inr (0, [.ref a2, .int 0])), (q2, .inr (7, [.ref a1, .ref a2])), (q3, .inr (1, [.ref a2, .ref q0, .ref q1, .ref q2])), (q4, .inr (6, [.ref a2, .ref q0, .ref q1, .ref q2])), (q5, .inl (G.2.1.1, 6, .inl (fun _ => 0)))] := hD
  refine lv_aload_n hx hb dX5_init_85 rfl (lv_at hl 3 rfl) ?_
  refine lv_iconst (v := 0) hx hb dX5_init_86 (by decide) ?_
  refine va_put (D := gD G) (ci := 3) (v := .int 0) (ty := .int) hx hb hts ku_5 tyX5 tyX5_ok nmX5 hown hK hP hD hS 0 rfl rfl 5 (by decide) (hts _ kw_65) (fun _ h9 => h9) rfl (tyX5_ok 5 (by decide)) rfl rfl (Nat.le_of_ble_eq_true rfl) dX5_init_87 (fun H locs hP hD hS => ?_)
  have hP : va_P (gD G) vwCl [(b, .inr (3, [.ref a1, .ref a2, .ref q3, .ref q4, .ref q5, .int 0, .int 0, .int 0])), (q0, .inr (5, [.int 0])), (q1, .inr (0, [.ref a2, .int 0])), (q2, .inr (7, [.ref a1, .ref a2])), (q3, .inr (1, [.ref a2, .ref q0, .ref q1, .ref q2])), (q4, .inr (6, [.ref a2, .ref q0, .ref q1, .ref q2])), (q5, .inl (G.2.1.1, 6, .inl (fun _ => 0)))] H := hP
  have hD : va_D A [(b, .inr (3, [.ref a1, .ref a2, .ref q3, .ref q4, .ref q5, .int 0, .int 0, .int 0])), (q0, .inr (5, [.int 0])), (q1, .inr (0, [.ref a2, .int 0])), (q2, .inr (7, [.ref a1, .ref a2])), (q3, .inr (1, [.ref a2, .ref q0, .ref q1, .ref q2])), (q4, .inr (6, [.ref a2, .ref q0, .ref q1, .ref q2])), (q5, .inl (G.2.1.1, 6, .inl (fun _ => 0)))] := hD
  refine lv_aload_n hx hb dX5_init_90 rfl (lv_at hl 3 rfl) ?_
  refine lv_iconst (v := 0) hx hb dX5_init_91 (by decide) ?_
  refine va_put (D := gD G) (ci := 3) (v := .int 0) (ty := .boolean) hx hb hts ku_5 tyX5 tyX5_ok nmX5 hown hK hP hD hS 0 rfl rfl 6 (by decide) (hts _ kw_66) (fun _ h9 => h9) rfl (tyX5_ok 6 (by decide)) rfl rfl (Nat.le_of_ble_eq_true rfl) dX5_init_92 (fun H locs hP hD hS => ?_)
  have hP : va_P (gD G) vwCl [(b, .inr (3, [.ref a1, .ref a2, .ref q3, .ref q4, .ref q5, .int 0, .int 0, .int 0])), (q0, .inr (5, [.int 0])), (q1, .inr (0, [.ref a2, .int 0])), (q2, .inr (7, [.ref a1, .ref a2])), (q3, .inr (1, [.ref a2, .ref q0, .ref q1, .ref q2])), (q4, .inr (6, [.ref a2, .ref q0, .ref q1, .ref q2])), (q5, .inl (G.2.1.1, 6, .inl (fun _ => 0)))] H := hP
  have hD : va_D A [(b, .inr (3, [.ref a1, .ref a2, .ref q3, .ref q4, .ref q5, .int 0, .int 0, .int 0])), (q0, .inr (5, [.int 0])), (q1, .inr (0, [.ref a2, .int 0])), (q2, .inr (7, [.ref a1, .ref a2])), (q3, .inr (1, [.ref a2, .ref q0, .ref q1, .ref q2])), (q4, .inr (6, [.ref a2, .ref q0, .ref q1, .ref q2])), (q5, .inl (G.2.1.1, 6, .inl (fun _ => 0)))] := hD
  refine lv_aload_n hx hb dX5_init_95 rfl (lv_at hl 3 rfl) ?_
  refine lv_iconst (v := 0) hx hb dX5_init_96 (by decide) ?_
  refine va_put (D := gD G) (ci := 3) (v := .int 0) (ty := .boolean) hx hb hts ku_5 tyX5 tyX5_ok nmX5 hown hK hP hD hS 0 rfl rfl 7 (by decide) (hts _ kw_67) (fun _ h9 => h9) rfl (tyX5_ok 7 (by decide)) rfl rfl (Nat.le_of_ble_eq_true rfl) dX5_init_97 (fun H locs hP hD hS => ?_)
  have hP : va_P (gD G) vwCl [(b, .inr (3, [.ref a1, .ref a2, .ref q3, .ref q4, .ref q5, .int 0, .int 0, .int 0])), (q0, .inr (5, [.int 0])), (q1, .inr (0, [.ref a2, .int 0])), (q2, .inr (7, [.ref a1, .ref a2])), (q3, .inr (1, [.ref a2, .ref q0, .ref q1, .ref q2])), (q4, .inr (6, [.ref a2, .ref q0, .ref q1, .ref q2])), (q5, .inl (G.2.1.1, 6, .inl (fun _ => 0)))] H := hP
  have hD : va_D A [(b, .inr (3, [.ref a1, .ref a2, .ref q3, .ref q4, .ref q5, .int 0, .int 0, .int 0])), (q0, .inr (5, [.int 0])), (q1, .inr (0, [.ref a2, .int 0])), (q2, .inr (7, [.ref a1, .ref a2])), (q3, .inr (1, [.ref a2, .ref q0, .ref q1, .ref q2])), (q4, .inr (6, [.ref a2, .ref q0, .ref q1, .ref q2])), (q5, .inl (G.2.1.1, 6, .inl (fun _ => 0)))] := hD
  exact hret _ _ _ _ _ _ _ (⟨q0, q1, q2, q3, q4, q5, rfl⟩) hP hD hS (Nat.le_of_ble_eq_true rfl) (Nat.le_of_ble_eq_true rfl) dX5_init_100
set_option maxRecDepth 20000 in
set_option maxHeartbeats 4000000 in
theorem cn_Top (l : Launch) (G : KG) (b : Nat) : KN 12 65606 l yX10_init (Cond.code yX10_init cX10_init 1 none :: lw_all) { frames := 3, cells := 12, slots := 65606, locals := 117 } (gD G) vwCl (gT G) [.ref b] [(b, .inr (8, [.null, .null, .null]))] (fun u => ∃ q0 q1 q2 q3 q4 q5 q6 q7 q8 q9 q10 q11 : Nat, u = [(b, .inr (8, [.ref q0, .ref q2, .ref q5])), (q0, .inr (2, [.ref q1])), (q1, .inl (G.2.1.1, 65536, .inl (fun _ => 0))), (q2, .inr (4, [.ref q3, .ref q4, .int 211, .int 3, .int 0])), (q3, .inl (G.2.1.1, 31, .inl (fun _ => 0))), (q4, .inl (G.2.1.1, 6, .inl (fun _ => 0))), (q5, .inr (3, [.ref q0, .ref q2, .ref q9, .ref q10, .ref q11, .int 0, .int 0, .int 0])), (q6, .inr (5, [.int 0])), (q7, .inr (0, [.ref q2, .int 0])), (q8, .inr (7, [.ref q0, .ref q2])), (q9, .inr (1, [.ref q2, .ref q6, .ref q7, .ref q8])), (q10, .inr (6, [.ref q2, .ref q6, .ref q7, .ref q8])), (q11, .inl (G.2.1.1, 6, .inl (fun _ => 0)))]) := by
  refine kn_in (by decide) rfl rfl (Nat.le_of_ble_eq_true rfl) ?_
  intro p e s m args below meth c A Q ls hx hb hml hown hts hK hP hD hA hS hin hl hret
  have hts := fun w h => hts w (List.mem_cons_of_mem _ h)
  have hl : lv_has ls 1 [(0, .ref b)] := hl
  refine lv_aload_n hx hb dX10_init_0 rfl (lv_at hl 0 rfl) ?_
  refine W.objInit hx hb hown (hts _ kw_10) (hts _ kw_11) (hts _ kw_12) rfl (by rw [hml]; exact hl.1) rfl dX10_init_1 (Nat.le_of_ble_eq_true rfl) (Nat.le_of_ble_eq_true rfl) ?_
  refine W.eq (g2 := F0 m 4 ls []) rfl ?_
  refine lv_aload_n hx hb dX10_init_4 rfl (lv_at hl 0 rfl) ?_
  refine va_new (ci := 2) (fs := [.null]) (C := RX4) (T := TX4) (N := 1) hx hb hts ku_4 tyX4 tyX4_ok hown (hts _ kw_13) (hts _ kw_14) (hts _ kw_15) hK hP hD hS hA rfl (fun j hj => by rcases (show j = 0 by omega) with rfl <;> rfl) (Nat.le_of_ble_eq_true rfl) (Nat.le_of_ble_eq_true rfl) dX10_init_5 (fun q0 H hP hD hS => ?_)
  have hP : va_P (gD G) vwCl [(b, .inr (8, [.null, .null, .null])), (q0, .inr (2, [.null]))] H := hP
  have hD : va_D A [(b, .inr (8, [.null, .null, .null])), (q0, .inr (2, [.null]))] := hD
  refine lv_dup hx hb dX10_init_8 rfl ?_
  refine kn_I (wr := [(b, .inr (8, [.null, .null, .null]))]) (w0 := [(q0, .inr (2, [.null]))]) (As := []) (rest := [.ref q0, .ref b]) (cn_Memory l G q0) ⟨hx, hb, hml, hown, hts⟩ (cwI 0 hts (lw_gc kw_27 lw_all_good) rfl rfl rfl (hts _ kw_15) (hts _ kw_25) (hts _ kw_26) rfl (by decide +kernel) ⟨by decide, by decide⟩) hK hP hD hS hA rfl hl.1 rfl (Nat.le_of_ble_eq_true rfl) dX10_init_9 ⟨Nat.le_of_ble_eq_true rfl, Nat.le_of_ble_eq_true rfl⟩ (fun u H locs hu hP hD hS => ?_)
  obtain ⟨q1, rfl⟩ := hu
  have hP : va_P (gD G) vwCl [(b, .inr (8, [.null, .null, .null])), (q0, .inr (2, [.ref q1])), (q1, .inl (G.2.1.1, 65536, .inl (fun _ => 0)))] H := hP
  have hD : va_D A [(b, .inr (8, [.null, .null, .null])), (q0, .inr (2, [.ref q1])), (q1, .inl (G.2.1.1, 65536, .inl (fun _ => 0)))] := hD
  refine va_putF (D := gD G) (ci := 8) (v := .ref q0) (ty := (.object "TwoSetMachine$Memory")) hx hb hts ku_10 tyX10 tyX10_ok nmX10 hown hK hP hD hS 0 rfl rfl 0 (by decide) (hts _ kw_16) (fun _ h9 => h9) rfl hin rfl (tyX10_ok 0 (by decide)) rfl rfl (Nat.le_of_ble_eq_true rfl) dX10_init_12 (fun H locs hP hD hS => ?_)
  have hP : va_P (gD G) vwCl [(b, .inr (8, [.ref q0, .null, .null])), (q0, .inr (2, [.ref q1])), (q1, .inl (G.2.1.1, 65536, .inl (fun _ => 0)))] H := hP
  have hD : va_D A [(b, .inr (8, [.ref q0, .null, .null])), (q0, .inr (2, [.ref q1])), (q1, .inl (G.2.1.1, 65536, .inl (fun _ => 0)))] := hD
  refine lv_aload_n hx hb dX10_init_15 rfl (lv_at hl 0 rfl) ?_
  refine va_new (ci := 4) (fs := [.null, .null, .int 0, .int 0, .int 0]) (C := RX6) (T := TX6) (N := 5) hx hb hts ku_6 tyX6 tyX6_ok hown (hts _ kw_17) (hts _ kw_18) (hts _ kw_19) hK hP hD hS hA rfl (fun j hj => by rcases (show j = 0 ∨ j = 1 ∨ j = 2 ∨ j = 3 ∨ j = 4 by omega) with rfl | rfl | rfl | rfl | rfl <;> rfl) (Nat.le_of_ble_eq_true rfl) (Nat.le_of_ble_eq_true rfl) dX10_init_16 (fun q2 H hP hD hS => ?_)
  have hP : va_P (gD G) vwCl [(b, .inr (8, [.ref q0, .null, .null])), (q0, .inr (2, [.ref q1])), (q1, .inl (G.2.1.1, 65536, .inl (fun _ => 0))), (q2, .inr (4, [.null, .null, .int 0, .int 0, .int 0]))] H := hP
  have hD : va_D A [(b, .inr (8, [.ref q0, .null, .null])), (q0, .inr (2, [.ref q1])), (q1, .inl (G.2.1.1, 65536, .inl (fun _ => 0))), (q2, .inr (4, [.null, .null, .int 0, .int 0, .int 0]))] := hD
  refine lv_dup hx hb dX10_init_19 rfl ?_
  refine kn_I (wr := [(b, .inr (8, [.ref q0, .null, .null])), (q0, .inr (2, [.ref q1])), (q1, .inl (G.2.1.1, 65536, .inl (fun _ => 0)))]) (w0 := [(q2, .inr (4, [.null, .null, .int 0, .int 0, .int 0]))]) (As := []) (rest := [.ref q2, .ref b]) (cn_Registers l G q2) ⟨hx, hb, hml, hown, hts⟩ (cwI 0 hts (lw_gc kw_34 lw_all_good) rfl rfl rfl (hts _ kw_19) (hts _ kw_32) (hts _ kw_33) rfl (by decide +kernel) ⟨by decide, by decide⟩) hK hP hD hS hA rfl hl.1 rfl (Nat.le_of_ble_eq_true rfl) dX10_init_20 ⟨Nat.le_of_ble_eq_true rfl, Nat.le_of_ble_eq_true rfl⟩ (fun u H locs hu hP hD hS => ?_)
  obtain ⟨q3, q4, rfl⟩ := hu
  have hP : va_P (gD G) vwCl [(b, .inr (8, [.ref q0, .null, .null])), (q0, .inr (2, [.ref q1])), (q1, .inl (G.2.1.1, 65536, .inl (fun _ => 0))), (q2, .inr (4, [.ref q3, .ref q4, .int 211, .int 3, .int 0])), (q3, .inl (G.2.1.1, 31, .inl (fun _ => 0))), (q4, .inl (G.2.1.1, 6, .inl (fun _ => 0)))] H := hP
  have hD : va_D A [(b, .inr (8, [.ref q0, .null, .null])), (q0, .inr (2, [.ref q1])), (q1, .inl (G.2.1.1, 65536, .inl (fun _ => 0))), (q2, .inr (4, [.ref q3, .ref q4, .int 211, .int 3, .int 0])), (q3, .inl (G.2.1.1, 31, .inl (fun _ => 0))), (q4, .inl (G.2.1.1, 6, .inl (fun _ => 0)))] := hD
  refine va_putF (D := gD G) (ci := 8) (v := .ref q2) (ty := (.object "TwoSetMachine$Registers")) hx hb hts ku_10 tyX10 tyX10_ok nmX10 hown hK hP hD hS 0 rfl rfl 1 (by decide) (hts _ kw_20) (fun _ h9 => h9) rfl hin rfl (tyX10_ok 1 (by decide)) rfl rfl (Nat.le_of_ble_eq_true rfl) dX10_init_23 (fun H locs hP hD hS => ?_)
  have hP : va_P (gD G) vwCl [(b, .inr (8, [.ref q0, .ref q2, .null])), (q0, .inr (2, [.ref q1])), (q1, .inl (G.2.1.1, 65536, .inl (fun _ => 0))), (q2, .inr (4, [.ref q3, .ref q4, .int 211, .int 3, .int 0])), (q3, .inl (G.2.1.1, 31, .inl (fun _ => 0))), (q4, .inl (G.2.1.1, 6, .inl (fun _ => 0)))] H := hP
  have hD : va_D A [(b, .inr (8, [.ref q0, .ref q2, .null])), (q0, .inr (2, [.ref q1])), (q1, .inl (G.2.1.1, 65536, .inl (fun _ => 0))), (q2, .inr (4, [.ref q3, .ref q4, .int 211, .int 3, .int 0])), (q3, .inl (G.2.1.1, 31, .inl (fun _ => 0))), (q4, .inl (G.2.1.1, 6, .inl (fun _ => 0)))] := hD
  refine lv_aload_n hx hb dX10_init_26 rfl (lv_at hl 0 rfl) ?_
  refine va_new (ci := 3) (fs := [.null, .null, .null, .null, .null, .int 0, .int 0, .int 0]) (C := RX5) (T := TX5) (N := 8) hx hb hts ku_5 tyX5 tyX5_ok hown (hts _ kw_21) (hts _ kw_22) (hts _ kw_23) hK hP hD hS hA rfl (fun j hj => by rcases (show j = 0 ∨ j = 1 ∨ j = 2 ∨ j = 3 ∨ j = 4 ∨ j = 5 ∨ j = 6 ∨ j = 7 by omega) with rfl | rfl | rfl | rfl | rfl | rfl | rfl | rfl <;> rfl) (Nat.le_of_ble_eq_true rfl) (Nat.le_of_ble_eq_true rfl) dX10_init_27 (fun q5 H hP hD hS => ?_)
  have hP : va_P (gD G) vwCl [(b, .inr (8, [.ref q0, .ref q2, .null])), (q0, .inr (2, [.ref q1])), (q1, .inl (G.2.1.1, 65536, .inl (fun _ => 0))), (q2, .inr (4, [.ref q3, .ref q4, .int 211, .int 3, .int 0])), (q3, .inl (G.2.1.1, 31, .inl (fun _ => 0))), (q4, .inl (G.2.1.1, 6, .inl (fun _ => 0))), (q5, .inr (3, [.null, .null, .null, .null, .null, .int 0, .int 0, .int 0]))] H := hP
  have hD : va_D A [(b, .inr (8, [.ref q0, .ref q2, .null])), (q0, .inr (2, [.ref q1])), (q1, .inl (G.2.1.1, 65536, .inl (fun _ => 0))), (q2, .inr (4, [.ref q3, .ref q4, .int 211, .int 3, .int 0])), (q3, .inl (G.2.1.1, 31, .inl (fun _ => 0))), (q4, .inl (G.2.1.1, 6, .inl (fun _ => 0))), (q5, .inr (3, [.null, .null, .null, .null, .null, .int 0, .int 0, .int 0]))] := hD
  refine lv_dup hx hb dX10_init_30 rfl ?_
  refine lv_aload_n hx hb dX10_init_31 rfl (lv_at hl 0 rfl) ?_
  refine va_get (D := gD G) (ci := 8) hx hb hts ku_10 hown hK hP 0 rfl rfl 0 (by decide) (hts _ kw_16) (fun _ h9 => h9) rfl dX10_init_32 ?_
  refine lv_aload_n hx hb dX10_init_35 rfl (lv_at hl 0 rfl) ?_
  refine va_get (D := gD G) (ci := 8) hx hb hts ku_10 hown hK hP 0 rfl rfl 1 (by decide) (hts _ kw_20) (fun _ h9 => h9) rfl dX10_init_36 ?_
  refine kn_I (wr := [(b, .inr (8, [.ref q0, .ref q2, .null])), (q0, .inr (2, [.ref q1])), (q1, .inl (G.2.1.1, 65536, .inl (fun _ => 0))), (q2, .inr (4, [.ref q3, .ref q4, .int 211, .int 3, .int 0])), (q3, .inl (G.2.1.1, 31, .inl (fun _ => 0))), (q4, .inl (G.2.1.1, 6, .inl (fun _ => 0)))]) (w0 := [(q5, .inr (3, [.null, .null, .null, .null, .null, .int 0, .int 0, .int 0]))]) (As := [.ref q0, .ref q2]) (rest := [.ref q5, .ref b]) (cn_Processor l G q5 q0 q2) ⟨hx, hb, hml, hown, hts⟩ (cwI 2 hts (lw_gc kw_43 lw_all_good) rfl rfl rfl (hts _ kw_23) (hts _ kw_41) (hts _ kw_42) rfl (by decide +kernel) ⟨by decide, by decide⟩) hK hP hD hS hA rfl hl.1 rfl (Nat.le_of_ble_eq_true rfl) dX10_init_39 ⟨Nat.le_of_ble_eq_true rfl, Nat.le_of_ble_eq_true rfl⟩ (fun u H locs hu hP hD hS => ?_)
  obtain ⟨q6, q7, q8, q9, q10, q11, rfl⟩ := hu
  have hP : va_P (gD G) vwCl [(b, .inr (8, [.ref q0, .ref q2, .null])), (q0, .inr (2, [.ref q1])), (q1, .inl (G.2.1.1, 65536, .inl (fun _ => 0))), (q2, .inr (4, [.ref q3, .ref q4, .int 211, .int 3, .int 0])), (q3, .inl (G.2.1.1, 31, .inl (fun _ => 0))), (q4, .inl (G.2.1.1, 6, .inl (fun _ => 0))), (q5, .inr (3, [.ref q0, .ref q2, .ref q9, .ref q10, .ref q11, .int 0, .int 0, .int 0])), (q6, .inr (5, [.int 0])), (q7, .inr (0, [.ref q2, .int 0])), (q8, .inr (7, [.ref q0, .ref q2])), (q9, .inr (1, [.ref q2, .ref q6, .ref q7, .ref q8])), (q10, .inr (6, [.ref q2, .ref q6, .ref q7, .ref q8])), (q11, .inl (G.2.1.1, 6, .inl (fun _ => 0)))] H := hP
  have hD : va_D A [(b, .inr (8, [.ref q0, .ref q2, .null])), (q0, .inr (2, [.ref q1])), (q1, .inl (G.2.1.1, 65536, .inl (fun _ => 0))), (q2, .inr (4, [.ref q3, .ref q4, .int 211, .int 3, .int 0])), (q3, .inl (G.2.1.1, 31, .inl (fun _ => 0))), (q4, .inl (G.2.1.1, 6, .inl (fun _ => 0))), (q5, .inr (3, [.ref q0, .ref q2, .ref q9, .ref q10, .ref q11, .int 0, .int 0, .int 0])), (q6, .inr (5, [.int 0])), (q7, .inr (0, [.ref q2, .int 0])), (q8, .inr (7, [.ref q0, .ref q2])), (q9, .inr (1, [.ref q2, .ref q6, .ref q7, .ref q8])), (q10, .inr (6, [.ref q2, .ref q6, .ref q7, .ref q8])), (q11, .inl (G.2.1.1, 6, .inl (fun _ => 0)))] := hD
  refine va_putF (D := gD G) (ci := 8) (v := .ref q5) (ty := (.object "TwoSetMachine$Processor")) hx hb hts ku_10 tyX10 tyX10_ok nmX10 hown hK hP hD hS 0 rfl rfl 2 (by decide) (hts _ kw_24) (fun _ h9 => h9) rfl hin rfl (tyX10_ok 2 (by decide)) rfl rfl (Nat.le_of_ble_eq_true rfl) dX10_init_42 (fun H locs hP hD hS => ?_)
  have hP : va_P (gD G) vwCl [(b, .inr (8, [.ref q0, .ref q2, .ref q5])), (q0, .inr (2, [.ref q1])), (q1, .inl (G.2.1.1, 65536, .inl (fun _ => 0))), (q2, .inr (4, [.ref q3, .ref q4, .int 211, .int 3, .int 0])), (q3, .inl (G.2.1.1, 31, .inl (fun _ => 0))), (q4, .inl (G.2.1.1, 6, .inl (fun _ => 0))), (q5, .inr (3, [.ref q0, .ref q2, .ref q9, .ref q10, .ref q11, .int 0, .int 0, .int 0])), (q6, .inr (5, [.int 0])), (q7, .inr (0, [.ref q2, .int 0])), (q8, .inr (7, [.ref q0, .ref q2])), (q9, .inr (1, [.ref q2, .ref q6, .ref q7, .ref q8])), (q10, .inr (6, [.ref q2, .ref q6, .ref q7, .ref q8])), (q11, .inl (G.2.1.1, 6, .inl (fun _ => 0)))] H := hP
  have hD : va_D A [(b, .inr (8, [.ref q0, .ref q2, .ref q5])), (q0, .inr (2, [.ref q1])), (q1, .inl (G.2.1.1, 65536, .inl (fun _ => 0))), (q2, .inr (4, [.ref q3, .ref q4, .int 211, .int 3, .int 0])), (q3, .inl (G.2.1.1, 31, .inl (fun _ => 0))), (q4, .inl (G.2.1.1, 6, .inl (fun _ => 0))), (q5, .inr (3, [.ref q0, .ref q2, .ref q9, .ref q10, .ref q11, .int 0, .int 0, .int 0])), (q6, .inr (5, [.int 0])), (q7, .inr (0, [.ref q2, .int 0])), (q8, .inr (7, [.ref q0, .ref q2])), (q9, .inr (1, [.ref q2, .ref q6, .ref q7, .ref q8])), (q10, .inr (6, [.ref q2, .ref q6, .ref q7, .ref q8])), (q11, .inl (G.2.1.1, 6, .inl (fun _ => 0)))] := hD
  exact hret _ _ _ _ _ _ _ (⟨q0, q1, q2, q3, q4, q5, q6, q7, q8, q9, q10, q11, rfl⟩) hP hD hS (Nat.le_of_ble_eq_true rfl) (Nat.le_of_ble_eq_true rfl) dX10_init_45
set_option maxRecDepth 20000 in
set_option maxHeartbeats 4000000 in
theorem cn_Model (l : Launch) (G : KG) (b : Nat) : KN 5 65580 l yX11_init (Cond.code yX11_init cX11_init 1 none :: lw_all) { frames := 1, cells := 5, slots := 65580, locals := 39 } (gD G) vwCl (gT G) [.ref b] [(b, .inr (9, [.int 0, .null, .null, .null, .int 0, .null, .int 0, .null, .int 0, .int 0, .int 0, .int 0, .int 0, .int 0]))] (fun u => ∃ q0 q1 q2 q3 q4 : Nat, u = [(b, .inr (9, [.int 0, .ref q0, .ref q1, .ref q2, .int 211, .ref q3, .int 0, .ref q4, .int 0, .int 0, .int 0, .int 0, .int 0, .int 0])), (q0, .inl (G.2.1.1, 65536, .inl (fun _ => 0))), (q1, .inl (G.2.1.1, 31, .inl (fun _ => 0))), (q2, .inl (G.2.1.1, 5, .inl (fun _ => 0))), (q3, .inl (G.2.1.2.1, 2, .inl (fun _ => 0))), (q4, .inl (G.2.1.1, 6, .inl (fun _ => 0)))]) := by
  refine kn_in (by decide) rfl rfl (Nat.le_of_ble_eq_true rfl) ?_
  intro p e s m args below meth c A Q ls hx hb hml hown hts hK hP hD hA hS hin hl hret
  have hts := fun w h => hts w (List.mem_cons_of_mem _ h)
  have hl : lv_has ls 1 [(0, .ref b)] := hl
  refine lv_aload_n hx hb dX11_init_0 rfl (lv_at hl 0 rfl) ?_
  refine W.objInit hx hb hown (hts _ kw_104) (hts _ kw_11) (hts _ kw_12) rfl (by rw [hml]; exact hl.1) rfl dX11_init_1 (Nat.le_of_ble_eq_true rfl) (Nat.le_of_ble_eq_true rfl) ?_
  refine W.eq (g2 := F0 m 4 ls []) rfl ?_
  refine lv_aload_n hx hb dX11_init_4 rfl (lv_at hl 0 rfl) ?_
  refine lv_ldc hx hb hown (hts _ kw_105) dX11_init_5 ?_
  refine kn_newa (atype := .int) (ty := .int) (N' := 65536) (a0 := (65536, .inl (fun _ => 0))) hx hb (hts _ kw_30) rfl hK hP hD hS hA (fun _ => rfl) (by decide) (by decide) (by decide) (Nat.le_of_ble_eq_true rfl) (Nat.le_of_ble_eq_true rfl) dX11_init_7 0 rfl (fun _ h => h) (fun q0 H hP hD hS => ?_)
  have hP : va_P (gD G) vwCl [(b, .inr (9, [.int 0, .null, .null, .null, .int 0, .null, .int 0, .null, .int 0, .int 0, .int 0, .int 0, .int 0, .int 0])), (q0, .inl (G.2.1.1, 65536, .inl (fun _ => 0)))] H := hP
  have hD : va_D A [(b, .inr (9, [.int 0, .null, .null, .null, .int 0, .null, .int 0, .null, .int 0, .int 0, .int 0, .int 0, .int 0, .int 0])), (q0, .inl (G.2.1.1, 65536, .inl (fun _ => 0)))] := hD
  refine va_putF (D := gD G) (ci := 9) (v := .ref q0) (ty := (.array .int)) hx hb hts ku_11 tyX11 tyX11_ok nmX11 hown hK hP hD hS 0 rfl rfl 1 (by decide) (hts _ kw_106) (fun _ h9 => h9) rfl hin rfl (tyX11_ok 1 (by decide)) rfl rfl (Nat.le_of_ble_eq_true rfl) dX11_init_9 (fun H locs hP hD hS => ?_)
  have hP : va_P (gD G) vwCl [(b, .inr (9, [.int 0, .ref q0, .null, .null, .int 0, .null, .int 0, .null, .int 0, .int 0, .int 0, .int 0, .int 0, .int 0])), (q0, .inl (G.2.1.1, 65536, .inl (fun _ => 0)))] H := hP
  have hD : va_D A [(b, .inr (9, [.int 0, .ref q0, .null, .null, .int 0, .null, .int 0, .null, .int 0, .int 0, .int 0, .int 0, .int 0, .int 0])), (q0, .inl (G.2.1.1, 65536, .inl (fun _ => 0)))] := hD
  refine lv_aload_n hx hb dX11_init_12 rfl (lv_at hl 0 rfl) ?_
  refine lv_bipush (v := 31) hx hb dX11_init_13 (by decide) ?_
  refine kn_newa (atype := .int) (ty := .int) (N' := 31) (a0 := (31, .inl (fun _ => 0))) hx hb (hts _ kw_30) rfl hK hP hD hS hA (fun _ => rfl) (by decide) (by decide) (by decide) (Nat.le_of_ble_eq_true rfl) (Nat.le_of_ble_eq_true rfl) dX11_init_15 0 rfl (fun _ h => h) (fun q1 H hP hD hS => ?_)
  have hP : va_P (gD G) vwCl [(b, .inr (9, [.int 0, .ref q0, .null, .null, .int 0, .null, .int 0, .null, .int 0, .int 0, .int 0, .int 0, .int 0, .int 0])), (q0, .inl (G.2.1.1, 65536, .inl (fun _ => 0))), (q1, .inl (G.2.1.1, 31, .inl (fun _ => 0)))] H := hP
  have hD : va_D A [(b, .inr (9, [.int 0, .ref q0, .null, .null, .int 0, .null, .int 0, .null, .int 0, .int 0, .int 0, .int 0, .int 0, .int 0])), (q0, .inl (G.2.1.1, 65536, .inl (fun _ => 0))), (q1, .inl (G.2.1.1, 31, .inl (fun _ => 0)))] := hD
  refine va_putF (D := gD G) (ci := 9) (v := .ref q1) (ty := (.array .int)) hx hb hts ku_11 tyX11 tyX11_ok nmX11 hown hK hP hD hS 0 rfl rfl 2 (by decide) (hts _ kw_107) (fun _ h9 => h9) rfl hin rfl (tyX11_ok 2 (by decide)) rfl rfl (Nat.le_of_ble_eq_true rfl) dX11_init_17 (fun H locs hP hD hS => ?_)
  have hP : va_P (gD G) vwCl [(b, .inr (9, [.int 0, .ref q0, .ref q1, .null, .int 0, .null, .int 0, .null, .int 0, .int 0, .int 0, .int 0, .int 0, .int 0])), (q0, .inl (G.2.1.1, 65536, .inl (fun _ => 0))), (q1, .inl (G.2.1.1, 31, .inl (fun _ => 0)))] H := hP
  have hD : va_D A [(b, .inr (9, [.int 0, .ref q0, .ref q1, .null, .int 0, .null, .int 0, .null, .int 0, .int 0, .int 0, .int 0, .int 0, .int 0])), (q0, .inl (G.2.1.1, 65536, .inl (fun _ => 0))), (q1, .inl (G.2.1.1, 31, .inl (fun _ => 0)))] := hD
  refine lv_aload_n hx hb dX11_init_20 rfl (lv_at hl 0 rfl) ?_
  refine lv_iconst (v := 5) hx hb dX11_init_21 (by decide) ?_
  refine kn_newa (atype := .int) (ty := .int) (N' := 5) (a0 := (5, .inl (fun _ => 0))) hx hb (hts _ kw_30) rfl hK hP hD hS hA (fun _ => rfl) (by decide) (by decide) (by decide) (Nat.le_of_ble_eq_true rfl) (Nat.le_of_ble_eq_true rfl) dX11_init_22 0 rfl (fun _ h => h) (fun q2 H hP hD hS => ?_)
  have hP : va_P (gD G) vwCl [(b, .inr (9, [.int 0, .ref q0, .ref q1, .null, .int 0, .null, .int 0, .null, .int 0, .int 0, .int 0, .int 0, .int 0, .int 0])), (q0, .inl (G.2.1.1, 65536, .inl (fun _ => 0))), (q1, .inl (G.2.1.1, 31, .inl (fun _ => 0))), (q2, .inl (G.2.1.1, 5, .inl (fun _ => 0)))] H := hP
  have hD : va_D A [(b, .inr (9, [.int 0, .ref q0, .ref q1, .null, .int 0, .null, .int 0, .null, .int 0, .int 0, .int 0, .int 0, .int 0, .int 0])), (q0, .inl (G.2.1.1, 65536, .inl (fun _ => 0))), (q1, .inl (G.2.1.1, 31, .inl (fun _ => 0))), (q2, .inl (G.2.1.1, 5, .inl (fun _ => 0)))] := hD
  refine va_putF (D := gD G) (ci := 9) (v := .ref q2) (ty := (.array .int)) hx hb hts ku_11 tyX11 tyX11_ok nmX11 hown hK hP hD hS 0 rfl rfl 3 (by decide) (hts _ kw_108) (fun _ h9 => h9) rfl hin rfl (tyX11_ok 3 (by decide)) rfl rfl (Nat.le_of_ble_eq_true rfl) dX11_init_24 (fun H locs hP hD hS => ?_)
  have hP : va_P (gD G) vwCl [(b, .inr (9, [.int 0, .ref q0, .ref q1, .ref q2, .int 0, .null, .int 0, .null, .int 0, .int 0, .int 0, .int 0, .int 0, .int 0])), (q0, .inl (G.2.1.1, 65536, .inl (fun _ => 0))), (q1, .inl (G.2.1.1, 31, .inl (fun _ => 0))), (q2, .inl (G.2.1.1, 5, .inl (fun _ => 0)))] H := hP
  have hD : va_D A [(b, .inr (9, [.int 0, .ref q0, .ref q1, .ref q2, .int 0, .null, .int 0, .null, .int 0, .int 0, .int 0, .int 0, .int 0, .int 0])), (q0, .inl (G.2.1.1, 65536, .inl (fun _ => 0))), (q1, .inl (G.2.1.1, 31, .inl (fun _ => 0))), (q2, .inl (G.2.1.1, 5, .inl (fun _ => 0)))] := hD
  refine lv_aload_n hx hb dX11_init_27 rfl (lv_at hl 0 rfl) ?_
  refine lv_sipush (v := 211) hx hb dX11_init_28 (by decide) ?_
  refine va_put (D := gD G) (ci := 9) (v := .int 211) (ty := .int) hx hb hts ku_11 tyX11 tyX11_ok nmX11 hown hK hP hD hS 0 rfl rfl 4 (by decide) (hts _ kw_109) (fun _ h9 => h9) rfl (tyX11_ok 4 (by decide)) rfl rfl (Nat.le_of_ble_eq_true rfl) dX11_init_31 (fun H locs hP hD hS => ?_)
  have hP : va_P (gD G) vwCl [(b, .inr (9, [.int 0, .ref q0, .ref q1, .ref q2, .int 211, .null, .int 0, .null, .int 0, .int 0, .int 0, .int 0, .int 0, .int 0])), (q0, .inl (G.2.1.1, 65536, .inl (fun _ => 0))), (q1, .inl (G.2.1.1, 31, .inl (fun _ => 0))), (q2, .inl (G.2.1.1, 5, .inl (fun _ => 0)))] H := hP
  have hD : va_D A [(b, .inr (9, [.int 0, .ref q0, .ref q1, .ref q2, .int 211, .null, .int 0, .null, .int 0, .int 0, .int 0, .int 0, .int 0, .int 0])), (q0, .inl (G.2.1.1, 65536, .inl (fun _ => 0))), (q1, .inl (G.2.1.1, 31, .inl (fun _ => 0))), (q2, .inl (G.2.1.1, 5, .inl (fun _ => 0)))] := hD
  refine lv_aload_n hx hb dX11_init_34 rfl (lv_at hl 0 rfl) ?_
  refine lv_iconst (v := 2) hx hb dX11_init_35 (by decide) ?_
  refine kn_newa (atype := .boolean) (ty := .boolean) (N' := 2) (a0 := (2, .inl (fun _ => 0))) hx hb (hts _ kw_110) rfl hK hP hD hS hA (fun _ => rfl) (by decide) (by decide) (by decide) (Nat.le_of_ble_eq_true rfl) (Nat.le_of_ble_eq_true rfl) dX11_init_36 1 rfl (fun _ h => h) (fun q3 H hP hD hS => ?_)
  have hP : va_P (gD G) vwCl [(b, .inr (9, [.int 0, .ref q0, .ref q1, .ref q2, .int 211, .null, .int 0, .null, .int 0, .int 0, .int 0, .int 0, .int 0, .int 0])), (q0, .inl (G.2.1.1, 65536, .inl (fun _ => 0))), (q1, .inl (G.2.1.1, 31, .inl (fun _ => 0))), (q2, .inl (G.2.1.1, 5, .inl (fun _ => 0))), (q3, .inl (G.2.1.2.1, 2, .inl (fun _ => 0)))] H := hP
  have hD : va_D A [(b, .inr (9, [.int 0, .ref q0, .ref q1, .ref q2, .int 211, .null, .int 0, .null, .int 0, .int 0, .int 0, .int 0, .int 0, .int 0])), (q0, .inl (G.2.1.1, 65536, .inl (fun _ => 0))), (q1, .inl (G.2.1.1, 31, .inl (fun _ => 0))), (q2, .inl (G.2.1.1, 5, .inl (fun _ => 0))), (q3, .inl (G.2.1.2.1, 2, .inl (fun _ => 0)))] := hD
  refine va_putF (D := gD G) (ci := 9) (v := .ref q3) (ty := (.array .boolean)) hx hb hts ku_11 tyX11 tyX11_ok nmX11 hown hK hP hD hS 0 rfl rfl 5 (by decide) (hts _ kw_111) (fun _ h9 => h9) rfl hin rfl (tyX11_ok 5 (by decide)) rfl rfl (Nat.le_of_ble_eq_true rfl) dX11_init_38 (fun H locs hP hD hS => ?_)
  have hP : va_P (gD G) vwCl [(b, .inr (9, [.int 0, .ref q0, .ref q1, .ref q2, .int 211, .ref q3, .int 0, .null, .int 0, .int 0, .int 0, .int 0, .int 0, .int 0])), (q0, .inl (G.2.1.1, 65536, .inl (fun _ => 0))), (q1, .inl (G.2.1.1, 31, .inl (fun _ => 0))), (q2, .inl (G.2.1.1, 5, .inl (fun _ => 0))), (q3, .inl (G.2.1.2.1, 2, .inl (fun _ => 0)))] H := hP
  have hD : va_D A [(b, .inr (9, [.int 0, .ref q0, .ref q1, .ref q2, .int 211, .ref q3, .int 0, .null, .int 0, .int 0, .int 0, .int 0, .int 0, .int 0])), (q0, .inl (G.2.1.1, 65536, .inl (fun _ => 0))), (q1, .inl (G.2.1.1, 31, .inl (fun _ => 0))), (q2, .inl (G.2.1.1, 5, .inl (fun _ => 0))), (q3, .inl (G.2.1.2.1, 2, .inl (fun _ => 0)))] := hD
  refine lv_aload_n hx hb dX11_init_41 rfl (lv_at hl 0 rfl) ?_
  refine lv_bipush (v := 6) hx hb dX11_init_42 (by decide) ?_
  refine kn_newa (atype := .int) (ty := .int) (N' := 6) (a0 := (6, .inl (fun _ => 0))) hx hb (hts _ kw_30) rfl hK hP hD hS hA (fun _ => rfl) (by decide) (by decide) (by decide) (Nat.le_of_ble_eq_true rfl) (Nat.le_of_ble_eq_true rfl) dX11_init_44 0 rfl (fun _ h => h) (fun q4 H hP hD hS => ?_)
  have hP : va_P (gD G) vwCl [(b, .inr (9, [.int 0, .ref q0, .ref q1, .ref q2, .int 211, .ref q3, .int 0, .null, .int 0, .int 0, .int 0, .int 0, .int 0, .int 0])), (q0, .inl (G.2.1.1, 65536, .inl (fun _ => 0))), (q1, .inl (G.2.1.1, 31, .inl (fun _ => 0))), (q2, .inl (G.2.1.1, 5, .inl (fun _ => 0))), (q3, .inl (G.2.1.2.1, 2, .inl (fun _ => 0))), (q4, .inl (G.2.1.1, 6, .inl (fun _ => 0)))] H := hP
  have hD : va_D A [(b, .inr (9, [.int 0, .ref q0, .ref q1, .ref q2, .int 211, .ref q3, .int 0, .null, .int 0, .int 0, .int 0, .int 0, .int 0, .int 0])), (q0, .inl (G.2.1.1, 65536, .inl (fun _ => 0))), (q1, .inl (G.2.1.1, 31, .inl (fun _ => 0))), (q2, .inl (G.2.1.1, 5, .inl (fun _ => 0))), (q3, .inl (G.2.1.2.1, 2, .inl (fun _ => 0))), (q4, .inl (G.2.1.1, 6, .inl (fun _ => 0)))] := hD
  refine va_putF (D := gD G) (ci := 9) (v := .ref q4) (ty := (.array .int)) hx hb hts ku_11 tyX11 tyX11_ok nmX11 hown hK hP hD hS 0 rfl rfl 7 (by decide) (hts _ kw_112) (fun _ h9 => h9) rfl hin rfl (tyX11_ok 7 (by decide)) rfl rfl (Nat.le_of_ble_eq_true rfl) dX11_init_46 (fun H locs hP hD hS => ?_)
  have hP : va_P (gD G) vwCl [(b, .inr (9, [.int 0, .ref q0, .ref q1, .ref q2, .int 211, .ref q3, .int 0, .ref q4, .int 0, .int 0, .int 0, .int 0, .int 0, .int 0])), (q0, .inl (G.2.1.1, 65536, .inl (fun _ => 0))), (q1, .inl (G.2.1.1, 31, .inl (fun _ => 0))), (q2, .inl (G.2.1.1, 5, .inl (fun _ => 0))), (q3, .inl (G.2.1.2.1, 2, .inl (fun _ => 0))), (q4, .inl (G.2.1.1, 6, .inl (fun _ => 0)))] H := hP
  have hD : va_D A [(b, .inr (9, [.int 0, .ref q0, .ref q1, .ref q2, .int 211, .ref q3, .int 0, .ref q4, .int 0, .int 0, .int 0, .int 0, .int 0, .int 0])), (q0, .inl (G.2.1.1, 65536, .inl (fun _ => 0))), (q1, .inl (G.2.1.1, 31, .inl (fun _ => 0))), (q2, .inl (G.2.1.1, 5, .inl (fun _ => 0))), (q3, .inl (G.2.1.2.1, 2, .inl (fun _ => 0))), (q4, .inl (G.2.1.1, 6, .inl (fun _ => 0)))] := hD
  exact hret _ _ _ _ _ _ _ (⟨q0, q1, q2, q3, q4, rfl⟩) hP hD hS (Nat.le_of_ble_eq_true rfl) (Nat.le_of_ble_eq_true rfl) dX11_init_49
