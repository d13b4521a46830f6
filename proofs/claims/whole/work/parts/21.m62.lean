def y_Model_isStatus_46 (v0 : Int32) (k0_46 : Bool) : Bool := (if k0_46 = true then (if ((v0 >>> ((25 : Int32) &&& 31)) &&& 1) = 1 then true else (if ((v0 >>> ((4 : Int32) &&& 31)) &&& 255) = 0 then true else false)) else false)
def y_Model_isStatus_45 (v0 : Int32) : Bool := y_Model_isStatus_46 v0 false
def y_Model_isStatus (v0 : Int32) : Bool := (if ((v0 >>> ((26 : Int32) &&& 31)) &&& 3) = 0 then (if ((v0 >>> ((23 : Int32) &&& 31)) &&& 3) = 2 then (if ((v0 >>> ((20 : Int32) &&& 31)) &&& 3) = 2 then (if ((v0 >>> ((12 : Int32) &&& 31)) &&& 15) = 15 then y_Model_isStatus_46 v0 true else y_Model_isStatus_45 v0) else y_Model_isStatus_45 v0) else y_Model_isStatus_45 v0) else y_Model_isStatus_45 v0)
set_option maxRecDepth 20000 in
set_option maxHeartbeats 4000000 in
theorem cy_Model_isStatus (l : Launch) (v0 : Int32) : KPi l yX11_isStatus (Cond.code yX11_isStatus cX11_isStatus 2 (some .boolean) :: lw_all) (kr 0) [.int v0] (b01 (y_Model_isStatus v0)) := by
  refine kp_in_z (q := y_Model_isStatus v0) (by decide) rfl (Nat.le_of_ble_eq_true rfl) ?_
  intro p e s m args below meth c Q ls hx hb hml hown hts hl hret
  have hts := fun w h => hts w (List.mem_cons_of_mem _ h)
  have hl : lv_has ls 2 [(0, .int v0)] := hl
  have hf : y_Model_isStatus v0 = y_Model_isStatus v0 := rfl
  have J46 : ∀ (k0_46 : Bool) (ls : Array Slot), lv_has ls 2 [(0, .int v0)] → y_Model_isStatus v0 = y_Model_isStatus_46 v0 k0_46 → W p l e (kr 0) s m args below meth c s.heap [] 0 0 Q (F0 m 46 ls [.int (b01 k0_46)]) := by
    intro k0_46 ls hl hf
    refine lv_istore_n (lv' := [(1, .int (b01 k0_46)), (0, .int v0)]) hx hb dX11_isStatus_46 rfl hl (by decide) rfl (fun ls hl => ?_)
    refine lv_iload_n hx hb dX11_isStatus_47 rfl (lv_at hl 0 rfl) ?_
    refine kz_eq (tgt := 75) hx hb dX11_isStatus_48 (by decide) (fun h_8 => ?_) (fun h_8 => ?_)
    · have hf := hf.trans (if_neg h_8)
      refine lv_iconst (v := 0) hx hb dX11_isStatus_75 (by decide) ?_
      exact hret false _ _ hf dX11_isStatus_76
    · have hf := hf.trans (if_pos h_8)
      refine lv_iload_n hx hb dX11_isStatus_51 rfl (lv_at hl 1 rfl) ?_
      refine lv_bipush (v := 25) hx hb dX11_isStatus_52 (by decide) ?_
      refine lv_ishr hx hb dX11_isStatus_54 ?_
      refine lv_iconst (v := 1) hx hb dX11_isStatus_55 (by decide) ?_
      refine lv_iand hx hb dX11_isStatus_56 ?_
      refine lv_iconst (v := 1) hx hb dX11_isStatus_57 (by decide) ?_
      refine lv_icmp_eq (tgt := 71) hx hb dX11_isStatus_58 (by decide) (fun h_9 => ?_) (fun h_9 => ?_)
      · have hf := hf.trans (if_pos h_9)
        refine lv_iconst (v := 1) hx hb dX11_isStatus_71 (by decide) ?_
        refine lv_goto (tgt := 76) hx hb dX11_isStatus_72 (by decide) ?_
        exact hret true _ _ hf dX11_isStatus_76
      · have hf := hf.trans (if_neg h_9)
        refine lv_iload_n hx hb dX11_isStatus_61 rfl (lv_at hl 1 rfl) ?_
        refine lv_iconst (v := 4) hx hb dX11_isStatus_62 (by decide) ?_
        refine lv_ishr hx hb dX11_isStatus_63 ?_
        refine lv_sipush (v := 255) hx hb dX11_isStatus_64 (by decide) ?_
        refine lv_iand hx hb dX11_isStatus_67 ?_
        refine lv_if_ne (tgt := 75) hx hb dX11_isStatus_68 (by decide) (fun h_10 => ?_) (fun h_10 => ?_)
        · have hf := hf.trans (if_neg h_10)
          refine lv_iconst (v := 0) hx hb dX11_isStatus_75 (by decide) ?_
          exact hret false _ _ hf dX11_isStatus_76
        · have hf := hf.trans (if_pos h_10)
          refine lv_iconst (v := 1) hx hb dX11_isStatus_71 (by decide) ?_
          refine lv_goto (tgt := 76) hx hb dX11_isStatus_72 (by decide) ?_
          exact hret true _ _ hf dX11_isStatus_76
  have J45 : ∀ (ls : Array Slot), lv_has ls 2 [(0, .int v0)] → y_Model_isStatus v0 = y_Model_isStatus_45 v0 → W p l e (kr 0) s m args below meth c s.heap [] 0 0 Q (F0 m 45 ls []) := by
    intro ls hl hf
    refine lv_iconst (v := 0) hx hb dX11_isStatus_45 (by decide) ?_
    exact J46 false _ (lv_sub hl [0] rfl) hf
  refine lv_iload_n hx hb dX11_isStatus_0 rfl (lv_at hl 0 rfl) ?_
  refine lv_bipush (v := 26) hx hb dX11_isStatus_1 (by decide) ?_
  refine lv_ishr hx hb dX11_isStatus_3 ?_
  refine lv_iconst (v := 3) hx hb dX11_isStatus_4 (by decide) ?_
  refine lv_iand hx hb dX11_isStatus_5 ?_
  refine lv_if_ne (tgt := 45) hx hb dX11_isStatus_6 (by decide) (fun h_11 => ?_) (fun h_11 => ?_)
  · have hf := hf.trans (if_neg h_11)
    exact J45 _ (lv_sub hl [0] rfl) hf
  · have hf := hf.trans (if_pos h_11)
    refine lv_iload_n hx hb dX11_isStatus_9 rfl (lv_at hl 0 rfl) ?_
    refine lv_bipush (v := 23) hx hb dX11_isStatus_10 (by decide) ?_
    refine lv_ishr hx hb dX11_isStatus_12 ?_
    refine lv_iconst (v := 3) hx hb dX11_isStatus_13 (by decide) ?_
    refine lv_iand hx hb dX11_isStatus_14 ?_
    refine lv_iconst (v := 2) hx hb dX11_isStatus_15 (by decide) ?_
    refine lv_icmp_ne (tgt := 45) hx hb dX11_isStatus_16 (by decide) (fun h_12 => ?_) (fun h_12 => ?_)
    · have hf := hf.trans (if_neg h_12)
      exact J45 _ (lv_sub hl [0] rfl) hf
    · have hf := hf.trans (if_pos h_12)
      refine lv_iload_n hx hb dX11_isStatus_19 rfl (lv_at hl 0 rfl) ?_
      refine lv_bipush (v := 20) hx hb dX11_isStatus_20 (by decide) ?_
      refine lv_ishr hx hb dX11_isStatus_22 ?_
      refine lv_iconst (v := 3) hx hb dX11_isStatus_23 (by decide) ?_
      refine lv_iand hx hb dX11_isStatus_24 ?_
      refine lv_iconst (v := 2) hx hb dX11_isStatus_25 (by decide) ?_
      refine lv_icmp_ne (tgt := 45) hx hb dX11_isStatus_26 (by decide) (fun h_13 => ?_) (fun h_13 => ?_)
      · have hf := hf.trans (if_neg h_13)
        exact J45 _ (lv_sub hl [0] rfl) hf
      · have hf := hf.trans (if_pos h_13)
        refine lv_iload_n hx hb dX11_isStatus_29 rfl (lv_at hl 0 rfl) ?_
        refine lv_bipush (v := 12) hx hb dX11_isStatus_30 (by decide) ?_
        refine lv_ishr hx hb dX11_isStatus_32 ?_
        refine lv_bipush (v := 15) hx hb dX11_isStatus_33 (by decide) ?_
        refine lv_iand hx hb dX11_isStatus_35 ?_
        refine lv_bipush (v := 15) hx hb dX11_isStatus_36 (by decide) ?_
        refine lv_icmp_ne (tgt := 45) hx hb dX11_isStatus_38 (by decide) (fun h_14 => ?_) (fun h_14 => ?_)
        · have hf := hf.trans (if_neg h_14)
          exact J45 _ (lv_sub hl [0] rfl) hf
        · have hf := hf.trans (if_pos h_14)
          refine lv_iconst (v := 1) hx hb dX11_isStatus_41 (by decide) ?_
          refine lv_goto (tgt := 46) hx hb dX11_isStatus_42 (by decide) ?_
          exact J46 true _ (lv_sub hl [0] rfl) hf
