def nthP (list k : Int32) : Prop := ∃ q : Nat, k = nI q ∧ q < up list 16
def nthI (list : Int32) (n : Nat) (i left : Int32) : Prop := ∃ j : Nat, j ≤ 16 ∧ i + 1 = nI j ∧ 16 < j + n ∧ left.toInt < up list (16 - j) ∧ (-1) ≤ left.toInt ∧ (left.toInt < 0 → 1 ≤ j)
theorem nthI_start {list k : Int32} (h : nthP list k) : nthI list 17 (-1) k := by
  obtain ⟨q, rfl, hq⟩ := h
  have := up_le list 16
  refine ⟨0, by omega, by decide, by omega, ?_, ?_, ?_⟩ <;> rw [nI_toInt (by omega)]
  · show (q : Int) < (up list 16 : Nat); omega
  · omega
  · omega
theorem nthI_0 {list i left : Int32} : ¬ nthI list 0 i left := fun ⟨j, h1, _, h2, _⟩ => by omega
theorem i_neg {x : Int32} : x < 0 ↔ x.toInt < 0 := by
  rw [Int32.lt_iff_toInt_lt]
  have e0 : (0 : Int32).toInt = 0 := by decide
  rw [e0]
theorem nthI_s {list i left : Int32} {n : Nat} (h : nthI list (n + 1) i left) (hc : ¬ left < 0) : nthI list n (i + 1) (left - ((list >>> ((i + 1) &&& 31)) &&& 1)) := by
  obtain ⟨j, h1, h2, h3, h4, h5, h6⟩ := h
  have hl : ¬ left.toInt < 0 := fun q => hc (i_neg.mpr q)
  have hj : j < 16 := by
    rcases Nat.lt_or_ge j 16 with q | q
    · exact q
    · have : 16 - j = 0 := by omega
      rw [this] at h4
      have : up list 0 = 0 := rfl
      omega
  rw [h2, bq_v]
  have hb := bq_le list j
  have hu := up_s list hj
  have hul := up_le list (16 - j)
  have e : (left - nI (bq list j)).toInt = left.toInt - bq list j := by
    rw [Int32.toInt_sub, nI_toInt (by omega)]
    apply Int.bmod_eq_of_le <;> omega
  refine ⟨j + 1, by omega, nI_1 j, by omega, ?_, ?_, ?_⟩ <;> rw [e] <;> omega
theorem nthI_in {list i left : Int32} {n : Nat} (h : nthI list n i left) (hc : left < 0) : vp_in i 16 := by
  obtain ⟨j, h1, h2, h3, h4, h5, h6⟩ := h
  have hj := h6 (i_neg.mp hc)
  have e : i = nI (j - 1) := by
    have : i = (i + 1) - 1 := by rw [Int32.add_sub_cancel]
    rw [this, h2, show j = (j - 1) + 1 by omega, nI_pred]
    congr 1
  rw [e]
  exact nI_vp (by omega) (by decide)
def y_Model_nth_6 (σ : MS) (v0 : Int32) (v1 : Int32) (v2 : Int32) : Nat → Int32 → Int32 → Int32
  | 0, _, _ => 0
  | n + 1, n4_6, n5_6 => (if n5_6 < 0 then (if n4_6 = 15 then (m_here σ) + 12 else m_r σ (y_Model_placeOf v2 n4_6).toNatClampNeg) else y_Model_nth_6 σ v0 v1 v2 n (n4_6 + 1) (n5_6 - ((v0 >>> ((n4_6 + 1) &&& 31)) &&& 1)))
def y_Model_nth (σ : MS) (v0 : Int32) (v1 : Int32) (v2 : Int32) : Int32 := y_Model_nth_6 σ v0 v1 v2 17 (-1) v1
set_option maxRecDepth 20000 in
set_option maxHeartbeats 4000000 in
theorem cy_Model_nth (l : Launch) (G : KG) (σ : MS) (v0 : Int32) (v1 : Int32) (v2 : Int32) (hq : nthP v0 v1) : KB l yX11_nth (Cond.code yX11_nth cX11_nth 6 (some .int) :: lw_all) (kr 2) (gD G) vwCl (gT G) (mZ G) (mW G) [.ref (gA G 20), .int v0, .int v1, .int v2] σ (y_Model_nth σ v0 v1 v2, σ) := by
  refine kc_in_r (q := y_Model_nth σ v0 v1 v2) (by decide) rfl (Nat.le_of_ble_eq_true rfl) ?_
  intro p e s m args below meth c A Q ls hx hb hml hown hts hK hP hD hA hS hZ hl hret
  have hts := fun w h => hts w (List.mem_cons_of_mem _ h)
  have hl : lv_has ls 6 [(0, .ref (gA G 20)), (1, .int v0), (2, .int v1), (3, .int v2)] := hl
  have hf : y_Model_nth σ v0 v1 v2 = y_Model_nth σ v0 v1 v2 := rfl
  have J6 : ∀ (n : Nat), ∀ (n4_6 : Int32) (n5_6 : Int32) (H : Heap) (locs : List Loc) (ls : Array Slot), va_P (gD G) vwCl (mW G (σ)) H → va_D A (mW G (σ)) → va_S A s.heap H locs → lv_has ls 6 [(0, .ref (gA G 20)), (1, .int v0), (3, .int v2), (4, .int n4_6), (5, .int n5_6)] → y_Model_nth σ v0 v1 v2 = y_Model_nth_6 σ v0 v1 v2 n n4_6 n5_6 → nthI v0 n n4_6 n5_6 → W p l e (kr 2) s m args below meth c H locs 0 0 Q (F0 m 6 ls []) := by
    intro n
    induction n with
    | zero =>
      intro n4_6 n5_6 H locs ls hP hD hS hl hf hinv
      exact absurd hinv nthI_0
    | succ n ih =>
      intro n4_6 n5_6 H locs ls hP hD hS hl hf hinv
      refine lv_iload hx hb dX11_nth_6 (lv_at hl 4 rfl) ?_
      refine lv_if_lt (tgt := 28) hx hb dX11_nth_8 (by decide) (fun h_3 => ?_) (fun h_3 => ?_)
      · have hf := hf.trans (if_pos h_3)
        refine lv_iload hx hb dX11_nth_28 (lv_at hl 3 rfl) ?_
        refine lv_bipush (v := 15) hx hb dX11_nth_30 (by decide) ?_
        refine lv_icmp_ne (tgt := 45) hx hb dX11_nth_32 (by decide) (fun h_4 => ?_) (fun h_4 => ?_)
        · have hf := hf.trans (if_neg h_4)
          refine lv_aload_n hx hb dX11_nth_45 rfl (lv_at hl 0 rfl) ?_
          refine va_get (D := gD G) (ci := 9) hx hb hts ku_11 hown hK hP 0 rfl rfl 2 (by decide) (hts _ kw_107) (fun _ h9 => h9) rfl dX11_nth_46 ?_
          refine lv_iload_n hx hb dX11_nth_49 rfl (lv_at hl 2 rfl) ?_
          refine lv_iload hx hb dX11_nth_50 (lv_at hl 3 rfl) ?_
          refine kp_Si (rest := [.ref (gA G 22)]) (cy_Model_placeOf l v2 n4_6) ⟨hx, hb, hml, hown, hts⟩ (va_cwS 2 hts (gi_S kw_206 kw_207 kw_5 kw_208) rfl rfl rfl mdX11_placeOf ⟨by decide, by decide⟩) rfl hl.1 rfl (Nat.le_of_ble_eq_true rfl) dX11_nth_52 ⟨Nat.zero_le _, Nat.zero_le _⟩ ?_
          refine va_iald hx hb hK hP 2 0 rfl rfl (place_in _ (nthI_in hinv (by assumption))) dX11_nth_55 ?_
          exact hret (m_r σ (y_Model_placeOf v2 n4_6).toNatClampNeg) _ _ _ _ hf hP hD hS dX11_nth_56
        · have hf := hf.trans (if_pos h_4)
          refine lv_aload_n hx hb dX11_nth_35 rfl (lv_at hl 0 rfl) ?_
          refine va_get (D := gD G) (ci := 9) hx hb hts ku_11 hown hK hP 0 rfl rfl 8 (by decide) (hts _ kw_726) (fun _ h9 => h9) rfl dX11_nth_36 ?_
          refine lv_bipush (v := 12) hx hb dX11_nth_39 (by decide) ?_
          refine lv_iadd hx hb dX11_nth_41 ?_
          refine lv_goto (tgt := 56) hx hb dX11_nth_42 (by decide) ?_
          exact hret ((m_here σ) + 12) _ _ _ _ hf hP hD hS dX11_nth_56
      · have hf := hf.trans (if_neg h_3)
        refine lv_iinc (v := n4_6 + 1) (lv' := [(4, .int (n4_6 + 1)), (0, .ref (gA G 20)), (1, .int v0), (3, .int v2), (5, .int n5_6)]) hx hb dX11_nth_11 hl (k := 3) rfl rfl (by decide) rfl (fun ls hl => ?_)
        refine lv_iload hx hb dX11_nth_14 (lv_at hl 4 rfl) ?_
        refine lv_iload_n hx hb dX11_nth_16 rfl (lv_at hl 2 rfl) ?_
        refine lv_iload hx hb dX11_nth_17 (lv_at hl 0 rfl) ?_
        refine lv_ishr hx hb dX11_nth_19 ?_
        refine lv_iconst (v := 1) hx hb dX11_nth_20 (by decide) ?_
        refine lv_iand hx hb dX11_nth_21 ?_
        refine lv_isub hx hb dX11_nth_22 ?_
        refine lv_istore (lv' := [(5, .int (n5_6 - ((v0 >>> ((n4_6 + 1) &&& 31)) &&& 1))), (4, .int (n4_6 + 1)), (0, .ref (gA G 20)), (1, .int v0), (3, .int v2)]) hx hb dX11_nth_23 hl (by decide) rfl (fun ls hl => ?_)
        refine lv_goto (tgt := 6) hx hb dX11_nth_25 (by decide) ?_
        exact ih (n4_6 + 1) (n5_6 - ((v0 >>> ((n4_6 + 1) &&& 31)) &&& 1)) _ _ _ hP hD hS (lv_sub hl [2, 3, 4, 1, 0] rfl) hf (nthI_s hinv (by assumption))
  refine lv_iconst (v := (-1)) hx hb dX11_nth_0 (by decide) ?_
  refine lv_istore (lv' := [(4, .int (-1)), (0, .ref (gA G 20)), (1, .int v0), (2, .int v1), (3, .int v2)]) hx hb dX11_nth_1 hl (by decide) rfl (fun ls hl => ?_)
  refine lv_iload_n hx hb dX11_nth_3 rfl (lv_at hl 3 rfl) ?_
  refine lv_istore (lv' := [(5, .int v1), (4, .int (-1)), (0, .ref (gA G 20)), (1, .int v0), (2, .int v1), (3, .int v2)]) hx hb dX11_nth_4 hl (by decide) rfl (fun ls hl => ?_)
  exact J6 17 (-1) v1 _ _ _ hP hD hS (lv_sub hl [2, 3, 5, 1, 0] rfl) hf (nthI_start hq)
