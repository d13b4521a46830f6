def y_Model_countOf_4 (v0 : Int32) : Nat → Int32 → Int32 → Int32
  | 0, _, _ => 0
  | n + 1, n1_4, n2_4 => (if 16 ≤ n2_4 then n1_4 else y_Model_countOf_4 v0 n (n1_4 + ((v0 >>> (n2_4 &&& 31)) &&& 1)) (n2_4 + 1))
def y_Model_countOf (v0 : Int32) : Int32 := y_Model_countOf_4 v0 17 0 0
set_option maxRecDepth 20000 in
set_option maxHeartbeats 4000000 in
theorem cy_Model_countOf (l : Launch) (v0 : Int32) : KPi l yX11_countOf (Cond.code yX11_countOf cX11_countOf 3 (some .int) :: lw_all) (kr 0) [.int v0] (y_Model_countOf v0) := by
  refine kp_in_i (q := y_Model_countOf v0) (by decide) rfl (Nat.le_of_ble_eq_true rfl) ?_
  intro p e s m args below meth c Q ls hx hb hml hown hts hl hret
  have hts := fun w h => hts w (List.mem_cons_of_mem _ h)
  have hl : lv_has ls 3 [(0, .int v0)] := hl
  have hf : y_Model_countOf v0 = y_Model_countOf v0 := rfl
  have J4 : ∀ (n : Nat), ∀ (n1_4 : Int32) (n2_4 : Int32) (ls : Array Slot), lv_has ls 3 [(0, .int v0), (1, .int n1_4), (2, .int n2_4)] → y_Model_countOf v0 = y_Model_countOf_4 v0 n n1_4 n2_4 → lpI 16 n n2_4 → W p l e (kr 0) s m args below meth c s.heap [] 0 0 Q (F0 m 4 ls []) := by
    intro n
    induction n with
    | zero =>
      intro n1_4 n2_4 ls hl hf hinv
      exact absurd hinv lpI_0
    | succ n ih =>
      intro n1_4 n2_4 ls hl hf hinv
      refine lv_iload_n hx hb dX11_countOf_4 rfl (lv_at hl 2 rfl) ?_
      refine lv_bipush (v := 16) hx hb dX11_countOf_5 (by decide) ?_
      refine lv_icmp_ge (tgt := 24) hx hb dX11_countOf_7 (by decide) (fun h_2 => ?_) (fun h_2 => ?_)
      · have hf := hf.trans (if_pos h_2)
        refine lv_iload_n hx hb dX11_countOf_24 rfl (lv_at hl 1 rfl) ?_
        exact hret n1_4 _ _ hf dX11_countOf_25
      · have hf := hf.trans (if_neg h_2)
        refine lv_iload_n hx hb dX11_countOf_10 rfl (lv_at hl 1 rfl) ?_
        refine lv_iload_n hx hb dX11_countOf_11 rfl (lv_at hl 0 rfl) ?_
        refine lv_iload_n hx hb dX11_countOf_12 rfl (lv_at hl 2 rfl) ?_
        refine lv_ishr hx hb dX11_countOf_13 ?_
        refine lv_iconst (v := 1) hx hb dX11_countOf_14 (by decide) ?_
        refine lv_iand hx hb dX11_countOf_15 ?_
        refine lv_iadd hx hb dX11_countOf_16 ?_
        refine lv_istore_n (lv' := [(1, .int (n1_4 + ((v0 >>> (n2_4 &&& 31)) &&& 1))), (0, .int v0), (2, .int n2_4)]) hx hb dX11_countOf_17 rfl hl (by decide) rfl (fun ls hl => ?_)
        refine lv_iinc (v := n2_4 + 1) (lv' := [(2, .int (n2_4 + 1)), (1, .int (n1_4 + ((v0 >>> (n2_4 &&& 31)) &&& 1))), (0, .int v0)]) hx hb dX11_countOf_18 hl (k := 2) rfl rfl (by decide) rfl (fun ls hl => ?_)
        refine lv_goto (tgt := 4) hx hb dX11_countOf_21 (by decide) ?_
        exact ih (n1_4 + ((v0 >>> (n2_4 &&& 31)) &&& 1)) (n2_4 + 1) _ (lv_sub hl [2, 1, 0] rfl) hf (lpI_s hinv (by assumption))
  refine lv_iconst (v := 0) hx hb dX11_countOf_0 (by decide) ?_
  refine lv_istore_n (lv' := [(1, .int 0), (0, .int v0)]) hx hb dX11_countOf_1 rfl hl (by decide) rfl (fun ls hl => ?_)
  refine lv_iconst (v := 0) hx hb dX11_countOf_2 (by decide) ?_
  refine lv_istore_n (lv' := [(2, .int 0), (1, .int 0), (0, .int v0)]) hx hb dX11_countOf_3 rfl hl (by decide) rfl (fun ls hl => ?_)
  exact J4 17 0 0 _ (lv_sub hl [2, 1, 0] rfl) hf (lpI_start 16)
/-- bit j of a list of registers; how many from the place 16 - n on -/
def bq (list : Int32) (j : Nat) : Nat := if ((list >>> (nI j &&& 31)) &&& 1) = 1 then 1 else 0
def up (list : Int32) : Nat → Nat
  | 0 => 0
  | n + 1 => bq list (15 - n) + up list n
theorem bq_le (list : Int32) (j : Nat) : bq list j ≤ 1 := by unfold bq; split <;> omega
theorem up_le (list : Int32) (n : Nat) : up list n ≤ n := by
  induction n with
  | zero => exact Nat.le_refl 0
  | succ n ih => have := bq_le list (15 - n); show bq list (15 - n) + up list n ≤ n + 1; omega
theorem up_s (list : Int32) {j : Nat} (h : j < 16) : up list (16 - j) = bq list j + up list (16 - (j + 1)) := by
  have e : 16 - j = (15 - j) + 1 := by omega
  rw [e]
  show bq list (15 - (15 - j)) + up list (15 - j) = _
  rw [show 15 - (15 - j) = j by omega, show 16 - (j + 1) = 15 - j by omega]
theorem bq_v (list : Int32) (j : Nat) : (list >>> (nI j &&& 31)) &&& 1 = nI (bq list j) := by
  obtain ⟨k, hk, e⟩ := pk_andE (list >>> (nI j &&& 31)) (m := 1) 1 (by decide)
  unfold bq
  rw [e]
  rcases (show k = 0 ∨ k = 1 by omega) with rfl | rfl
  · rfl
  · rfl
theorem countOf_up (list : Int32) : y_Model_countOf list = nI (up list 16) := by
  have main : ∀ (n : Nat) (j : Nat) (acc : Int32), j + n = 16 → y_Model_countOf_4 list (n + 1) acc (nI j) = acc + nI (up list n) := by
    intro n
    induction n with
    | zero =>
      intro j acc h
      have hj : j = 16 := by omega
      subst hj
      show (if (16 : Int32) ≤ nI 16 then acc else _) = _
      rw [if_pos (by decide)]
      show acc = acc + nI 0
      rw [nI_0, Int32.add_zero]
    | succ n ih =>
      intro j acc h
      show (if (16 : Int32) ≤ nI j then acc else y_Model_countOf_4 list (n + 1) (acc + ((list >>> (nI j &&& 31)) &&& 1)) (nI j + 1)) = _
      rw [if_neg (show ¬ (16 : Int32) ≤ nI j from nI_ge (a := j) (b := 16) (by omega) (by decide)), nI_1, ih (j + 1) _ (by omega), bq_v]
      show acc + nI (bq list j) + nI (up list n) = acc + nI (bq list (15 - n) + up list n)
      rw [show 15 - n = j by omega, ← nI_add, Int32.add_assoc]
  have := main 16 0 0 rfl
  rw [show y_Model_countOf list = y_Model_countOf_4 list 17 0 0 from rfl]
  rw [show (0 : Int32) = nI 0 from rfl] at this ⊢
  rw [this, nI_0, Int32.zero_add]
