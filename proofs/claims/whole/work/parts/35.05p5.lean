def fS (v0 w : Int32) : Int32 := if v0 = 0 then w <<< ((1 : Int32) &&& 31) else if v0 = 1 then iu w 1 else w >>> ((1 : Int32) &&& 31)
def gS' (v0 w : Int32) : Bool := if v0 = 0 then bt w 31 else bt w 0
set_option maxHeartbeats 1000000 in
theorem sl_step (τ : MS) (v0 v1 v2 : Int32) (n : Nat) (k0 w i : Int32) (τ' : MS) : y_Model_shift_87 τ v0 v1 v2 (n + 1) k0 w i τ' = if k0 ≤ i then (w, τ') else y_Model_shift_87 τ v0 v1 v2 n k0 (fS v0 w) (i + 1) (t_carry τ' (gS' v0 w)) := by
  rw [y_Model_shift_87]
  by_cases h : k0 ≤ i
  · rw [if_pos h, if_pos h]
  · rw [if_neg h, if_neg h]
    unfold fS gS'
    by_cases h0 : v0 = 0
    · simp only [if_pos h0]
      by_cases h1 : 0 ≤ w
      · rw [if_pos h1, (nn_bt w).mp h1]
      · rw [if_neg h1, (neg_bt w).mp h1]
    · simp only [if_neg h0]
      by_cases h1 : w &&& 1 = 1
      · rw [if_pos h1, (and1_1 w).mp h1]
        by_cases h2 : v0 = 1 <;> simp only [h2, if_true, if_false]
      · rw [if_neg h1]
        have : bt w 0 = false := by
          cases hb : bt w 0
          · rfl
          · exact absurd ((and1_1 w).mpr hb) h1
        rw [this]
        by_cases h2 : v0 = 1 <;> simp only [h2, if_true, if_false]
def itS (v0 : Int32) : Nat → Int32 → Int32
  | 0, w => w
  | d + 1, w => itS v0 d (fS v0 w)
set_option maxHeartbeats 1000000 in
theorem sl_all (τ : MS) (v0 v1 v2 : Int32) (J : Nat) (hJ : J ≤ 33) : ∀ (d n i : Nat) (w : Int32) (τ' : MS), i + d = J → d < n → y_Model_shift_87 τ v0 v1 v2 n (nI J) w (nI i) τ' = (itS v0 d w, if d = 0 then τ' else t_carry τ' (gS' v0 (itS v0 (d - 1) w))) := by
  have le_of : ∀ a, a < 34 → ∀ b, b < 34 → (nI a ≤ nI b ↔ a ≤ b) := by decide
  have add_of : ∀ a, a < 34 → nI a + 1 = nI (a + 1) := by decide
  intro d
  induction d with
  | zero =>
    intro n i w τ' h hn
    match n, hn with
    | n + 1, _ =>
      rw [sl_step, if_pos ((le_of J (by omega) i (by omega)).mpr (by omega))]
      rfl
  | succ d ih =>
    intro n i w τ' h hn
    match n, hn with
    | n + 1, hn =>
      rw [sl_step, if_neg (fun hc => by have := (le_of J (by omega) i (by omega)).mp hc; omega), add_of i (by omega), ih n (i + 1) _ _ (by omega) (by omega)]
      rw [if_neg (by omega : ¬ d + 1 = 0)]
      match d with
      | 0 => rfl
      | d + 1 => rfl
set_option maxHeartbeats 1000000 in
theorem itS_0 (d : Nat) : ∀ (w : Int32) (i : Nat), i < 32 → bt (itS 0 d w) i = if i < d then false else bt w (i - d) := by
  induction d with
  | zero => intro w i hi; rfl
  | succ d ih =>
    intro w i hi
    show bt (itS 0 d (w <<< ((1 : Int32) &&& 31))) i = _
    rw [ih _ i hi]
    by_cases h : i < d
    · rw [if_pos h, if_pos (by omega)]
    · rw [if_neg h, bt_sl _ _ (by omega), show sh 1 = 1 from rfl]
      by_cases h2 : i < d + 1
      · rw [if_pos (by omega), if_pos h2]
      · rw [if_neg (by omega), if_neg h2, show i - d - 1 = i - (d + 1) by omega]
set_option maxHeartbeats 1000000 in
theorem itS_1 (d : Nat) : ∀ (w : Int32) (i : Nat), i < 32 → bt (itS 1 d w) i = bt w (i + d) := by
  induction d with
  | zero => intro w i hi; rfl
  | succ d ih =>
    intro w i hi
    show bt (itS 1 d (iu w 1)) i = _
    rw [ih _ i hi, bt_iu, show sh 1 = 1 from rfl]
    exact congrArg _ (by omega)
set_option maxHeartbeats 1000000 in
theorem itS_2 (d : Nat) : ∀ (w : Int32) (i : Nat), i < 32 → bt (itS 2 d w) i = if i + d < 32 then bt w (i + d) else bt w 31 := by
  induction d with
  | zero => intro w i hi; rw [if_pos (by omega)]; rfl
  | succ d ih =>
    intro w i hi
    show bt (itS 2 d (w >>> ((1 : Int32) &&& 31))) i = _
    rw [ih _ i hi, bt_sr _ _ (by omega : 31 < 32), show sh 1 = 1 from rfl, if_neg (by omega : ¬ 1 + 31 < 32)]
    by_cases h : i + d < 32
    · rw [if_pos h, bt_sr _ _ h, show sh 1 = 1 from rfl]
      by_cases h2 : 1 + (i + d) < 32
      · rw [if_pos h2, if_pos (by omega)]; exact congrArg _ (by omega)
      · rw [if_neg h2, if_neg (by omega)]
    · rw [if_neg h, if_neg (by omega)]
set_option maxHeartbeats 1000000 in
theorem sh_nI : ∀ j, j < 32 → sh (nI j) = j := by decide
set_option maxHeartbeats 1000000 in
theorem turn_eq : ∀ j, j < 256 → ¬ (nI j &&& 31 = 0) → (((-(nI j)) &&& 31) &&& 31) = ((32 - (nI j &&& 31)) &&& 31) := by decide +kernel
set_option maxHeartbeats 1000000 in
theorem turn_0 : ∀ j, j < 256 → (nI j &&& 31 = 0) → (((-(nI j)) &&& 31) &&& 31) = ((0 : Int32) &&& 31) := by decide +kernel
set_option maxHeartbeats 1000000 in
theorem iu31' (a : Int32) : iu a 31 = b01 (bt a 31) := by
  apply ext32; intro i hi
  rw [bt_iu]
  by_cases h : i = 0
  · subst h; show bt a (31 + 0) = _; cases bt a 31 <;> rfl
  · rw [bt_ge a (show 32 ≤ sh 31 + i by show 32 ≤ 31 + i; omega)]
    cases bt a 31
    · exact (bt_zero i).symm
    · show _ = bt 1 i; revert i; decide
section R
variable {σ : CS} {τ : MS}
set_option maxHeartbeats 1000000 in
theorem turn_E (v : Int32) {j : Nat} (hj : j < 256) : x_Shifter_turnRight v (nI j) = if (nI j &&& 31) = 0 then v else (iu v (nI j &&& 31)) ||| (v <<< ((32 - (nI j &&& 31)) &&& 31)) := by
  unfold x_Shifter_turnRight
  by_cases h : (nI j &&& 31) = 0
  · rw [if_pos h, turn_0 j hj h, h, iu0]
    apply ext32; intro i hi
    rw [bt_or, bt_sl _ _ hi, show sh 0 = 0 from rfl, if_neg (by omega), Nat.sub_zero]
    cases bt v i <;> rfl
  · rw [if_neg h, turn_eq j hj h]
set_option maxHeartbeats 1000000 in
theorem shift_E (h : R0 σ τ) {kind n : Int32} (hk : ∃ k, k < 4 ∧ kind = nI k) (hn : ∃ j, j < 256 ∧ n = nI j) (v : Int32) : ∃ (r : Int32) (c : Bool), x_Shifter_shift σ kind v n (x_Registers_carry σ) = (r, s_carry σ (b01 c)) ∧ y_Model_shift τ kind v n = (r, t_carry τ c) := by
  obtain ⟨k, hk, rfl⟩ := hk
  obtain ⟨j, hj, rfl⟩ := hn
  unfold x_Shifter_shift y_Model_shift
  have hz : nI j = 0 ↔ j = 0 := (by decide +kernel : ∀ j, j < 256 → (nI j = 0 ↔ j = 0)) j hj
  by_cases h0 : j = 0
  · rw [if_pos (hz.mpr h0), if_pos (hz.mpr h0)]
    exact ⟨v, bt (c_cpsr σ) 29, by rw [carry_bt], by rw [h.is]; rfl⟩
  · rw [if_neg (fun e => h0 (hz.mp e)), if_neg (fun e => h0 (hz.mp e))]
    by_cases h3 : k = 3
    · subst h3
      rw [if_pos (show nI 3 = 3 from rfl), if_pos (show nI 3 = 3 from rfl)]
      refine ⟨x_Shifter_turnRight v (nI j), bt (x_Shifter_turnRight v (nI j)) 31, ?_, ?_⟩
      · show (_, s_carry σ (iu (x_Shifter_turnRight v (nI j)) 31)) = _
        have : iu (x_Shifter_turnRight v (nI j)) 31 = b01 (bt (x_Shifter_turnRight v (nI j)) 31) := by
          generalize x_Shifter_turnRight v (nI j) = a
          apply ext32; intro i hi
          rw [bt_iu]
          by_cases h : i = 0
          · subst h; show bt a (31 + 0) = _; cases bt a 31 <;> rfl
          · rw [bt_ge a (show 32 ≤ sh 31 + i by show 32 ≤ 31 + i; omega)]
            cases bt a 31
            · exact (bt_zero i).symm
            · show _ = bt 1 i; revert i; decide
        rw [this]
      · unfold y_Model_shift_48
        rw [turn_E v hj]
        split
        · rw [dec_neg]; rfl
        · rw [dec_neg]; rfl
    · have hk3 : ¬ nI k = 3 := (by decide : ∀ k, k < 4 → ¬ k = 3 → ¬ nI k = 3) k hk h3
      rw [if_neg hk3, if_neg hk3]
      have h33 : nI j ≤ 33 ↔ j ≤ 33 := (by decide +kernel : ∀ j, j < 256 → (nI j ≤ 33 ↔ j ≤ 33)) j hj
      have h32 : 32 ≤ nI j ↔ 32 ≤ j := (by decide +kernel : ∀ j, j < 256 → (32 ≤ nI j ↔ 32 ≤ j)) j hj
      have e32 : nI j = 32 ↔ j = 32 := (by decide +kernel : ∀ j, j < 256 → (nI j = 32 ↔ j = 32)) j hj
      -- the loop
      have hloop : ∀ (b : Bool), (if nI j ≤ 33 then y_Model_shift_79 τ (nI k) v (nI j) (nI j) else y_Model_shift_79 τ (nI k) v (nI j) 33) = (itS (nI k) (if j ≤ 33 then j else 33) v, t_carry τ (gS' (nI k) (itS (nI k) ((if j ≤ 33 then j else 33) - 1) v))) := by
        intro _
        by_cases hh : j ≤ 33
        · rw [if_pos (h33.mpr hh), if_pos hh]
          unfold y_Model_shift_79
          have := sl_all τ (nI k) v (nI j) j hh j 34 0 v (t_carry τ (y_Model_is τ 29)) (by omega) (by omega)
          rw [if_neg h0] at this
          exact this
        · rw [if_neg (fun e => hh (h33.mp e)), if_neg hh]
          unfold y_Model_shift_79
          exact sl_all τ (nI k) v (nI j) 33 (by omega) 33 34 0 v (t_carry τ (y_Model_is τ 29)) (by omega) (by omega)
      rw [hloop true]
      refine ⟨_, _, ?_, rfl⟩
      have fin : ∀ {a b : Int32} {x : Int32} {y : Bool}, a = b → x = b01 y → (a, s_carry σ x) = (b, s_carry σ (b01 y)) := fun h1 h2 => by rw [h1, h2]
      have hk2 : k = 0 ∨ k = 1 ∨ k = 2 := by omega
      have b31 : iu v 31 = b01 (bt v 31) := iu31' v
      by_cases hge : 32 ≤ j
      · rw [if_pos (h32.mpr hge)]
        have hd : (if j ≤ 33 then j else 33) = 32 ∧ j = 32 ∨ (if j ≤ 33 then j else 33) = 33 ∧ ¬ j = 32 := by
          by_cases h1 : j = 32
          · left; subst h1; exact ⟨rfl, rfl⟩
          · right; refine ⟨?_, h1⟩; split <;> omega
        rcases hk2 with rfl | rfl | rfl
        · rw [if_neg (by decide), if_pos (by decide)]
          unfold x_Shifter_shift_123
          rcases hd with ⟨hd, h1⟩ | ⟨hd, h1⟩
          · rw [if_pos (e32.mpr h1), hd]
            refine fin (ext32 fun i hi => ?_) ?_
            · rw [show itS (nI 0) 32 v = itS 0 32 v from rfl, itS_0 32 v i hi, if_pos hi, bt_zero]
            · show v &&& 1 = b01 (bt (itS 0 31 v) 31)
              rw [one_bit, itS_0 31 v 31 (by decide), if_neg (by decide)]
          · rw [if_neg (fun e => h1 (e32.mp e)), hd]
            refine fin (ext32 fun i hi => ?_) ?_
            · rw [show itS (nI 0) 33 v = itS 0 33 v from rfl, itS_0 33 v i hi, if_pos (by omega), bt_zero]
            · show 0 = b01 (bt (itS 0 32 v) 31)
              rw [itS_0 32 v 31 (by decide), if_pos (by decide)]; rfl
        · rw [if_neg (by decide), if_neg (by decide)]
          unfold x_Shifter_shift_123
          rcases hd with ⟨hd, h1⟩ | ⟨hd, h1⟩
          · rw [if_pos (e32.mpr h1), hd]
            refine fin (ext32 fun i hi => ?_) ?_
            · rw [show itS (nI 1) 32 v = itS 1 32 v from rfl, itS_1 32 v i hi, bt_zero, bt_ge v (by omega)]
            · show iu v 31 = b01 (bt (itS 1 31 v) 0)
              rw [itS_1 31 v 0 (by decide), b31]
          · rw [if_neg (fun e => h1 (e32.mp e)), hd]
            refine fin (ext32 fun i hi => ?_) ?_
            · rw [show itS (nI 1) 33 v = itS 1 33 v from rfl, itS_1 33 v i hi, bt_zero, bt_ge v (by omega)]
            · show 0 = b01 (bt (itS 1 32 v) 0)
              rw [itS_1 32 v 0 (by decide), bt_ge v (by decide)]; rfl
        · rw [if_pos (by decide)]
          have hd' : 32 ≤ (if j ≤ 33 then j else 33) := by rcases hd with ⟨hd, -⟩ | ⟨hd, -⟩ <;> rw [hd] <;> decide
          generalize (if j ≤ 33 then j else 33) = d at *
          refine fin (ext32 fun i hi => ?_) ?_
          · rw [show itS (nI 2) d v = itS 2 d v from rfl, itS_2 d v i hi, if_neg (by omega), bt_sr _ _ hi, show sh 31 = 31 from rfl]
            by_cases hi0 : 31 + i < 32
            · rw [if_pos hi0, show i = 0 by omega]
            · rw [if_neg hi0]
          · show iu v 31 = b01 (bt (itS 2 (d - 1) v) 0)
            rw [b31, itS_2 (d - 1) v 0 (by decide)]
            by_cases h1 : 0 + (d - 1) < 32
            · rw [if_pos h1, show 0 + (d - 1) = 31 by omega]
            · rw [if_neg h1]
      · rw [if_neg (fun e => hge (h32.mp e)), if_pos (by omega : j ≤ 33)]
        have s1 : sh (nI j) = j := sh_nI j (by omega)
        have s2 : sh (32 - nI j) = 32 - j := (by decide : ∀ j, j < 32 → ¬ j = 0 → sh (32 - nI j) = 32 - j) j (by omega) h0
        have s3 : sh (nI j - 1) = j - 1 := (by decide : ∀ j, j < 32 → ¬ j = 0 → sh (nI j - 1) = j - 1) j (by omega) h0
        rcases hk2 with rfl | rfl | rfl
        · rw [if_pos (by decide)]
          unfold x_Shifter_shift_61
          rw [if_pos (by decide)]
          refine fin (ext32 fun i hi => ?_) ?_
          · rw [show itS (nI 0) j v = itS 0 j v from rfl, itS_0 j v i hi, bt_sl _ _ hi, s1]
          · show _ = b01 (bt (itS 0 (j - 1) v) 31)
            rw [one_bit, bt_iu, s2, itS_0 (j - 1) v 31 (by decide), if_neg (by omega)]
            exact congrArg _ (congrArg _ (by omega))
        · rw [if_neg (by decide)]
          unfold x_Shifter_shift_61
          rw [if_neg (by decide), if_pos (by decide)]
          refine fin (ext32 fun i hi => ?_) ?_
          · rw [show itS (nI 1) j v = itS 1 j v from rfl, itS_1 j v i hi, bt_iu, s1, Nat.add_comm]
          · show _ = b01 (bt (itS 1 (j - 1) v) 0)
            rw [one_bit, bt_sr _ _ (by decide), s3, itS_1 (j - 1) v 0 (by decide), if_pos (by omega), Nat.add_comm]
        · rw [if_neg (by decide)]
          unfold x_Shifter_shift_61
          rw [if_neg (by decide), if_neg (by decide)]
          refine fin (ext32 fun i hi => ?_) ?_
          · rw [show itS (nI 2) j v = itS 2 j v from rfl, itS_2 j v i hi, bt_sr _ _ hi, s1, Nat.add_comm]
          · show _ = b01 (bt (itS 2 (j - 1) v) 0)
            rw [one_bit, bt_sr _ _ (by decide), s3, itS_2 (j - 1) v 0 (by decide), Nat.add_comm]
set_option maxHeartbeats 1000000 in
theorem shiftBy_E (h : R0 σ τ) {kind n : Int32} (hk : ∃ k, k < 4 ∧ kind = nI k) (hn : ∃ j, j < 32 ∧ n = nI j) (v : Int32) : ∃ (r : Int32) (c : Bool), x_Shifter_shiftByNumber σ kind v n (x_Registers_carry σ) = (r, s_carry σ (b01 c)) ∧ y_Model_shiftBy τ kind v n = (r, t_carry τ c) := by
  have main := shift_E h hk (n := n) (by obtain ⟨j, hj, e⟩ := hn; exact ⟨j, by omega, e⟩) v
  have m32 := shift_E h hk (n := 32) ⟨32, by decide, rfl⟩ v
  obtain ⟨k, hk, rfl⟩ := hk
  obtain ⟨j, hj, rfl⟩ := hn
  unfold x_Shifter_shiftByNumber y_Model_shiftBy x_Shifter_shiftByNumber_8 y_Model_shiftBy_8
  by_cases h0 : j = 0
  · subst h0
    rw [if_pos (show nI 0 = 0 by decide), if_neg (show ¬ 0 < nI 0 by decide)]
    rcases (show k = 0 ∨ k = 1 ∨ k = 2 ∨ k = 3 by omega) with rfl | rfl | rfl | rfl
    · rw [if_pos (by decide), if_pos (by decide)]; exact main
    · rw [if_neg (by decide), if_neg (by decide), if_neg (by decide), if_neg (by decide)]; exact m32
    · rw [if_neg (by decide), if_neg (by decide), if_neg (by decide), if_neg (by decide)]; exact m32
    · rw [if_neg (by decide), if_pos (by decide), if_neg (by decide), if_pos (by decide)]
      refine ⟨iu v 1 ||| (x_Registers_carry σ <<< ((31 : Int32) &&& 31)), bt v 0, ?_, ?_⟩
      · rw [one_bit]
      · rw [h.is, carry_bt]
        unfold y_Model_shiftBy_48
        rw [dec_1]
        show (if bt (c_cpsr σ) 29 = true then _ else _) = _
        cases bt (c_cpsr σ) 29 <;> rfl
  · rw [if_neg ((by decide : ∀ j, j < 32 → ¬ j = 0 → ¬ nI j = 0) j hj h0), if_pos ((by decide : ∀ j, j < 32 → ¬ j = 0 → 0 < nI j) j hj h0)]
    exact main
end R
