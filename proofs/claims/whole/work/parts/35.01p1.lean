def bt (x : Int32) (i : Nat) : Bool := x.toBitVec.getLsbD i
set_option maxHeartbeats 1000000 in
theorem ext32 {x y : Int32} (h : ∀ i, i < 32 → bt x i = bt y i) : x = y := Int32.toBitVec_inj.mp (BitVec.eq_of_getLsbD_eq h)
set_option maxHeartbeats 1000000 in
theorem bt_and (x y : Int32) (i : Nat) : bt (x &&& y) i = (bt x i && bt y i) := by
  unfold bt; rw [Int32.toBitVec_and, BitVec.getLsbD_and]
set_option maxHeartbeats 1000000 in
theorem bt_or (x y : Int32) (i : Nat) : bt (x ||| y) i = (bt x i || bt y i) := by
  unfold bt; rw [Int32.toBitVec_or, BitVec.getLsbD_or]
set_option maxHeartbeats 1000000 in
theorem bt_xor (x y : Int32) (i : Nat) : bt (x ^^^ y) i = (bt x i ^^ bt y i) := by
  unfold bt; rw [Int32.toBitVec_xor, BitVec.getLsbD_xor]
set_option maxHeartbeats 1000000 in
theorem bt_ge (x : Int32) {i : Nat} (h : 32 ≤ i) : bt x i = false := BitVec.getLsbD_of_ge _ _ h
set_option maxHeartbeats 1000000 in
theorem bt_neg1 {i : Nat} (h : i < 32) : bt (-1) i = true := by
  revert i; decide
set_option maxHeartbeats 1000000 in
theorem bt_zero (i : Nat) : bt 0 i = false := by unfold bt; simp
def sh (y : Int32) : Nat := (y.toBitVec &&& 31#32).toNat
set_option maxHeartbeats 1000000 in
theorem sh_lt (y : Int32) : sh y < 32 := by
  unfold sh
  rw [BitVec.toNat_and]
  exact Nat.lt_of_le_of_lt (Nat.and_le_right) (by decide)
set_option maxHeartbeats 1000000 in
theorem and31_smod (y : Int32) : ((y &&& 31).toBitVec.smod 32) = y.toBitVec &&& 31#32 := by
  have h : (y.toBitVec &&& 31#32).toNat < 32 := sh_lt y
  rw [Int32.toBitVec_and]
  show (y.toBitVec &&& 31#32).smod 32#32 = _
  apply BitVec.eq_of_toInt_eq
  rw [BitVec.toInt_smod]
  generalize y.toBitVec &&& 31#32 = z at *
  have e : z.toInt = z.toNat := by rw [BitVec.toInt_eq_toNat_of_lt]; omega
  rw [e]
  show ((z.toNat : Int).fmod 32) = z.toNat
  rw [Int.fmod_eq_emod_of_nonneg _ (by decide)]
  omega
set_option maxHeartbeats 1000000 in
theorem iu_bv (x y : Int32) : (iu x y).toBitVec = x.toBitVec >>> sh y := by
  have e : (y.toBitVec &&& 31#32).toNat % 32 = (y.toBitVec &&& 31#32).toNat := Nat.mod_eq_of_lt (sh_lt y)
  unfold iu sh
  rw [UInt32.toBitVec_toInt32, UInt32.toBitVec_shiftRight, UInt32.toBitVec_and]
  apply BitVec.eq_of_toNat_eq
  rw [BitVec.toNat_and] at e
  simp [BitVec.toNat_ushiftRight]
  exact congrArg _ e
set_option maxHeartbeats 1000000 in
theorem sr_bv (x y : Int32) : (x >>> (y &&& 31)).toBitVec = x.toBitVec.sshiftRight (sh y) := by
  rw [Int32.toBitVec_shiftRight, and31_smod]
  rfl
set_option maxHeartbeats 1000000 in
theorem sl_bv (x y : Int32) : (x <<< (y &&& 31)).toBitVec = x.toBitVec <<< (sh y) := by
  rw [Int32.toBitVec_shiftLeft, and31_smod]
  rfl
set_option maxHeartbeats 1000000 in
theorem bt_iu (x y : Int32) (i : Nat) : bt (iu x y) i = bt x (sh y + i) := by
  unfold bt; rw [iu_bv, BitVec.getLsbD_ushiftRight]
set_option maxHeartbeats 1000000 in
theorem bt_sr (x y : Int32) {i : Nat} (h : i < 32) : bt (x >>> (y &&& 31)) i = if sh y + i < 32 then bt x (sh y + i) else bt x 31 := by
  unfold bt; rw [sr_bv, BitVec.getLsbD_sshiftRight]
  have : decide (32 ≤ i) = false := by simp; omega
  rw [this]
  simp [BitVec.msb_eq_getLsbD_last]
set_option maxHeartbeats 1000000 in
theorem bt_sl (x y : Int32) {i : Nat} (h : i < 32) : bt (x <<< (y &&& 31)) i = if i < sh y then false else bt x (i - sh y) := by
  unfold bt; rw [sl_bv, BitVec.getLsbD_shiftLeft]
  by_cases h2 : i < sh y <;> simp [h, h2]
set_option maxHeartbeats 1000000 in
theorem fld (x y m : Int32) (hm : ∀ i, i < 32 → 32 ≤ sh y + i → bt m i = false) : (x >>> (y &&& 31)) &&& m = iu x y &&& m := by
  apply ext32
  intro i hi
  rw [bt_and, bt_and, bt_sr _ _ hi, bt_iu]
  by_cases h : sh y + i < 32
  · rw [if_pos h]
  · rw [hm i hi (by omega)]; simp
set_option maxHeartbeats 1000000 in
theorem fld_mask (x y m c M C : Int32) (hm : ∀ i, i < 32 → 32 ≤ sh y + i → bt m i = false) (hc : ∀ i, i < 32 → 32 ≤ sh y + i → bt c i = false)
    (hM : ∀ i, i < 32 → bt M i = (if i < sh y then false else bt m (i - sh y))) (hC : ∀ i, i < 32 → bt C i = (if i < sh y then false else bt c (i - sh y))) : iu x y &&& m = c ↔ x &&& M = C := by
  constructor
  · intro h
    apply ext32
    intro i hi
    rw [bt_and, hM i hi, hC i hi]
    by_cases h2 : i < sh y
    · rw [if_pos h2, if_pos h2]; simp
    · rw [if_neg h2, if_neg h2, ← h, bt_and, bt_iu, show sh y + (i - sh y) = i by omega]
  · intro h
    apply ext32
    intro i hi
    rw [bt_and, bt_iu]
    by_cases h2 : sh y + i < 32
    · have := congrArg (fun z => bt z (sh y + i)) h
      simp only [bt_and] at this
      rw [hM _ h2, hC _ h2, if_neg (by omega), if_neg (by omega), show sh y + i - sh y = i by omega] at this
      exact this
    · rw [hm i hi (by omega), hc i hi (by omega)]; simp
set_option maxHeartbeats 1000000 in
theorem mask2 (x M N C D : Int32) (h1 : D &&& M = 0) (h2 : C &&& N = 0) (h3 : C &&& M = C) (h4 : D &&& N = D) : x &&& (M ||| N) = (C ||| D) ↔ (x &&& M = C ∧ x &&& N = D) := by
  constructor
  · intro h
    constructor
    · have : (x &&& (M ||| N)) &&& M = (C ||| D) &&& M := by rw [h]
      have e1 : (x &&& (M ||| N)) &&& M = x &&& M := by
        apply ext32; intro i _; simp only [bt_and, bt_or]; cases bt x i <;> cases bt M i <;> cases bt N i <;> rfl
      have e2 : (C ||| D) &&& M = (C &&& M) ||| (D &&& M) := by
        apply ext32; intro i _; simp only [bt_and, bt_or]; cases bt C i <;> cases bt M i <;> cases bt D i <;> rfl
      rw [e1, e2, h1, h3] at this
      rw [this]; exact Int32.or_zero
    · have : (x &&& (M ||| N)) &&& N = (C ||| D) &&& N := by rw [h]
      have e1 : (x &&& (M ||| N)) &&& N = x &&& N := by
        apply ext32; intro i _; simp only [bt_and, bt_or]; cases bt x i <;> cases bt M i <;> cases bt N i <;> rfl
      have e2 : (C ||| D) &&& N = (C &&& N) ||| (D &&& N) := by
        apply ext32; intro i _; simp only [bt_and, bt_or]; cases bt C i <;> cases bt N i <;> cases bt D i <;> rfl
      rw [e1, e2, h2, h4] at this
      rw [this]; exact Int32.zero_or
  · rintro ⟨ha, hb⟩
    rw [← ha, ← hb]
    apply ext32; intro i _; simp only [bt_and, bt_or]; cases bt x i <;> cases bt M i <;> cases bt N i <;> rfl
set_option maxHeartbeats 1000000 in
theorem and_and32 (x M N : Int32) : (x &&& M) &&& N = x &&& (M &&& N) := by
  apply ext32; intro i _; simp only [bt_and]; cases bt x i <;> cases bt M i <;> cases bt N i <;> rfl
set_option maxHeartbeats 1000000 in
theorem iu0 (x : Int32) : iu x 0 = x := by
  apply ext32; intro i _; rw [bt_iu]; exact congrArg _ (by show 0 + i = i; omega)
