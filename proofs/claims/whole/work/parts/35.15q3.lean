set_option maxHeartbeats 1000000 in
theorem nI_sub1 {a : Nat} (h : 0 < a) : nI a - 1 = nI (a - 1) := by
  have : nI a = nI (a - 1) + 1 := by
    rw [show (1 : Int32) = nI 1 from rfl, nI_addP]; congr 1; omega
  rw [this, Int32.add_sub_cancel]
def resN (τ : MS) (m : Int32) (T : Nat) : Int32 := if nI T = 15 then (m_here τ) + 12 else m_r τ (y_Model_placeOf m (nI T)).toNatClampNeg
set_option maxHeartbeats 1000000 in
theorem nth_E (τ : MS) (l m : Int32) {T : Nat} (hT : T < 16) (hb : bt l T = true) : y_Model_nth τ l (nI (cb l T)) m = resN τ m T := by
  have shn : ∀ t, t < 32 → sh (nI t) = t := by decide
  have main : ∀ (d t : Nat) (i : Int32) (fuel : Nat), t + d = T → i + 1 = nI t → y_Model_nth_6 τ l (nI (cb l T)) m (fuel + d + 2) i (nI (cb l T - cb l t)) = resN τ m T := by
    intro d
    induction d with
    | zero =>
      intro t i fuel h hi
      have ht : t = T := by omega
      subst ht
      rw [Nat.sub_self]
      show (if nI 0 < 0 then _ else y_Model_nth_6 τ l (nI (cb l t)) m (fuel + 1) (i + 1) (nI 0 - ((l >>> ((i + 1) &&& 31)) &&& 1))) = _
      rw [if_neg (by decide), hi, fld1, shn t (by omega), hb]
      show (if nI 0 - b01 true < 0 then _ else _) = _
      rw [if_pos (by decide)]
      rfl
    | succ d ih =>
      intro t i fuel h hi
      have hle : cb l (t + 1) ≤ cb l T := cb_mono l (by omega)
      have hT2 : cb l T ≤ 16 := Nat.le_trans (cb_le l T) (by omega)
      have h1 : cb l (t + 1) = cb l t + (bt l t).toNat := rfl
      show (if nI (cb l T - cb l t) < 0 then _ else y_Model_nth_6 τ l (nI (cb l T)) m (fuel + d + 2) (i + 1) (nI (cb l T - cb l t) - ((l >>> ((i + 1) &&& 31)) &&& 1))) = _
      rw [if_neg ((by decide : ∀ a, a < 17 → ¬ nI a < 0) _ (by omega)), hi, fld1, shn t (by omega)]
      have e : nI (cb l T - cb l t) - b01 (bt l t) = nI (cb l T - cb l (t + 1)) := by
        cases hbt : bt l t
        · rw [hbt] at h1
          simp at h1
          rw [h1]; show _ - 0 = _; rw [Int32.sub_zero]
        · rw [hbt] at h1
          simp at h1
          show nI (cb l T - cb l t) - 1 = _
          rw [nI_sub1 (by omega)]; congr 1; omega
      rw [e]
      exact ih (t + 1) (nI t) fuel (by omega) (nI_addP t 1)
  unfold y_Model_nth
  have := main T 0 (-1) (15 - T) (by omega) (by decide)
  rw [show 15 - T + T + 2 = 17 by omega, show cb l T - cb l 0 = cb l T from rfl] at this
  exact this
section R
variable {σ : CS} {τ : MS}
set_option maxHeartbeats 1000000 in
theorem nI_mul4 {a : Nat} : 4 * nI a = nI (4 * a) := by
  show (Int32.ofNat 4) * Int32.ofNat a = Int32.ofNat (4 * a)
  rw [Int32.ofNat_mul]
set_option maxHeartbeats 1000000 in
theorem late_E (h : R0 σ τ) {m : Int32} (hm : m = 17 ∨ m = 18 ∨ m = 19 ∨ m = 23 ∨ m = 27 ∨ m = 16 ∨ m = 31) {T : Nat} (hT : T < 16) : resN τ m T = x_Registers_readLateIn σ (x_Registers_bankOf m) (nI T) := by
  unfold resN x_Registers_readLateIn
  rw [h.here]
  by_cases h15 : nI T = 15
  · rw [if_pos h15, if_pos h15]
  · rw [if_neg h15, if_neg h15, h.heldIn hm ⟨T, hT, rfl⟩ h15]
set_option maxHeartbeats 1000000 in
theorem sto_loop {m : Int32} (hm : m = 17 ∨ m = 18 ∨ m = 19 ∨ m = 23 ∨ m = 27 ∨ m = 16 ∨ m = 31) (σ0 : CS) (τ0 : MS) (w v1 v2 L n l : Int32) (up before writes special : Bool) (hn : rg n) (hwn : x_Bits_four w 16 = n) (hw21 : bt w (sh 21) = writes) (hl : ∀ j, j < 16 → bt w j = bt l j)
    (hmv : v2 = if up = true then y_Model_value τ0 n + 4 * y_Model_countOf l else y_Model_value τ0 n - 4 * y_Model_countOf l) :
    ∀ (d i : Nat) (σ' : CS) (τ' : MS), i + d = 16 → Go σ' τ' → Pst (x_Transfers_storeMany_28 σ0 w v1 v2 (d + 1) (x_Registers_bankOf m) (L + nI (4 * cb l i)) (nI i) σ') (y_Model_many_122 τ0 false n l up before writes special (17 - cb l i) L false m (nI (4 * cb l i)) τ') := by
  have hK : cb l 16 ≤ 16 := cb_le l 16
  have shn : ∀ t, t < 32 → sh (nI t) = t := by decide
  have le4 : ∀ a, a < 17 → ∀ b, b < 17 → (4 * nI a ≤ nI (4 * b) ↔ a ≤ b) := by decide
  intro d
  induction d with
  | zero =>
    intro i σ' τ' h hg
    have hi : i = 16 := by omega
    subst hi
    show Pst (if (15 : Int32) < nI 16 then _ else _) _
    rw [if_pos (by decide), hwn, on_bt, hw21, show 17 - cb l 16 = (16 - cb l 16) + 1 by omega]
    show Pst _ (if (4 * (y_Model_countOf l)) ≤ nI (4 * cb l 16) then y_Model_many_188 τ0 false n l up before writes special L false m τ' else _)
    rw [count_cb, if_pos ((le4 _ (by omega) _ (by omega)).mpr (Nat.le_refl _))]
    unfold y_Model_many_188 y_Model_many_227 y_Model_many_230
    rw [hg.1.1.2.2.2.2, if_pos (show (-1 : Int32) < 0 by decide)]
    cases writes
    · simp only [Bool.false_eq_true, if_false]
      by_cases h15 : n = 15
      · rw [if_pos h15]; exact Pst.ok hg.1
      · rw [if_neg h15]; exact Pst.ok hg.1
    · simp only [Bool.false_eq_true, if_false, if_true]
      by_cases h15 : n = 15
      · rw [if_pos h15, if_pos h15]; exact Pst.ok hg.1
      · rw [if_neg h15, if_neg h15]
        have hw := hg.1.write hn v2
        unfold x_Registers_write at hw
        rw [if_neg h15] at hw
        refine Pst.ok ?_
        rw [hmv] at hw ⊢
        revert hw
        cases up <;> exact id
  | succ d ih =>
    intro i σ' τ' h hg
    have hci : cb l i ≤ i := cb_le l i
    have hs : cb l (i + 1) = cb l i + (bt l i).toNat := rfl
    show Pst (if (15 : Int32) < nI i then _ else (if (x_Bits_on w (nI i)) = true then (if (x_Memory_holds σ' (L + nI (4 * cb l i))) = true then x_Transfers_storeMany_28 σ0 w v1 v2 (d + 1) (x_Registers_bankOf m) (L + nI (4 * cb l i) + 4) (nI i + 1) (x_Memory_putWord σ' (L + nI (4 * cb l i)) (x_Registers_readLateIn σ' (x_Registers_bankOf m) (nI i))) else (3, σ')) else x_Transfers_storeMany_28 σ0 w v1 v2 (d + 1) (x_Registers_bankOf m) (L + nI (4 * cb l i)) (nI i + 1) σ')) _
    rw [if_neg ((by decide : ∀ i, i < 16 → ¬ (15 : Int32) < nI i) i (by omega)), on_bt, shn i (by omega), hl i (by omega), show nI i + 1 = nI (i + 1) from nI_addP i 1]
    cases hb : bt l i
    · rw [hb] at hs
      simp at hs
      rw [if_neg (by decide), ← hs]
      exact ih (i + 1) σ' τ' (by omega) hg
    · rw [hb] at hs
      simp at hs
      rw [if_pos rfl]
      have hK2 : cb l (i + 1) ≤ cb l 16 := cb_mono l (by omega)
      have e17 : 17 - cb l i = (17 - cb l (i + 1)) + 1 := by omega
      rw [e17]
      show Pst _ (if (4 * (y_Model_countOf l)) ≤ nI (4 * cb l i) then _ else (if 0 ≤ (m_fault τ') then _ else (if (y_Model_isThere ((L &&& (-4)) + nI (4 * cb l i))) = true then y_Model_many_122 τ0 false n l up before writes special (17 - cb l (i + 1)) L false m (nI (4 * cb l i) + 4) (t_memory τ' (upd (m_memory τ') (((L &&& (-4)) + nI (4 * cb l i)) / 4).toNatClampNeg (y_Model_nth τ' l (nI (4 * cb l i) / 4) m))) else y_Model_many_122 τ0 false n l up before writes special (17 - cb l (i + 1)) L false m (nI (4 * cb l i) + 4) (t_fault τ' 3))))
      rw [count_cb, if_neg (show ¬ 4 * nI (cb l 16) ≤ nI (4 * cb l i) from fun e => by have := (le4 _ (by omega) _ (by omega)).mp e; omega), hg.1.1.2.2.2.2, if_neg (show ¬ (0 : Int32) ≤ -1 by decide), ← ad_there L (by omega) σ']
      have e4 : nI (4 * cb l i) + 4 = nI (4 * cb l (i + 1)) := by
        rw [show (4 : Int32) = nI 4 from rfl, nI_addP]; congr 1; omega
      cases hh : x_Memory_holds σ' (L + nI (4 * cb l i))
      · rw [if_neg (by decide), if_neg (by decide)]
        have e17 : 17 - cb l (i + 1) = (16 - cb l (i + 1)) + 1 := by omega
        have hf : y_Model_many_122 τ0 false n l up before writes special (17 - cb l (i + 1)) L false m (nI (4 * cb l i) + 4) (t_fault τ' 3) = t_fault τ' 3 := by
          rw [e17]
          have h188 : y_Model_many_188 τ0 false n l up before writes special L false m (t_fault τ' 3) = t_fault τ' 3 := by
            unfold y_Model_many_188
            rw [if_neg (by show ¬ fixF 3 < 0; decide)]
          show (if _ then y_Model_many_188 τ0 false n l up before writes special L false m (t_fault τ' 3) else (if 0 ≤ m_fault (t_fault τ' 3) then y_Model_many_188 τ0 false n l up before writes special L false m (t_fault τ' 3) else _)) = _
          rw [h188, if_pos (show 0 ≤ m_fault (t_fault τ' 3) by show 0 ≤ fixF 3; decide)]
          split <;> rfl
        rw [hf]
        exact Pst.dab hg
      · rw [if_pos rfl, if_pos rfl]
        have e5 : nI (4 * cb l i) / 4 = nI (cb l i) := by
          rw [div4 (by omega), Nat.mul_div_cancel_left _ (by decide)]
        rw [e5, nth_E τ' l m (by omega) hb, late_E hg.1.1 hm (by omega), Int32.add_assoc, e4]
        refine ih (i + 1) _ _ (by omega) ⟨ad_put hg.1 L (by omega) hh _, hg.2⟩
set_option maxHeartbeats 1000000 in
theorem lod_look (τ0 : MS) (L n l m : Int32) (up before writes special back : Bool) (hf : m_fault τ0 = -1) :
    ∀ (d c fuel : Nat), c + d = cb l 16 → d < fuel → y_Model_many_122 τ0 true n l up before writes special fuel L back m (nI (4 * c)) τ0 = @ite MS (∀ e, c ≤ e → e < cb l 16 → y_Model_isThere ((L &&& (-4)) + nI (4 * e)) = true) (Classical.propDecidable _) (y_Model_many_188 τ0 true n l up before writes special L back m τ0) (t_fault τ0 3) := by
  have hK : cb l 16 ≤ 16 := cb_le l 16
  have le4 : ∀ a, a < 17 → ∀ b, b < 17 → (4 * nI a ≤ nI (4 * b) ↔ a ≤ b) := by decide
  intro d
  induction d with
  | zero =>
    intro c fuel h hfu
    match fuel, hfu with
    | fuel + 1, _ =>
      show (if (4 * (y_Model_countOf l)) ≤ nI (4 * c) then y_Model_many_188 τ0 true n l up before writes special L back m τ0 else _) = _
      rw [count_cb, if_pos ((le4 _ (by omega) _ (by omega)).mpr (by omega)), if_pos (fun e h1 h2 => by omega)]
  | succ d ih =>
    intro c fuel h hfu
    match fuel, hfu with
    | fuel + 1, hfu =>
      show (if (4 * (y_Model_countOf l)) ≤ nI (4 * c) then _ else (if 0 ≤ (m_fault τ0) then _ else (if (y_Model_isThere ((L &&& (-4)) + nI (4 * c))) = true then y_Model_many_122 τ0 true n l up before writes special fuel L back m (nI (4 * c) + 4) τ0 else y_Model_many_122 τ0 true n l up before writes special fuel L back m (nI (4 * c) + 4) (t_fault τ0 3)))) = _
      have e4 : nI (4 * c) + 4 = nI (4 * (c + 1)) := by
        rw [show (4 : Int32) = nI 4 from rfl, nI_addP]; congr 1
      rw [count_cb, if_neg (fun e => by have := (le4 _ (by omega) _ (by omega)).mp e; omega), hf, if_neg (by decide)]
      cases hh : y_Model_isThere ((L &&& (-4)) + nI (4 * c))
      · rw [if_neg (by decide), if_neg (fun hall => by have := hall c (Nat.le_refl c) (by omega); rw [hh] at this; exact absurd this (by decide))]
        match fuel, hfu with
        | fuel + 1, _ =>
          have h188 : y_Model_many_188 τ0 true n l up before writes special L back m (t_fault τ0 3) = t_fault τ0 3 := by
            unfold y_Model_many_188
            rw [if_neg (by show ¬ fixF 3 < 0; decide)]
          show (if _ then y_Model_many_188 τ0 true n l up before writes special L back m (t_fault τ0 3) else (if 0 ≤ m_fault (t_fault τ0 3) then y_Model_many_188 τ0 true n l up before writes special L back m (t_fault τ0 3) else _)) = _
          rw [h188, if_pos (show 0 ≤ m_fault (t_fault τ0 3) by show 0 ≤ fixF 3; decide)]
          split <;> rfl
      · rw [if_pos rfl, e4, ih (c + 1) fuel (by omega) (by omega)]
        by_cases hall : ∀ e, c + 1 ≤ e → e < cb l 16 → y_Model_isThere ((L &&& (-4)) + nI (4 * e)) = true
        · rw [if_pos hall, if_pos]
          intro e h1 h2
          by_cases he : e = c
          · subst he; exact hh
          · exact hall e (by omega) h2
        · rw [if_neg hall, if_neg]
          intro hc; exact hall (fun e h1 h2 => hc e (by omega) h2)
set_option maxHeartbeats 1000000 in
theorem lod_loop {m : Int32} (hm : m = 17 ∨ m = 18 ∨ m = 19 ∨ m = 23 ∨ m = 27 ∨ m = 16 ∨ m = 31) (σ0 : CS) (τ0 : MS) (w v1 v2 v3 L l A : Int32) (back special : Bool) (hw22 : bt w (sh 22) = special) (hl : ∀ j, j < 16 → bt w j = bt l j) (hback : back = (special && bt l 15))
    (hall : ∀ c, c < cb l 16 → y_Model_isThere (L + nI (4 * c)) = true) :
    ∀ (d i : Nat) (σ' : CS) (τ' : MS), i + d = 15 → R1 σ' τ' → Pst (x_Transfers_loadMany_111 σ0 w v1 v2 v3 (d + 1) (x_Registers_bankOf m) (L + nI (4 * cb l i)) (nI i) σ') (y_Model_loadAll_6 τ0 A l m back (d + 1) ((L &&& (-4)) + nI (4 * cb l i)) (nI i) τ') := by
  have shn : ∀ t, t < 32 → sh (nI t) = t := by decide
  have s15 : sh (15 : Int32) = 15 := by decide
  intro d
  induction d with
  | zero =>
    intro i σ' τ' h hg
    have hi : i = 15 := by omega
    subst hi
    show Pst (if (15 : Int32) ≤ nI 15 then (if (x_Bits_on w 15) = true then (if (x_Bits_on w 22) = true then x_Transfers_loadMany_180 σ0 w v1 v2 v3 (L + nI (4 * cb l 15)) (x_Registers_changeCpsr σ' (x_Registers_spsrOrCpsr σ')) else x_Transfers_loadMany_180 σ0 w v1 v2 v3 (L + nI (4 * cb l 15)) σ') else ((-1), σ')) else _) (if (15 : Int32) ≤ nI 15 then (if ((l >>> ((15 : Int32) &&& 31)) &&& 1) = 1 then (if back = true then (if (y_Model_hasSaved τ') = true then y_Model_loadAll_82 τ0 A l m back ((L &&& (-4)) + nI (4 * cb l 15)) (y_Model_putStatus τ' (y_Model_kept τ')) else y_Model_loadAll_82 τ0 A l m back ((L &&& (-4)) + nI (4 * cb l 15)) τ') else y_Model_loadAll_82 τ0 A l m back ((L &&& (-4)) + nI (4 * cb l 15)) τ') else τ') else _)
    rw [if_pos (show (15 : Int32) ≤ nI 15 by decide), if_pos (show (15 : Int32) ≤ nI 15 by decide), on_bt, on_bt, hw22, s15, hl 15 (by decide)]
    simp only [fld1_1, s15]
    rw [hback]
    unfold x_Transfers_loadMany_180 y_Model_loadAll_82
    cases hb : bt l 15
    · exact Pst.ok hg
    · have h16 : cb l 15 < cb l 16 := by
        have : cb l 16 = cb l 15 + (bt l 15).toNat := rfl
        rw [hb] at this; simp at this; omega
      have hth : x_Memory_holds σ' (L + nI (4 * cb l 15)) = true := by rw [holds_E]; exact hall _ h16
      have hle : cb l 15 ≤ 16 := Nat.le_trans (cb_le l 15) (by omega)
      cases special
      · refine Pst.ok ?_
        show R1 (x_Registers_jump σ' (x_Memory_word σ' (L + nI (4 * cb l 15)))) (y_Model_put τ' 15 (m_memory τ' (((L &&& (-4)) + nI (4 * cb l 15)) / 4).toNatClampNeg))
        rw [ad_word hg.1 L hle hth]
        exact jump_R1 hg.1 _
      · refine Pst.ok ?_
        have hr := restore_R0 hg.1
        have hj := jump_R1 hr (x_Memory_word (x_Registers_changeCpsr σ' (x_Registers_spsrOrCpsr σ')) (L + nI (4 * cb l 15)))
        have hwd := ad_word hr L hle (by rw [holds_E]; exact hall _ h16)
        revert hj hwd
        show _ → _ → R1 (x_Registers_jump (x_Registers_changeCpsr σ' (x_Registers_spsrOrCpsr σ')) (x_Memory_word (x_Registers_changeCpsr σ' (x_Registers_spsrOrCpsr σ')) (L + nI (4 * cb l 15)))) (if (y_Model_hasSaved τ') = true then y_Model_put (y_Model_putStatus τ' (y_Model_kept τ')) 15 (m_memory (y_Model_putStatus τ' (y_Model_kept τ')) (((L &&& (-4)) + nI (4 * cb l 15)) / 4).toNatClampNeg) else y_Model_put τ' 15 (m_memory τ' (((L &&& (-4)) + nI (4 * cb l 15)) / 4).toNatClampNeg))
        split
        · intro hj hwd; rw [hwd]; exact hj
        · intro hj hwd; rw [hwd]; exact hj
  | succ d ih =>
    intro i σ' τ' h hg
    have hci : cb l i ≤ i := cb_le l i
    have hs : cb l (i + 1) = cb l i + (bt l i).toNat := rfl
    show Pst (if (15 : Int32) ≤ nI i then _ else (if (x_Bits_on w (nI i)) = true then x_Transfers_loadMany_111 σ0 w v1 v2 v3 (d + 1) (x_Registers_bankOf m) (L + nI (4 * cb l i) + 4) (nI i + 1) (x_Registers_hold σ' (x_Registers_bankOf m) (nI i) (x_Memory_word σ' (L + nI (4 * cb l i)))) else x_Transfers_loadMany_111 σ0 w v1 v2 v3 (d + 1) (x_Registers_bankOf m) (L + nI (4 * cb l i)) (nI i + 1) σ')) (if (15 : Int32) ≤ nI i then _ else (if ((l >>> (nI i &&& 31)) &&& 1) = 1 then y_Model_loadAll_6 τ0 A l m back (d + 1) ((L &&& (-4)) + nI (4 * cb l i) + 4) (nI i + 1) (t_r τ' (upd (m_r τ') (y_Model_placeOf m (nI i)).toNatClampNeg (m_memory τ' (((L &&& (-4)) + nI (4 * cb l i)) / 4).toNatClampNeg))) else y_Model_loadAll_6 τ0 A l m back (d + 1) ((L &&& (-4)) + nI (4 * cb l i)) (nI i + 1) τ'))
    rw [if_neg ((by decide : ∀ i, i < 15 → ¬ (15 : Int32) ≤ nI i) i (by omega)), if_neg ((by decide : ∀ i, i < 15 → ¬ (15 : Int32) ≤ nI i) i (by omega)), on_bt, shn i (by omega), hl i (by omega), show nI i + 1 = nI (i + 1) from nI_addP i 1]
    simp only [fld1_1, shn i (by omega : i < 32)]
    cases hb : bt l i
    · rw [hb] at hs
      simp at hs
      simp only [Bool.false_eq_true, if_false]
      rw [← hs]
      exact ih (i + 1) σ' τ' (by omega) hg
    · rw [hb] at hs
      simp at hs
      simp only [if_true]
      have hK2 : cb l (i + 1) ≤ cb l 16 := cb_mono l (by omega)
      have e4 : nI (4 * cb l i) + 4 = nI (4 * cb l (i + 1)) := by
        rw [show (4 : Int32) = nI 4 from rfl, nI_addP]; congr 1; omega
      have hth : x_Memory_holds σ' (L + nI (4 * cb l i)) = true := by rw [holds_E]; exact hall _ (by omega)
      have hi15 : ¬ nI i = 15 := (by decide : ∀ i, i < 15 → ¬ nI i = 15) i (by omega)
      rw [ad_word hg.1 L (by omega) hth, Int32.add_assoc, Int32.add_assoc, e4]
      exact ih (i + 1) _ _ (by omega) ⟨hg.1.hold hm ⟨i, by omega, rfl⟩ hi15 _, hg.2.hold hm ⟨i, by omega, rfl⟩ hi15 _⟩
end R
