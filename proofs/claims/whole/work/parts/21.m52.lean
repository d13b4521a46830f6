def mnI (a list : Int32) (n : Nat) (k : Int32) (τ : MS) : Prop := ∃ j : Nat, k = nI (4 * j) ∧ j ≤ up list 16 ∧ up list 16 < j + n ∧ (m_fault τ < 0 → ∀ i : Nat, i < j → vp_in (a + nI (4 * i)) 262144)
theorem mnI_start (a list : Int32) (τ : MS) : mnI a list 17 0 τ := ⟨0, rfl, Nat.zero_le _, by have := up_le list 16; omega, fun _ i h => absurd h (Nat.not_lt_zero i)⟩
theorem mnI_0 {a list k : Int32} {τ : MS} : ¬ mnI a list 0 k τ := fun ⟨j, _, h1, h2, _⟩ => by omega
theorem mn_b (list : Int32) : 4 * y_Model_countOf list = nI (4 * up list 16) := by
  rw [countOf_up, show (4 : Int32) = nI 4 from rfl, pk_mul]
theorem mn_lt {list : Int32} {j : Nat} (hj : j ≤ up list 16) (hc : ¬ 4 * y_Model_countOf list ≤ nI (4 * j)) : j < up list 16 := by
  rcases Nat.lt_or_ge j (up list 16) with q | q
  · exact q
  · have := up_le list 16
    exact absurd (by rw [mn_b]; exact nI_le (by omega) (by omega)) hc
theorem mnI_f {a list k : Int32} {n : Nat} {τ τ' : MS} (h : mnI a list (n + 1) k τ) (hc : ¬ 4 * y_Model_countOf list ≤ k) (hf : ¬ m_fault τ' < 0) : mnI a list n (k + 4) τ' := by
  obtain ⟨j, rfl, h1, h2, h3⟩ := h
  have hj := mn_lt h1 hc
  refine ⟨j + 1, ?_, by omega, by omega, fun q => absurd q hf⟩
  rw [show (4 : Int32) = nI 4 from rfl, nI_add]
  congr 1
theorem mnI_t {a list k : Int32} {n : Nat} {τ τ' : MS} (h : mnI a list (n + 1) k τ) (hc : ¬ 4 * y_Model_countOf list ≤ k) (hth : y_Model_isThere (a + k) = true) (hf : m_fault τ' = m_fault τ) : mnI a list n (k + 4) τ' := by
  obtain ⟨j, rfl, h1, h2, h3⟩ := h
  have hj := mn_lt h1 hc
  refine ⟨j + 1, ?_, by omega, by omega, fun q i hi => ?_⟩
  · rw [show (4 : Int32) = nI 4 from rfl, nI_add]
    congr 1
  · rw [hf] at q
    rcases (show i < j ∨ i = j by omega) with z | rfl
    · exact h3 q i z
    · exact th_in hth
theorem mnI_nth {a list k : Int32} {n : Nat} {τ : MS} (h : mnI a list (n + 1) k τ) (hc : ¬ 4 * y_Model_countOf list ≤ k) : nthP list (k / 4) := by
  obtain ⟨j, rfl, h1, h2, h3⟩ := h
  have hj := mn_lt h1 hc
  have := up_le list 16
  refine ⟨j, ?_, hj⟩
  rw [show (4 : Int32) = nI 4 from rfl, pk_div (by omega) (by decide) (by decide)]
  congr 1
  omega
theorem mnI_e {a list k : Int32} {n : Nat} {τ : MS} (h : mnI a list n k τ) (hc : 4 * y_Model_countOf list ≤ k) : m_fault τ < 0 → ldP a list := by
  obtain ⟨j, rfl, h1, h2, h3⟩ := h
  intro q i hi
  refine h3 q i ?_
  have := up_le list 16
  rw [mn_b] at hc
  have h9 := (nI_leI (by omega) (by omega)).mp hc
  omega
def y_Model_many_230 (σ : MS) (v0 : Bool) (v1 : Int32) (v2 : Int32) (v3 : Bool) (v4 : Bool) (v5 : Bool) (v6 : Bool) (k0_63 : Int32) (k0_89 : Bool) (k0_110 : Int32) (τ_230 : MS) : MS := (if v0 = true then y_Model_loadAll τ_230 (k0_63 &&& (-4)) v2 k0_110 k0_89 else τ_230)
def y_Model_many_227 (σ : MS) (v0 : Bool) (v1 : Int32) (v2 : Int32) (v3 : Bool) (v4 : Bool) (v5 : Bool) (v6 : Bool) (k0_63 : Int32) (k0_89 : Bool) (k0_110 : Int32) (τ_122 : MS) (k0_227 : Int32) : MS := y_Model_many_230 σ v0 v1 v2 v3 v4 v5 v6 k0_63 k0_89 k0_110 (y_Model_put τ_122 v1 k0_227)
def y_Model_many_188 (σ : MS) (v0 : Bool) (v1 : Int32) (v2 : Int32) (v3 : Bool) (v4 : Bool) (v5 : Bool) (v6 : Bool) (k0_63 : Int32) (k0_89 : Bool) (k0_110 : Int32) (τ_122 : MS) : MS := (if (m_fault τ_122) < 0 then (if v5 = true then (if v1 = 15 then y_Model_many_230 σ v0 v1 v2 v3 v4 v5 v6 k0_63 k0_89 k0_110 τ_122 else (if v3 = true then y_Model_many_227 σ v0 v1 v2 v3 v4 v5 v6 k0_63 k0_89 k0_110 τ_122 ((y_Model_value σ v1) + (4 * (y_Model_countOf v2))) else y_Model_many_227 σ v0 v1 v2 v3 v4 v5 v6 k0_63 k0_89 k0_110 τ_122 ((y_Model_value σ v1) - (4 * (y_Model_countOf v2))))) else y_Model_many_230 σ v0 v1 v2 v3 v4 v5 v6 k0_63 k0_89 k0_110 τ_122) else τ_122)
def y_Model_many_122 (σ : MS) (v0 : Bool) (v1 : Int32) (v2 : Int32) (v3 : Bool) (v4 : Bool) (v5 : Bool) (v6 : Bool) : Nat → Int32 → Bool → Int32 → Int32 → MS → MS
  | 0, _, _, _, _, _ => σ
  | n + 1, k0_63, k0_89, k0_110, n13_122, τ_122 => (if (4 * (y_Model_countOf v2)) ≤ n13_122 then y_Model_many_188 σ v0 v1 v2 v3 v4 v5 v6 k0_63 k0_89 k0_110 τ_122 else (if 0 ≤ (m_fault τ_122) then y_Model_many_188 σ v0 v1 v2 v3 v4 v5 v6 k0_63 k0_89 k0_110 τ_122 else (if (y_Model_isThere ((k0_63 &&& (-4)) + n13_122)) = true then (if v0 = true then y_Model_many_122 σ v0 v1 v2 v3 v4 v5 v6 n k0_63 k0_89 k0_110 (n13_122 + 4) τ_122 else y_Model_many_122 σ v0 v1 v2 v3 v4 v5 v6 n k0_63 k0_89 k0_110 (n13_122 + 4) (t_memory τ_122 (upd (m_memory τ_122) (((k0_63 &&& (-4)) + n13_122) / 4).toNatClampNeg (y_Model_nth τ_122 v2 (n13_122 / 4) k0_110)))) else y_Model_many_122 σ v0 v1 v2 v3 v4 v5 v6 n k0_63 k0_89 k0_110 (n13_122 + 4) (t_fault τ_122 3))))
def y_Model_many_110 (σ : MS) (v0 : Bool) (v1 : Int32) (v2 : Int32) (v3 : Bool) (v4 : Bool) (v5 : Bool) (v6 : Bool) (k0_63 : Int32) (k0_89 : Bool) (k0_110 : Int32) : MS := y_Model_many_122 σ v0 v1 v2 v3 v4 v5 v6 17 k0_63 k0_89 k0_110 0 σ
def y_Model_many_106 (σ : MS) (v0 : Bool) (v1 : Int32) (v2 : Int32) (v3 : Bool) (v4 : Bool) (v5 : Bool) (v6 : Bool) (k0_63 : Int32) (k0_89 : Bool) : MS := y_Model_many_110 σ v0 v1 v2 v3 v4 v5 v6 k0_63 k0_89 (y_Model_mode σ)
def y_Model_many_89 (σ : MS) (v0 : Bool) (v1 : Int32) (v2 : Int32) (v3 : Bool) (v4 : Bool) (v5 : Bool) (v6 : Bool) (k0_63 : Int32) (k0_89 : Bool) : MS := (if v6 = true then (if k0_89 = true then y_Model_many_106 σ v0 v1 v2 v3 v4 v5 v6 k0_63 k0_89 else y_Model_many_110 σ v0 v1 v2 v3 v4 v5 v6 k0_63 k0_89 16) else y_Model_many_106 σ v0 v1 v2 v3 v4 v5 v6 k0_63 k0_89)
def y_Model_many_88 (σ : MS) (v0 : Bool) (v1 : Int32) (v2 : Int32) (v3 : Bool) (v4 : Bool) (v5 : Bool) (v6 : Bool) (k0_63 : Int32) : MS := y_Model_many_89 σ v0 v1 v2 v3 v4 v5 v6 k0_63 false
def y_Model_many_63 (σ : MS) (v0 : Bool) (v1 : Int32) (v2 : Int32) (v3 : Bool) (v4 : Bool) (v5 : Bool) (v6 : Bool) (k0_63 : Int32) : MS := (if v0 = true then (if v6 = true then (if ((v2 >>> ((15 : Int32) &&& 31)) &&& 1) = 1 then y_Model_many_89 σ v0 v1 v2 v3 v4 v5 v6 k0_63 true else y_Model_many_88 σ v0 v1 v2 v3 v4 v5 v6 k0_63) else y_Model_many_88 σ v0 v1 v2 v3 v4 v5 v6 k0_63) else y_Model_many_88 σ v0 v1 v2 v3 v4 v5 v6 k0_63)
def y_Model_many (σ : MS) (v0 : Bool) (v1 : Int32) (v2 : Int32) (v3 : Bool) (v4 : Bool) (v5 : Bool) (v6 : Bool) : MS := (if (4 * (y_Model_countOf v2)) = 0 then σ else (if v3 = true then (if v4 = true then y_Model_many_63 σ v0 v1 v2 v3 v4 v5 v6 ((y_Model_value σ v1) + 4) else y_Model_many_63 σ v0 v1 v2 v3 v4 v5 v6 (y_Model_value σ v1)) else (if v4 = true then y_Model_many_63 σ v0 v1 v2 v3 v4 v5 v6 ((y_Model_value σ v1) - (4 * (y_Model_countOf v2))) else y_Model_many_63 σ v0 v1 v2 v3 v4 v5 v6 (((y_Model_value σ v1) - (4 * (y_Model_countOf v2))) + 4))))
set_option maxRecDepth 20000 in
set_option maxHeartbeats 4000000 in
theorem cy_Model_many (l : Launch) (G : KG) (σ : MS) (v0 : Bool) (v1 : Int32) (v2 : Int32) (v3 : Bool) (v4 : Bool) (v5 : Bool) (v6 : Bool) (hv1 : vp_in v1 16) : KV l yX11_many (Cond.code yX11_many cX11_many 14 none :: lw_all) (kr 5) (gD G) vwCl (gT G) (mZ G) (mW G) [.ref (gA G 20), .int (b01 v0), .int v1, .int v2, .int (b01 v3), .int (b01 v4), .int (b01 v5), .int (b01 v6)] σ (y_Model_many σ v0 v1 v2 v3 v4 v5 v6) := by
  refine kc_in_v (q := y_Model_many σ v0 v1 v2 v3 v4 v5 v6) (by decide) rfl (Nat.le_of_ble_eq_true rfl) ?_
  intro p e s m args below meth c A Q ls hx hb hml hown hts hK hP hD hA hS hZ hl hret
  have hts := fun w h => hts w (List.mem_cons_of_mem _ h)
  have hl : lv_has ls 14 [(0, .ref (gA G 20)), (1, .int (b01 v0)), (2, .int v1), (3, .int v2), (4, .int (b01 v3)), (5, .int (b01 v4)), (6, .int (b01 v5)), (7, .int (b01 v6))] := hl
  have hf : y_Model_many σ v0 v1 v2 v3 v4 v5 v6 = y_Model_many σ v0 v1 v2 v3 v4 v5 v6 := rfl
  have J230 : ∀ (k0_63 : Int32) (k0_89 : Bool) (k0_110 : Int32) (τ_230 : MS) (hld : ldP (k0_63 &&& (-4)) v2) (H : Heap) (locs : List Loc) (ls : Array Slot), va_P (gD G) vwCl (mW G (τ_230)) H → va_D A (mW G (τ_230)) → va_S A s.heap H locs → lv_has ls 14 [(0, .ref (gA G 20)), (1, .int (b01 v0)), (3, .int v2), (10, .int (k0_63 &&& (-4))), (11, .int (b01 k0_89)), (12, .int k0_110)] → y_Model_many σ v0 v1 v2 v3 v4 v5 v6 = y_Model_many_230 σ v0 v1 v2 v3 v4 v5 v6 k0_63 k0_89 k0_110 τ_230 → W p l e (kr 5) s m args below meth c H locs 0 0 Q (F0 m 230 ls []) := by
    intro k0_63 k0_89 k0_110 τ_230 hld H locs ls hP hD hS hl hf
    refine lv_iload_n hx hb dX11_many_230 rfl (lv_at hl 1 rfl) ?_
    refine kz_eq (tgt := 245) hx hb dX11_many_231 (by decide) (fun h_19 => ?_) (fun h_19 => ?_)
    · have hf := hf.trans (if_neg h_19)
      exact hret τ_230 _ _ _ _ hf hP hD hS dX11_many_245
    · have hf := hf.trans (if_pos h_19)
      refine lv_aload_n hx hb dX11_many_234 rfl (lv_at hl 0 rfl) ?_
      refine lv_iload hx hb dX11_many_235 (lv_at hl 3 rfl) ?_
      refine lv_iload_n hx hb dX11_many_237 rfl (lv_at hl 2 rfl) ?_
      refine lv_iload hx hb dX11_many_238 (lv_at hl 5 rfl) ?_
      refine lv_iload hx hb dX11_many_240 (lv_at hl 4 rfl) ?_
      refine kc_Vv (rest := []) (cy_Model_loadAll l G τ_230 (k0_63 &&& (-4)) v2 k0_110 k0_89 hld) ⟨hx, hb, hml, hown, hts⟩ (cwV 4 hts (gi_V kw_878 kw_879 kw_880 kw_5 kw_881) rfl rfl rfl ⟨rfl, mdX11_loadAll⟩ ⟨by decide, by decide⟩) (va_recv hK hP (ci := 9) (q0 := 0) rfl rfl) mZ_ok hK hP hD hS hA hZ rfl hl.1 rfl (Nat.le_of_ble_eq_true rfl) dX11_many_242 ⟨Nat.zero_le _, Nat.zero_le _⟩ (fun H locs hP hD hS => ?_)
      exact hret (y_Model_loadAll τ_230 (k0_63 &&& (-4)) v2 k0_110 k0_89) _ _ _ _ hf hP hD hS dX11_many_245
  have J227 : ∀ (k0_63 : Int32) (k0_89 : Bool) (k0_110 : Int32) (τ_122 : MS) (k0_227 : Int32) (hld : ldP (k0_63 &&& (-4)) v2) (H : Heap) (locs : List Loc) (ls : Array Slot), va_P (gD G) vwCl (mW G (τ_122)) H → va_D A (mW G (τ_122)) → va_S A s.heap H locs → lv_has ls 14 [(0, .ref (gA G 20)), (1, .int (b01 v0)), (3, .int v2), (10, .int (k0_63 &&& (-4))), (11, .int (b01 k0_89)), (12, .int k0_110)] → y_Model_many σ v0 v1 v2 v3 v4 v5 v6 = y_Model_many_227 σ v0 v1 v2 v3 v4 v5 v6 k0_63 k0_89 k0_110 τ_122 k0_227 → W p l e (kr 5) s m args below meth c H locs 0 0 Q (F0 m 227 ls [.int k0_227, .int v1, .ref (gA G 20)]) := by
    intro k0_63 k0_89 k0_110 τ_122 k0_227 hld H locs ls hP hD hS hl hf
    refine kc_Vv (rest := []) (cy_Model_put l G τ_122 v1 k0_227 hv1) ⟨hx, hb, hml, hown, hts⟩ (cwV 2 hts (gi_V kw_806 kw_807 kw_808 kw_5 kw_809) rfl rfl rfl ⟨rfl, mdX11_put⟩ ⟨by decide, by decide⟩) (va_recv hK hP (ci := 9) (q0 := 0) rfl rfl) mZ_ok hK hP hD hS hA hZ rfl hl.1 rfl (Nat.le_of_ble_eq_true rfl) dX11_many_227 ⟨Nat.zero_le _, Nat.zero_le _⟩ (fun H locs hP hD hS => ?_)
    exact J230 k0_63 k0_89 k0_110 (y_Model_put τ_122 v1 k0_227) (by first | exact hj (by assumption) | assumption) _ _ _ hP hD hS (lv_sub hl [0, 1, 2, 3, 4, 5] rfl) hf
  have J188 : ∀ (k0_63 : Int32) (k0_89 : Bool) (k0_110 : Int32) (τ_122 : MS) (hj : m_fault τ_122 < 0 → ldP (k0_63 &&& (-4)) v2) (H : Heap) (locs : List Loc) (ls : Array Slot), va_P (gD G) vwCl (mW G (τ_122)) H → va_D A (mW G (τ_122)) → va_S A s.heap H locs → lv_has ls 14 [(0, .ref (gA G 20)), (1, .int (b01 v0)), (2, .int v1), (3, .int v2), (4, .int (b01 v3)), (6, .int (b01 v5)), (8, .int (4 * (y_Model_countOf v2))), (9, .int (y_Model_value σ v1)), (10, .int (k0_63 &&& (-4))), (11, .int (b01 k0_89)), (12, .int k0_110)] → y_Model_many σ v0 v1 v2 v3 v4 v5 v6 = y_Model_many_188 σ v0 v1 v2 v3 v4 v5 v6 k0_63 k0_89 k0_110 τ_122 → W p l e (kr 5) s m args below meth c H locs 0 0 Q (F0 m 188 ls []) := by
    intro k0_63 k0_89 k0_110 τ_122 hj H locs ls hP hD hS hl hf
    refine lv_aload_n hx hb dX11_many_188 rfl (lv_at hl 0 rfl) ?_
    refine va_get (D := gD G) (ci := 9) hx hb hts ku_11 hown hK hP 0 rfl rfl 10 (by decide) (hts _ kw_727) (fun _ h9 => h9) rfl dX11_many_189 ?_
    refine lv_if_lt (tgt := 196) hx hb dX11_many_192 (by decide) (fun h_20 => ?_) (fun h_20 => ?_)
    · have hf := hf.trans (if_pos h_20)
      refine lv_iload hx hb dX11_many_196 (lv_at hl 5 rfl) ?_
      refine kz_eq (tgt := 230) hx hb dX11_many_198 (by decide) (fun h_21 => ?_) (fun h_21 => ?_)
      · have hf := hf.trans (if_neg h_21)
        exact J230 k0_63 k0_89 k0_110 τ_122 (by first | exact hj (by assumption) | assumption) _ _ _ hP hD hS (lv_sub hl [0, 1, 3, 8, 9, 10] rfl) hf
      · have hf := hf.trans (if_pos h_21)
        refine lv_iload_n hx hb dX11_many_201 rfl (lv_at hl 2 rfl) ?_
        refine lv_bipush (v := 15) hx hb dX11_many_202 (by decide) ?_
        refine lv_icmp_eq (tgt := 230) hx hb dX11_many_204 (by decide) (fun h_22 => ?_) (fun h_22 => ?_)
        · have hf := hf.trans (if_pos h_22)
          exact J230 k0_63 k0_89 k0_110 τ_122 (by first | exact hj (by assumption) | assumption) _ _ _ hP hD hS (lv_sub hl [0, 1, 3, 8, 9, 10] rfl) hf
        · have hf := hf.trans (if_neg h_22)
          refine lv_aload_n hx hb dX11_many_207 rfl (lv_at hl 0 rfl) ?_
          refine lv_iload_n hx hb dX11_many_208 rfl (lv_at hl 2 rfl) ?_
          refine lv_iload hx hb dX11_many_209 (lv_at hl 4 rfl) ?_
          refine kz_eq (tgt := 222) hx hb dX11_many_211 (by decide) (fun h_23 => ?_) (fun h_23 => ?_)
          · have hf := hf.trans (if_neg h_23)
            refine lv_iload hx hb dX11_many_222 (lv_at hl 7 rfl) ?_
            refine lv_iload hx hb dX11_many_224 (lv_at hl 6 rfl) ?_
            refine lv_isub hx hb dX11_many_226 ?_
            exact J227 k0_63 k0_89 k0_110 τ_122 ((y_Model_value σ v1) - (4 * (y_Model_countOf v2))) (by first | exact hj (by assumption) | assumption) _ _ _ hP hD hS (lv_sub hl [0, 1, 3, 8, 9, 10] rfl) hf
          · have hf := hf.trans (if_pos h_23)
            refine lv_iload hx hb dX11_many_214 (lv_at hl 7 rfl) ?_
            refine lv_iload hx hb dX11_many_216 (lv_at hl 6 rfl) ?_
            refine lv_iadd hx hb dX11_many_218 ?_
            refine lv_goto (tgt := 227) hx hb dX11_many_219 (by decide) ?_
            exact J227 k0_63 k0_89 k0_110 τ_122 ((y_Model_value σ v1) + (4 * (y_Model_countOf v2))) (by first | exact hj (by assumption) | assumption) _ _ _ hP hD hS (lv_sub hl [0, 1, 3, 8, 9, 10] rfl) hf
    · have hf := hf.trans (if_neg h_20)
      exact hret τ_122 _ _ _ _ hf hP hD hS dX11_many_195
  have J122 : ∀ (n : Nat), ∀ (k0_63 : Int32) (k0_89 : Bool) (k0_110 : Int32) (n13_122 : Int32) (τ_122 : MS) (H : Heap) (locs : List Loc) (ls : Array Slot), va_P (gD G) vwCl (mW G (τ_122)) H → va_D A (mW G (τ_122)) → va_S A s.heap H locs → lv_has ls 14 [(0, .ref (gA G 20)), (1, .int (b01 v0)), (2, .int v1), (3, .int v2), (4, .int (b01 v3)), (6, .int (b01 v5)), (8, .int (4 * (y_Model_countOf v2))), (9, .int (y_Model_value σ v1)), (10, .int (k0_63 &&& (-4))), (11, .int (b01 k0_89)), (12, .int k0_110), (13, .int n13_122)] → y_Model_many σ v0 v1 v2 v3 v4 v5 v6 = y_Model_many_122 σ v0 v1 v2 v3 v4 v5 v6 n k0_63 k0_89 k0_110 n13_122 τ_122 → mnI (k0_63 &&& (-4)) v2 n n13_122 τ_122 → W p l e (kr 5) s m args below meth c H locs 0 0 Q (F0 m 122 ls []) := by
    intro n
    induction n with
    | zero =>
      intro k0_63 k0_89 k0_110 n13_122 τ_122 H locs ls hP hD hS hl hf hinv
      exact absurd hinv mnI_0
    | succ n ih =>
      intro k0_63 k0_89 k0_110 n13_122 τ_122 H locs ls hP hD hS hl hf hinv
      refine lv_iload hx hb dX11_many_122 (lv_at hl 11 rfl) ?_
      refine lv_iload hx hb dX11_many_124 (lv_at hl 6 rfl) ?_
      refine lv_icmp_ge (tgt := 188) hx hb dX11_many_126 (by decide) (fun h_24 => ?_) (fun h_24 => ?_)
      · have hf := hf.trans (if_pos h_24)
        exact J188 k0_63 k0_89 k0_110 τ_122 (by first | exact mnI_e hinv (by assumption) | exact (fun z => absurd z (Int32.not_lt.mpr (by assumption)))) _ _ _ hP hD hS (lv_sub hl [0, 1, 2, 3, 4, 5, 6, 7, 8, 9, 10] rfl) hf
      · have hf := hf.trans (if_neg h_24)
        refine lv_aload_n hx hb dX11_many_129 rfl (lv_at hl 0 rfl) ?_
        refine va_get (D := gD G) (ci := 9) hx hb hts ku_11 hown hK hP 0 rfl rfl 10 (by decide) (hts _ kw_727) (fun _ h9 => h9) rfl dX11_many_130 ?_
        refine lv_if_ge (tgt := 188) hx hb dX11_many_133 (by decide) (fun h_25 => ?_) (fun h_25 => ?_)
        · have hf := hf.trans (if_pos h_25)
          exact J188 k0_63 k0_89 k0_110 τ_122 (by first | exact mnI_e hinv (by assumption) | exact (fun z => absurd z (Int32.not_lt.mpr (by assumption)))) _ _ _ hP hD hS (lv_sub hl [0, 1, 2, 3, 4, 5, 6, 7, 8, 9, 10] rfl) hf
        · have hf := hf.trans (if_neg h_25)
          refine lv_iload hx hb dX11_many_136 (lv_at hl 8 rfl) ?_
          refine lv_iload hx hb dX11_many_138 (lv_at hl 11 rfl) ?_
          refine lv_iadd hx hb dX11_many_140 ?_
          refine kp_Si (rest := []) (cy_Model_isThere l ((k0_63 &&& (-4)) + n13_122)) ⟨hx, hb, hml, hown, hts⟩ (va_cwS 1 hts (gi_S kw_737 kw_738 kw_5 kw_739) rfl rfl rfl mdX11_isThere ⟨by decide, by decide⟩) rfl hl.1 rfl (Nat.le_of_ble_eq_true rfl) dX11_many_141 ⟨Nat.zero_le _, Nat.zero_le _⟩ ?_
          refine kz_ne (tgt := 155) hx hb dX11_many_144 (by decide) (fun h_26 => ?_) (fun h_26 => ?_)
          · have hf := hf.trans (if_pos h_26)
            refine lv_iload_n hx hb dX11_many_155 rfl (lv_at hl 1 rfl) ?_
            refine kz_ne (tgt := 182) hx hb dX11_many_156 (by decide) (fun h_27 => ?_) (fun h_27 => ?_)
            · have hf := hf.trans (if_pos h_27)
              refine lv_iinc (v := n13_122 + 4) (lv' := [(13, .int (n13_122 + 4)), (0, .ref (gA G 20)), (1, .int (b01 v0)), (2, .int v1), (3, .int v2), (4, .int (b01 v3)), (6, .int (b01 v5)), (8, .int (4 * (y_Model_countOf v2))), (9, .int (y_Model_value σ v1)), (10, .int (k0_63 &&& (-4))), (11, .int (b01 k0_89)), (12, .int k0_110)]) hx hb dX11_many_182 hl (k := 11) rfl rfl (by decide) rfl (fun ls hl => ?_)
              refine lv_goto (tgt := 122) hx hb dX11_many_185 (by decide) ?_
              exact ih k0_63 k0_89 k0_110 (n13_122 + 4) τ_122 _ _ _ hP hD hS (lv_sub hl [1, 2, 3, 4, 5, 6, 7, 8, 9, 10, 11, 0] rfl) hf (by first | exact mnI_t hinv (by assumption) (by assumption) rfl | exact mnI_f hinv (by assumption) (show ¬ fixF 3 < 0 by decide))
            · have hf := hf.trans (if_neg h_27)
              refine lv_aload_n hx hb dX11_many_159 rfl (lv_at hl 0 rfl) ?_
              refine va_get (D := gD G) (ci := 9) hx hb hts ku_11 hown hK hP 0 rfl rfl 1 (by decide) (hts _ kw_106) (fun _ h9 => h9) rfl dX11_many_160 ?_
              refine lv_iload hx hb dX11_many_163 (lv_at hl 8 rfl) ?_
              refine lv_iload hx hb dX11_many_165 (lv_at hl 11 rfl) ?_
              refine lv_iadd hx hb dX11_many_167 ?_
              refine lv_iconst (v := 4) hx hb dX11_many_168 (by decide) ?_
              refine lv_idiv hx hb dX11_many_169 (by decide) ?_
              refine lv_aload_n hx hb dX11_many_170 rfl (lv_at hl 0 rfl) ?_
              refine lv_iload_n hx hb dX11_many_171 rfl (lv_at hl 3 rfl) ?_
              refine lv_iload hx hb dX11_many_172 (lv_at hl 11 rfl) ?_
              refine lv_iconst (v := 4) hx hb dX11_many_174 (by decide) ?_
              refine lv_idiv hx hb dX11_many_175 (by decide) ?_
              refine lv_iload hx hb dX11_many_176 (lv_at hl 10 rfl) ?_
              refine kc_Vr (rest := [.int (((k0_63 &&& (-4)) + n13_122) / 4), .ref (gA G 21)]) (cy_Model_nth l G τ_122 v2 (n13_122 / 4) k0_110 (mnI_nth hinv (by assumption))) ⟨hx, hb, hml, hown, hts⟩ (cwV 3 hts (gi_V kw_874 kw_875 kw_876 kw_5 kw_877) rfl rfl rfl ⟨rfl, mdX11_nth⟩ ⟨by decide, by decide⟩) (va_recv hK hP (ci := 9) (q0 := 0) rfl rfl) mZ_ok hK hP hD hS hA hZ rfl hl.1 rfl (Nat.le_of_ble_eq_true rfl) dX11_many_178 ⟨Nat.zero_le _, Nat.zero_le _⟩ (fun H locs hP hD hS => ?_)
              refine va_iast hx hb hK hP hD hS 1 0 rfl rfl (dv_in (th_in (by assumption))) dX11_many_181 (fun H locs hP hD hS => ?_)
              have hP := kP_eq (mWs_memory G τ_122 (upd (m_memory τ_122) (((k0_63 &&& (-4)) + n13_122) / 4).toNatClampNeg (y_Model_nth τ_122 v2 (n13_122 / 4) k0_110))) hP
              have hD := kD_eq (mWs_memory G τ_122 (upd (m_memory τ_122) (((k0_63 &&& (-4)) + n13_122) / 4).toNatClampNeg (y_Model_nth τ_122 v2 (n13_122 / 4) k0_110))) hD
              refine lv_iinc (v := n13_122 + 4) (lv' := [(13, .int (n13_122 + 4)), (0, .ref (gA G 20)), (1, .int (b01 v0)), (2, .int v1), (3, .int v2), (4, .int (b01 v3)), (6, .int (b01 v5)), (8, .int (4 * (y_Model_countOf v2))), (9, .int (y_Model_value σ v1)), (10, .int (k0_63 &&& (-4))), (11, .int (b01 k0_89)), (12, .int k0_110)]) hx hb dX11_many_182 hl (k := 11) rfl rfl (by decide) rfl (fun ls hl => ?_)
              refine lv_goto (tgt := 122) hx hb dX11_many_185 (by decide) ?_
              exact ih k0_63 k0_89 k0_110 (n13_122 + 4) (t_memory τ_122 (upd (m_memory τ_122) (((k0_63 &&& (-4)) + n13_122) / 4).toNatClampNeg (y_Model_nth τ_122 v2 (n13_122 / 4) k0_110))) _ _ _ hP hD hS (lv_sub hl [1, 2, 3, 4, 5, 6, 7, 8, 9, 10, 11, 0] rfl) hf (by first | exact mnI_t hinv (by assumption) (by assumption) rfl | exact mnI_f hinv (by assumption) (show ¬ fixF 3 < 0 by decide))
          · have hf := hf.trans (if_neg h_26)
            refine lv_aload_n hx hb dX11_many_147 rfl (lv_at hl 0 rfl) ?_
            refine lv_iconst (v := 3) hx hb dX11_many_148 (by decide) ?_
            refine kc_top (fixF_c (by decide)) ?_
            refine va_put (D := gD G) (ci := 9) (v := .int (fixF 3)) (ty := .int) hx hb hts ku_11 tyX11 tyX11_ok nmX11 hown hK hP hD hS 0 rfl rfl 10 (by decide) (hts _ kw_727) (fun _ h9 => h9) rfl (tyX11_ok 10 (by decide)) rfl rfl (Nat.le_of_ble_eq_true rfl) dX11_many_149 (fun H locs hP hD hS => ?_)
            have hP := kP_eq (mWs_fault G τ_122 3) hP
            have hD := kD_eq (mWs_fault G τ_122 3) hD
            refine lv_goto (tgt := 182) hx hb dX11_many_152 (by decide) ?_
            refine lv_iinc (v := n13_122 + 4) (lv' := [(13, .int (n13_122 + 4)), (0, .ref (gA G 20)), (1, .int (b01 v0)), (2, .int v1), (3, .int v2), (4, .int (b01 v3)), (6, .int (b01 v5)), (8, .int (4 * (y_Model_countOf v2))), (9, .int (y_Model_value σ v1)), (10, .int (k0_63 &&& (-4))), (11, .int (b01 k0_89)), (12, .int k0_110)]) hx hb dX11_many_182 hl (k := 11) rfl rfl (by decide) rfl (fun ls hl => ?_)
            refine lv_goto (tgt := 122) hx hb dX11_many_185 (by decide) ?_
            exact ih k0_63 k0_89 k0_110 (n13_122 + 4) (t_fault τ_122 3) _ _ _ hP hD hS (lv_sub hl [1, 2, 3, 4, 5, 6, 7, 8, 9, 10, 11, 0] rfl) hf (by first | exact mnI_t hinv (by assumption) (by assumption) rfl | exact mnI_f hinv (by assumption) (show ¬ fixF 3 < 0 by decide))
  have J110 : ∀ (k0_63 : Int32) (k0_89 : Bool) (k0_110 : Int32) (H : Heap) (locs : List Loc) (ls : Array Slot), va_P (gD G) vwCl (mW G (σ)) H → va_D A (mW G (σ)) → va_S A s.heap H locs → lv_has ls 14 [(0, .ref (gA G 20)), (1, .int (b01 v0)), (2, .int v1), (3, .int v2), (4, .int (b01 v3)), (6, .int (b01 v5)), (8, .int (4 * (y_Model_countOf v2))), (9, .int (y_Model_value σ v1)), (10, .int k0_63), (11, .int (b01 k0_89))] → y_Model_many σ v0 v1 v2 v3 v4 v5 v6 = y_Model_many_110 σ v0 v1 v2 v3 v4 v5 v6 k0_63 k0_89 k0_110 → W p l e (kr 5) s m args below meth c H locs 0 0 Q (F0 m 110 ls [.int k0_110]) := by
    intro k0_63 k0_89 k0_110 H locs ls hP hD hS hl hf
    refine lv_istore (lv' := [(12, .int k0_110), (0, .ref (gA G 20)), (1, .int (b01 v0)), (2, .int v1), (3, .int v2), (4, .int (b01 v3)), (6, .int (b01 v5)), (8, .int (4 * (y_Model_countOf v2))), (9, .int (y_Model_value σ v1)), (10, .int k0_63), (11, .int (b01 k0_89))]) hx hb dX11_many_110 hl (by decide) rfl (fun ls hl => ?_)
    refine lv_iload hx hb dX11_many_112 (lv_at hl 9 rfl) ?_
    refine lv_bipush (v := (-4)) hx hb dX11_many_114 (by decide) ?_
    refine lv_iand hx hb dX11_many_116 ?_
    refine lv_istore (lv' := [(10, .int (k0_63 &&& (-4))), (12, .int k0_110), (0, .ref (gA G 20)), (1, .int (b01 v0)), (2, .int v1), (3, .int v2), (4, .int (b01 v3)), (6, .int (b01 v5)), (8, .int (4 * (y_Model_countOf v2))), (9, .int (y_Model_value σ v1)), (11, .int (b01 k0_89))]) hx hb dX11_many_117 hl (by decide) rfl (fun ls hl => ?_)
    refine lv_iconst (v := 0) hx hb dX11_many_119 (by decide) ?_
    refine lv_istore (lv' := [(13, .int 0), (10, .int (k0_63 &&& (-4))), (12, .int k0_110), (0, .ref (gA G 20)), (1, .int (b01 v0)), (2, .int v1), (3, .int v2), (4, .int (b01 v3)), (6, .int (b01 v5)), (8, .int (4 * (y_Model_countOf v2))), (9, .int (y_Model_value σ v1)), (11, .int (b01 k0_89))]) hx hb dX11_many_120 hl (by decide) rfl (fun ls hl => ?_)
    exact J122 17 k0_63 k0_89 k0_110 0 σ _ _ _ hP hD hS (lv_sub hl [3, 4, 5, 6, 7, 8, 9, 10, 1, 11, 2, 0] rfl) hf (mnI_start _ _ _)
  have J106 : ∀ (k0_63 : Int32) (k0_89 : Bool) (H : Heap) (locs : List Loc) (ls : Array Slot), va_P (gD G) vwCl (mW G (σ)) H → va_D A (mW G (σ)) → va_S A s.heap H locs → lv_has ls 14 [(0, .ref (gA G 20)), (1, .int (b01 v0)), (2, .int v1), (3, .int v2), (4, .int (b01 v3)), (6, .int (b01 v5)), (8, .int (4 * (y_Model_countOf v2))), (9, .int (y_Model_value σ v1)), (10, .int k0_63), (11, .int (b01 k0_89))] → y_Model_many σ v0 v1 v2 v3 v4 v5 v6 = y_Model_many_106 σ v0 v1 v2 v3 v4 v5 v6 k0_63 k0_89 → W p l e (kr 5) s m args below meth c H locs 0 0 Q (F0 m 106 ls []) := by
    intro k0_63 k0_89 H locs ls hP hD hS hl hf
    refine lv_aload_n hx hb dX11_many_106 rfl (lv_at hl 0 rfl) ?_
    refine kc_Vr (rest := []) (cy_Model_mode l G σ) ⟨hx, hb, hml, hown, hts⟩ (cwV 0 hts (gi_V kw_259 kw_260 kw_261 kw_5 kw_262) rfl rfl rfl ⟨rfl, mdX11_mode⟩ ⟨by decide, by decide⟩) (va_recv hK hP (ci := 9) (q0 := 0) rfl rfl) mZ_ok hK hP hD hS hA hZ rfl hl.1 rfl (Nat.le_of_ble_eq_true rfl) dX11_many_107 ⟨Nat.zero_le _, Nat.zero_le _⟩ (fun H locs hP hD hS => ?_)
    exact J110 k0_63 k0_89 (y_Model_mode σ) _ _ _ hP hD hS (lv_sub hl [0, 1, 2, 3, 4, 5, 6, 7, 8, 9] rfl) hf
  have J89 : ∀ (k0_63 : Int32) (k0_89 : Bool) (H : Heap) (locs : List Loc) (ls : Array Slot), va_P (gD G) vwCl (mW G (σ)) H → va_D A (mW G (σ)) → va_S A s.heap H locs → lv_has ls 14 [(0, .ref (gA G 20)), (1, .int (b01 v0)), (2, .int v1), (3, .int v2), (4, .int (b01 v3)), (6, .int (b01 v5)), (7, .int (b01 v6)), (8, .int (4 * (y_Model_countOf v2))), (9, .int (y_Model_value σ v1)), (10, .int k0_63)] → y_Model_many σ v0 v1 v2 v3 v4 v5 v6 = y_Model_many_89 σ v0 v1 v2 v3 v4 v5 v6 k0_63 k0_89 → W p l e (kr 5) s m args below meth c H locs 0 0 Q (F0 m 89 ls [.int (b01 k0_89)]) := by
    intro k0_63 k0_89 H locs ls hP hD hS hl hf
    refine lv_istore (lv' := [(11, .int (b01 k0_89)), (0, .ref (gA G 20)), (1, .int (b01 v0)), (2, .int v1), (3, .int v2), (4, .int (b01 v3)), (6, .int (b01 v5)), (7, .int (b01 v6)), (8, .int (4 * (y_Model_countOf v2))), (9, .int (y_Model_value σ v1)), (10, .int k0_63)]) hx hb dX11_many_89 hl (by decide) rfl (fun ls hl => ?_)
    refine lv_iload hx hb dX11_many_91 (lv_at hl 7 rfl) ?_
    refine kz_eq (tgt := 106) hx hb dX11_many_93 (by decide) (fun h_28 => ?_) (fun h_28 => ?_)
    · have hf := hf.trans (if_neg h_28)
      exact J106 k0_63 k0_89 _ _ _ hP hD hS (lv_sub hl [1, 2, 3, 4, 5, 6, 8, 9, 10, 0] rfl) hf
    · have hf := hf.trans (if_pos h_28)
      refine lv_iload hx hb dX11_many_96 (lv_at hl 0 rfl) ?_
      refine kz_ne (tgt := 106) hx hb dX11_many_98 (by decide) (fun h_29 => ?_) (fun h_29 => ?_)
      · have hf := hf.trans (if_pos h_29)
        exact J106 k0_63 k0_89 _ _ _ hP hD hS (lv_sub hl [1, 2, 3, 4, 5, 6, 8, 9, 10, 0] rfl) hf
      · have hf := hf.trans (if_neg h_29)
        refine lv_bipush (v := 16) hx hb dX11_many_101 (by decide) ?_
        refine lv_goto (tgt := 110) hx hb dX11_many_103 (by decide) ?_
        exact J110 k0_63 k0_89 16 _ _ _ hP hD hS (lv_sub hl [1, 2, 3, 4, 5, 6, 8, 9, 10, 0] rfl) hf
  have J88 : ∀ (k0_63 : Int32) (H : Heap) (locs : List Loc) (ls : Array Slot), va_P (gD G) vwCl (mW G (σ)) H → va_D A (mW G (σ)) → va_S A s.heap H locs → lv_has ls 14 [(0, .ref (gA G 20)), (1, .int (b01 v0)), (2, .int v1), (3, .int v2), (4, .int (b01 v3)), (6, .int (b01 v5)), (7, .int (b01 v6)), (8, .int (4 * (y_Model_countOf v2))), (9, .int (y_Model_value σ v1)), (10, .int k0_63)] → y_Model_many σ v0 v1 v2 v3 v4 v5 v6 = y_Model_many_88 σ v0 v1 v2 v3 v4 v5 v6 k0_63 → W p l e (kr 5) s m args below meth c H locs 0 0 Q (F0 m 88 ls []) := by
    intro k0_63 H locs ls hP hD hS hl hf
    refine lv_iconst (v := 0) hx hb dX11_many_88 (by decide) ?_
    exact J89 k0_63 false _ _ _ hP hD hS (lv_sub hl [0, 1, 2, 3, 4, 5, 6, 7, 8, 9] rfl) hf
  have J63 : ∀ (k0_63 : Int32) (H : Heap) (locs : List Loc) (ls : Array Slot), va_P (gD G) vwCl (mW G (σ)) H → va_D A (mW G (σ)) → va_S A s.heap H locs → lv_has ls 14 [(0, .ref (gA G 20)), (1, .int (b01 v0)), (2, .int v1), (3, .int v2), (4, .int (b01 v3)), (6, .int (b01 v5)), (7, .int (b01 v6)), (8, .int (4 * (y_Model_countOf v2))), (9, .int (y_Model_value σ v1))] → y_Model_many σ v0 v1 v2 v3 v4 v5 v6 = y_Model_many_63 σ v0 v1 v2 v3 v4 v5 v6 k0_63 → W p l e (kr 5) s m args below meth c H locs 0 0 Q (F0 m 63 ls [.int k0_63]) := by
    intro k0_63 H locs ls hP hD hS hl hf
    refine lv_istore (lv' := [(10, .int k0_63), (0, .ref (gA G 20)), (1, .int (b01 v0)), (2, .int v1), (3, .int v2), (4, .int (b01 v3)), (6, .int (b01 v5)), (7, .int (b01 v6)), (8, .int (4 * (y_Model_countOf v2))), (9, .int (y_Model_value σ v1))]) hx hb dX11_many_63 hl (by decide) rfl (fun ls hl => ?_)
    refine lv_iload_n hx hb dX11_many_65 rfl (lv_at hl 2 rfl) ?_
    refine kz_eq (tgt := 88) hx hb dX11_many_66 (by decide) (fun h_30 => ?_) (fun h_30 => ?_)
    · have hf := hf.trans (if_neg h_30)
      exact J88 k0_63 _ _ _ hP hD hS (lv_sub hl [1, 2, 3, 4, 5, 6, 7, 8, 9, 0] rfl) hf
    · have hf := hf.trans (if_pos h_30)
      refine lv_iload hx hb dX11_many_69 (lv_at hl 7 rfl) ?_
      refine kz_eq (tgt := 88) hx hb dX11_many_71 (by decide) (fun h_31 => ?_) (fun h_31 => ?_)
      · have hf := hf.trans (if_neg h_31)
        exact J88 k0_63 _ _ _ hP hD hS (lv_sub hl [1, 2, 3, 4, 5, 6, 7, 8, 9, 0] rfl) hf
      · have hf := hf.trans (if_pos h_31)
        refine lv_iload_n hx hb dX11_many_74 rfl (lv_at hl 4 rfl) ?_
        refine lv_bipush (v := 15) hx hb dX11_many_75 (by decide) ?_
        refine lv_ishr hx hb dX11_many_77 ?_
        refine lv_iconst (v := 1) hx hb dX11_many_78 (by decide) ?_
        refine lv_iand hx hb dX11_many_79 ?_
        refine lv_iconst (v := 1) hx hb dX11_many_80 (by decide) ?_
        refine lv_icmp_ne (tgt := 88) hx hb dX11_many_81 (by decide) (fun h_32 => ?_) (fun h_32 => ?_)
        · have hf := hf.trans (if_neg h_32)
          exact J88 k0_63 _ _ _ hP hD hS (lv_sub hl [1, 2, 3, 4, 5, 6, 7, 8, 9, 0] rfl) hf
        · have hf := hf.trans (if_pos h_32)
          refine lv_iconst (v := 1) hx hb dX11_many_84 (by decide) ?_
          refine lv_goto (tgt := 89) hx hb dX11_many_85 (by decide) ?_
          exact J89 k0_63 true _ _ _ hP hD hS (lv_sub hl [1, 2, 3, 4, 5, 6, 7, 8, 9, 0] rfl) hf
  refine lv_iconst (v := 4) hx hb dX11_many_0 (by decide) ?_
  refine lv_iload_n hx hb dX11_many_1 rfl (lv_at hl 3 rfl) ?_
  refine kp_Si (rest := [.int 4]) (cy_Model_countOf l v2) ⟨hx, hb, hml, hown, hts⟩ (va_cwS 1 hts (gi_S kw_871 kw_872 kw_5 kw_873) rfl rfl rfl mdX11_countOf ⟨by decide, by decide⟩) rfl hl.1 rfl (Nat.le_of_ble_eq_true rfl) dX11_many_2 ⟨Nat.zero_le _, Nat.zero_le _⟩ ?_
  refine lv_imul hx hb dX11_many_5 ?_
  refine lv_istore (lv' := [(8, .int (4 * (y_Model_countOf v2))), (0, .ref (gA G 20)), (1, .int (b01 v0)), (2, .int v1), (3, .int v2), (4, .int (b01 v3)), (5, .int (b01 v4)), (6, .int (b01 v5)), (7, .int (b01 v6))]) hx hb dX11_many_6 hl (by decide) rfl (fun ls hl => ?_)
  refine lv_iload hx hb dX11_many_8 (lv_at hl 0 rfl) ?_
  refine lv_if_ne (tgt := 14) hx hb dX11_many_10 (by decide) (fun h_33 => ?_) (fun h_33 => ?_)
  · have hf := hf.trans (if_neg h_33)
    refine lv_aload_n hx hb dX11_many_14 rfl (lv_at hl 1 rfl) ?_
    refine lv_iload_n hx hb dX11_many_15 rfl (lv_at hl 3 rfl) ?_
    refine kc_Vr (rest := []) (cy_Model_value l G σ v1 hv1) ⟨hx, hb, hml, hown, hts⟩ (cwV 1 hts (gi_V kw_826 kw_827 kw_828 kw_5 kw_829) rfl rfl rfl ⟨rfl, mdX11_value⟩ ⟨by decide, by decide⟩) (va_recv hK hP (ci := 9) (q0 := 0) rfl rfl) mZ_ok hK hP hD hS hA hZ rfl hl.1 rfl (Nat.le_of_ble_eq_true rfl) dX11_many_16 ⟨Nat.zero_le _, Nat.zero_le _⟩ (fun H locs hP hD hS => ?_)
    refine lv_istore (lv' := [(9, .int (y_Model_value σ v1)), (8, .int (4 * (y_Model_countOf v2))), (0, .ref (gA G 20)), (1, .int (b01 v0)), (2, .int v1), (3, .int v2), (4, .int (b01 v3)), (5, .int (b01 v4)), (6, .int (b01 v5)), (7, .int (b01 v6))]) hx hb dX11_many_19 hl (by decide) rfl (fun ls hl => ?_)
    refine lv_iload hx hb dX11_many_21 (lv_at hl 6 rfl) ?_
    refine kz_eq (tgt := 43) hx hb dX11_many_23 (by decide) (fun h_34 => ?_) (fun h_34 => ?_)
    · have hf := hf.trans (if_neg h_34)
      refine lv_iload hx hb dX11_many_43 (lv_at hl 7 rfl) ?_
      refine kz_eq (tgt := 56) hx hb dX11_many_45 (by decide) (fun h_35 => ?_) (fun h_35 => ?_)
      · have hf := hf.trans (if_neg h_35)
        refine lv_iload hx hb dX11_many_56 (lv_at hl 0 rfl) ?_
        refine lv_iload hx hb dX11_many_58 (lv_at hl 1 rfl) ?_
        refine lv_isub hx hb dX11_many_60 ?_
        refine lv_iconst (v := 4) hx hb dX11_many_61 (by decide) ?_
        refine lv_iadd hx hb dX11_many_62 ?_
        exact J63 (((y_Model_value σ v1) - (4 * (y_Model_countOf v2))) + 4) _ _ _ hP hD hS (lv_sub hl [2, 3, 4, 5, 6, 8, 9, 1, 0] rfl) hf
      · have hf := hf.trans (if_pos h_35)
        refine lv_iload hx hb dX11_many_48 (lv_at hl 0 rfl) ?_
        refine lv_iload hx hb dX11_many_50 (lv_at hl 1 rfl) ?_
        refine lv_isub hx hb dX11_many_52 ?_
        refine lv_goto (tgt := 63) hx hb dX11_many_53 (by decide) ?_
        exact J63 ((y_Model_value σ v1) - (4 * (y_Model_countOf v2))) _ _ _ hP hD hS (lv_sub hl [2, 3, 4, 5, 6, 8, 9, 1, 0] rfl) hf
    · have hf := hf.trans (if_pos h_34)
      refine lv_iload hx hb dX11_many_26 (lv_at hl 7 rfl) ?_
      refine kz_eq (tgt := 38) hx hb dX11_many_28 (by decide) (fun h_36 => ?_) (fun h_36 => ?_)
      · have hf := hf.trans (if_neg h_36)
        refine lv_iload hx hb dX11_many_38 (lv_at hl 0 rfl) ?_
        refine lv_goto (tgt := 63) hx hb dX11_many_40 (by decide) ?_
        exact J63 (y_Model_value σ v1) _ _ _ hP hD hS (lv_sub hl [2, 3, 4, 5, 6, 8, 9, 1, 0] rfl) hf
      · have hf := hf.trans (if_pos h_36)
        refine lv_iload hx hb dX11_many_31 (lv_at hl 0 rfl) ?_
        refine lv_iconst (v := 4) hx hb dX11_many_33 (by decide) ?_
        refine lv_iadd hx hb dX11_many_34 ?_
        refine lv_goto (tgt := 63) hx hb dX11_many_35 (by decide) ?_
        exact J63 ((y_Model_value σ v1) + 4) _ _ _ hP hD hS (lv_sub hl [2, 3, 4, 5, 6, 8, 9, 1, 0] rfl) hf
  · have hf := hf.trans (if_pos h_33)
    exact hret σ _ _ _ _ hf hP hD hS dX11_many_13
