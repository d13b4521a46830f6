def ldP (a list : Int32) : Prop := ∀ k : Nat, k < up list 16 → vp_in (a + nI (4 * k)) 262144
def ldI (a list : Int32) (n : Nat) (place i : Int32) : Prop := ∃ j q : Nat, i = nI j ∧ j ≤ 15 ∧ 15 < j + n ∧ place = a + nI (4 * q) ∧ q + up list (16 - j) = up list 16
theorem ldI_start (a list : Int32) : ldI a list 16 a 0 := ⟨0, 0, rfl, by omega, by omega, by rw [Nat.mul_zero, nI_0, Int32.add_zero], Nat.zero_add _⟩
theorem ldI_0 {a list p i : Int32} : ¬ ldI a list 0 p i := fun ⟨j, q, _, h1, h2, _⟩ => by omega
theorem bq_1 {list : Int32} {j : Nat} (h : (list >>> (nI j &&& 31)) &&& 1 = 1) : bq list j = 1 := if_pos h
theorem bq_0 {list : Int32} {j : Nat} (h : ¬ (list >>> (nI j &&& 31)) &&& 1 = 1) : bq list j = 0 := if_neg h
theorem ldI_s1 {a list p i : Int32} {n : Nat} (h : ldI a list (n + 1) p i) (hc : ¬ (15 : Int32) ≤ i) (hb : (list >>> (i &&& 31)) &&& 1 = 1) : ldI a list n (p + 4) (i + 1) := by
  obtain ⟨j, q, rfl, h1, h2, rfl, h4⟩ := h
  have hj : j < 15 := Nat.not_le.mp fun z => hc (nI_le z (by omega))
  have hu := up_s list (j := j) (by omega)
  rw [bq_1 hb] at hu
  refine ⟨j + 1, q + 1, nI_1 j, by omega, by omega, ?_, by omega⟩
  rw [Int32.add_assoc, show (4 : Int32) = nI 4 from rfl, nI_add]
  congr 2
theorem ldI_s0 {a list p i : Int32} {n : Nat} (h : ldI a list (n + 1) p i) (hc : ¬ (15 : Int32) ≤ i) (hb : ¬ (list >>> (i &&& 31)) &&& 1 = 1) : ldI a list n p (i + 1) := by
  obtain ⟨j, q, rfl, h1, h2, rfl, h4⟩ := h
  have hj : j < 15 := Nat.not_le.mp fun z => hc (nI_le z (by omega))
  have hu := up_s list (j := j) (by omega)
  rw [bq_0 hb] at hu
  exact ⟨j + 1, q, nI_1 j, by omega, by omega, rfl, by omega⟩
theorem ldI_in {a list p i : Int32} {n : Nat} (hp : ldP a list) (h : ldI a list n p i) (hb : (list >>> (i &&& 31)) &&& 1 = 1) : vp_in p 262144 := by
  obtain ⟨j, q, rfl, h1, h2, rfl, h4⟩ := h
  have hu := up_s list (j := j) (by omega)
  rw [bq_1 hb] at hu
  exact hp q (by omega)
theorem ldI_16 {a list p i : Int32} {n : Nat} (h : ldI a list n p i) : vp_in i 16 := by
  obtain ⟨j, q, rfl, h1, h2, rfl, h4⟩ := h
  exact nI_vp (by omega) (by decide)
theorem ldI_15 {a list p i : Int32} {n : Nat} (hp : ldP a list) (h : ldI a list n p i) (hc : (15 : Int32) ≤ i) (hb : (list >>> ((15 : Int32) &&& 31)) &&& 1 = 1) : vp_in p 262144 := by
  have h' := h
  obtain ⟨j, q, e, h1, h2, _, h4⟩ := h
  have hj : j = 15 := by
    rcases Nat.lt_or_ge j 15 with z | z
    · exact absurd (by rw [e] at hc; exact hc) (show ¬ nI 15 ≤ nI j from nI_ge z (by decide))
    · omega
  subst hj
  exact ldI_in hp h' (by rw [e]; exact hb)
def y_Model_loadAll_82 (σ : MS) (v0 : Int32) (v1 : Int32) (v2 : Int32) (v3 : Bool) (n5_6 : Int32) (τ_82 : MS) : MS := y_Model_put τ_82 15 (m_memory τ_82 (n5_6 / 4).toNatClampNeg)
def y_Model_loadAll_6 (σ : MS) (v0 : Int32) (v1 : Int32) (v2 : Int32) (v3 : Bool) : Nat → Int32 → Int32 → MS → MS
  | 0, _, _, _ => σ
  | n + 1, n5_6, n6_6, τ_6 => (if 15 ≤ n6_6 then (if ((v1 >>> ((15 : Int32) &&& 31)) &&& 1) = 1 then (if v3 = true then (if (y_Model_hasSaved τ_6) = true then y_Model_loadAll_82 σ v0 v1 v2 v3 n5_6 (y_Model_putStatus τ_6 (y_Model_kept τ_6)) else y_Model_loadAll_82 σ v0 v1 v2 v3 n5_6 τ_6) else y_Model_loadAll_82 σ v0 v1 v2 v3 n5_6 τ_6) else τ_6) else (if ((v1 >>> (n6_6 &&& 31)) &&& 1) = 1 then y_Model_loadAll_6 σ v0 v1 v2 v3 n (n5_6 + 4) (n6_6 + 1) (t_r τ_6 (upd (m_r τ_6) (y_Model_placeOf v2 n6_6).toNatClampNeg (m_memory τ_6 (n5_6 / 4).toNatClampNeg))) else y_Model_loadAll_6 σ v0 v1 v2 v3 n n5_6 (n6_6 + 1) τ_6))
def y_Model_loadAll (σ : MS) (v0 : Int32) (v1 : Int32) (v2 : Int32) (v3 : Bool) : MS := y_Model_loadAll_6 σ v0 v1 v2 v3 16 v0 0 σ
set_option maxRecDepth 20000 in
set_option maxHeartbeats 4000000 in
theorem cy_Model_loadAll (l : Launch) (G : KG) (σ : MS) (v0 : Int32) (v1 : Int32) (v2 : Int32) (v3 : Bool) (hq : ldP v0 v1) : KV l yX11_loadAll (Cond.code yX11_loadAll cX11_loadAll 7 none :: lw_all) (kr 3) (gD G) vwCl (gT G) (mZ G) (mW G) [.ref (gA G 20), .int v0, .int v1, .int v2, .int (b01 v3)] σ (y_Model_loadAll σ v0 v1 v2 v3) := by
  refine kc_in_v (q := y_Model_loadAll σ v0 v1 v2 v3) (by decide) rfl (Nat.le_of_ble_eq_true rfl) ?_
  intro p e s m args below meth c A Q ls hx hb hml hown hts hK hP hD hA hS hZ hl hret
  have hts := fun w h => hts w (List.mem_cons_of_mem _ h)
  have hl : lv_has ls 7 [(0, .ref (gA G 20)), (1, .int v0), (2, .int v1), (3, .int v2), (4, .int (b01 v3))] := hl
  have hf : y_Model_loadAll σ v0 v1 v2 v3 = y_Model_loadAll σ v0 v1 v2 v3 := rfl
  have J82 : ∀ (n5_6 : Int32) (τ_82 : MS) (hp5 : vp_in n5_6 262144) (H : Heap) (locs : List Loc) (ls : Array Slot), va_P (gD G) vwCl (mW G (τ_82)) H → va_D A (mW G (τ_82)) → va_S A s.heap H locs → lv_has ls 7 [(0, .ref (gA G 20)), (5, .int n5_6)] → y_Model_loadAll σ v0 v1 v2 v3 = y_Model_loadAll_82 σ v0 v1 v2 v3 n5_6 τ_82 → W p l e (kr 3) s m args below meth c H locs 0 0 Q (F0 m 82 ls []) := by
    intro n5_6 τ_82 hp5 H locs ls hP hD hS hl hf
    refine lv_aload_n hx hb dX11_loadAll_82 rfl (lv_at hl 0 rfl) ?_
    refine lv_bipush (v := 15) hx hb dX11_loadAll_83 (by decide) ?_
    refine lv_aload_n hx hb dX11_loadAll_85 rfl (lv_at hl 0 rfl) ?_
    refine va_get (D := gD G) (ci := 9) hx hb hts ku_11 hown hK hP 0 rfl rfl 1 (by decide) (hts _ kw_106) (fun _ h9 => h9) rfl dX11_loadAll_86 ?_
    refine lv_iload hx hb dX11_loadAll_89 (lv_at hl 1 rfl) ?_
    refine lv_iconst (v := 4) hx hb dX11_loadAll_91 (by decide) ?_
    refine lv_idiv hx hb dX11_loadAll_92 (by decide) ?_
    refine va_iald hx hb hK hP 1 0 rfl rfl (dv_in hp5) dX11_loadAll_93 ?_
    refine kc_Vv (rest := []) (cy_Model_put l G τ_82 15 (m_memory τ_82 (n5_6 / 4).toNatClampNeg) (by unfold vp_in; decide)) ⟨hx, hb, hml, hown, hts⟩ (cwV 2 hts (gi_V kw_806 kw_807 kw_808 kw_5 kw_809) rfl rfl rfl ⟨rfl, mdX11_put⟩ ⟨by decide, by decide⟩) (va_recv hK hP (ci := 9) (q0 := 0) rfl rfl) mZ_ok hK hP hD hS hA hZ rfl hl.1 rfl (Nat.le_of_ble_eq_true rfl) dX11_loadAll_94 ⟨Nat.zero_le _, Nat.zero_le _⟩ (fun H locs hP hD hS => ?_)
    exact hret (y_Model_put τ_82 15 (m_memory τ_82 (n5_6 / 4).toNatClampNeg)) _ _ _ _ hf hP hD hS dX11_loadAll_97
  have J6 : ∀ (n : Nat), ∀ (n5_6 : Int32) (n6_6 : Int32) (τ_6 : MS) (H : Heap) (locs : List Loc) (ls : Array Slot), va_P (gD G) vwCl (mW G (τ_6)) H → va_D A (mW G (τ_6)) → va_S A s.heap H locs → lv_has ls 7 [(0, .ref (gA G 20)), (2, .int v1), (3, .int v2), (4, .int (b01 v3)), (5, .int n5_6), (6, .int n6_6)] → y_Model_loadAll σ v0 v1 v2 v3 = y_Model_loadAll_6 σ v0 v1 v2 v3 n n5_6 n6_6 τ_6 → ldI v0 v1 n n5_6 n6_6 → W p l e (kr 3) s m args below meth c H locs 0 0 Q (F0 m 6 ls []) := by
    intro n
    induction n with
    | zero =>
      intro n5_6 n6_6 τ_6 H locs ls hP hD hS hl hf hinv
      exact absurd hinv ldI_0
    | succ n ih =>
      intro n5_6 n6_6 τ_6 H locs ls hP hD hS hl hf hinv
      refine lv_iload hx hb dX11_loadAll_6 (lv_at hl 5 rfl) ?_
      refine lv_bipush (v := 15) hx hb dX11_loadAll_8 (by decide) ?_
      refine lv_icmp_ge (tgt := 52) hx hb dX11_loadAll_10 (by decide) (fun h_6 => ?_) (fun h_6 => ?_)
      · have hf := hf.trans (if_pos h_6)
        refine lv_iload_n hx hb dX11_loadAll_52 rfl (lv_at hl 1 rfl) ?_
        refine lv_bipush (v := 15) hx hb dX11_loadAll_53 (by decide) ?_
        refine lv_ishr hx hb dX11_loadAll_55 ?_
        refine lv_iconst (v := 1) hx hb dX11_loadAll_56 (by decide) ?_
        refine lv_iand hx hb dX11_loadAll_57 ?_
        refine lv_iconst (v := 1) hx hb dX11_loadAll_58 (by decide) ?_
        refine lv_icmp_ne (tgt := 97) hx hb dX11_loadAll_59 (by decide) (fun h_7 => ?_) (fun h_7 => ?_)
        · have hf := hf.trans (if_neg h_7)
          exact hret τ_6 _ _ _ _ hf hP hD hS dX11_loadAll_97
        · have hf := hf.trans (if_pos h_7)
          refine lv_iload hx hb dX11_loadAll_62 (lv_at hl 3 rfl) ?_
          refine kz_eq (tgt := 82) hx hb dX11_loadAll_64 (by decide) (fun h_8 => ?_) (fun h_8 => ?_)
          · have hf := hf.trans (if_neg h_8)
            exact J82 n5_6 τ_6 (ldI_15 hq hinv (by assumption) (by assumption)) _ _ _ hP hD hS (lv_sub hl [0, 4] rfl) hf
          · have hf := hf.trans (if_pos h_8)
            refine lv_aload_n hx hb dX11_loadAll_67 rfl (lv_at hl 0 rfl) ?_
            refine kc_Vr (rest := []) (cy_Model_hasSaved l G τ_6) ⟨hx, hb, hml, hown, hts⟩ (cwV 0 hts (gi_V kw_882 kw_883 kw_884 kw_5 kw_885) rfl rfl rfl ⟨rfl, mdX11_hasSaved⟩ ⟨by decide, by decide⟩) (va_recv hK hP (ci := 9) (q0 := 0) rfl rfl) mZ_ok hK hP hD hS hA hZ rfl hl.1 rfl (Nat.le_of_ble_eq_true rfl) dX11_loadAll_68 ⟨Nat.zero_le _, Nat.zero_le _⟩ (fun H locs hP hD hS => ?_)
            refine kz_eq (tgt := 82) hx hb dX11_loadAll_71 (by decide) (fun h_9 => ?_) (fun h_9 => ?_)
            · have hf := hf.trans (if_neg h_9)
              exact J82 n5_6 τ_6 (ldI_15 hq hinv (by assumption) (by assumption)) _ _ _ hP hD hS (lv_sub hl [0, 4] rfl) hf
            · have hf := hf.trans (if_pos h_9)
              refine lv_aload_n hx hb dX11_loadAll_74 rfl (lv_at hl 0 rfl) ?_
              refine lv_aload_n hx hb dX11_loadAll_75 rfl (lv_at hl 0 rfl) ?_
              refine kc_Vr (rest := [.ref (gA G 20)]) (cy_Model_kept l G τ_6) ⟨hx, hb, hml, hown, hts⟩ (cwV 0 hts (gi_V kw_886 kw_887 kw_888 kw_5 kw_889) rfl rfl rfl ⟨rfl, mdX11_kept⟩ ⟨by decide, by decide⟩) (va_recv hK hP (ci := 9) (q0 := 0) rfl rfl) mZ_ok hK hP hD hS hA hZ rfl hl.1 rfl (Nat.le_of_ble_eq_true rfl) dX11_loadAll_76 ⟨Nat.zero_le _, Nat.zero_le _⟩ (fun H locs hP hD hS => ?_)
              refine kc_Vv (rest := []) (cy_Model_putStatus l G τ_6 (y_Model_kept τ_6)) ⟨hx, hb, hml, hown, hts⟩ (cwV 1 hts (gi_V kw_254 kw_255 kw_256 kw_5 kw_257) rfl rfl rfl ⟨rfl, mdX11_putStatus⟩ ⟨by decide, by decide⟩) (va_recv hK hP (ci := 9) (q0 := 0) rfl rfl) mZ_ok hK hP hD hS hA hZ rfl hl.1 rfl (Nat.le_of_ble_eq_true rfl) dX11_loadAll_79 ⟨Nat.zero_le _, Nat.zero_le _⟩ (fun H locs hP hD hS => ?_)
              exact J82 n5_6 (y_Model_putStatus τ_6 (y_Model_kept τ_6)) (ldI_15 hq hinv (by assumption) (by assumption)) _ _ _ hP hD hS (lv_sub hl [0, 4] rfl) hf
      · have hf := hf.trans (if_neg h_6)
        refine lv_iload_n hx hb dX11_loadAll_13 rfl (lv_at hl 1 rfl) ?_
        refine lv_iload hx hb dX11_loadAll_14 (lv_at hl 5 rfl) ?_
        refine lv_ishr hx hb dX11_loadAll_16 ?_
        refine lv_iconst (v := 1) hx hb dX11_loadAll_17 (by decide) ?_
        refine lv_iand hx hb dX11_loadAll_18 ?_
        refine lv_iconst (v := 1) hx hb dX11_loadAll_19 (by decide) ?_
        refine lv_icmp_ne (tgt := 46) hx hb dX11_loadAll_20 (by decide) (fun h_10 => ?_) (fun h_10 => ?_)
        · have hf := hf.trans (if_neg h_10)
          refine lv_iinc (v := n6_6 + 1) (lv' := [(6, .int (n6_6 + 1)), (0, .ref (gA G 20)), (2, .int v1), (3, .int v2), (4, .int (b01 v3)), (5, .int n5_6)]) hx hb dX11_loadAll_46 hl (k := 5) rfl rfl (by decide) rfl (fun ls hl => ?_)
          refine lv_goto (tgt := 6) hx hb dX11_loadAll_49 (by decide) ?_
          exact ih n5_6 (n6_6 + 1) τ_6 _ _ _ hP hD hS (lv_sub hl [1, 2, 3, 4, 5, 0] rfl) hf (by first | exact ldI_s1 hinv (by assumption) (by assumption) | exact ldI_s0 hinv (by assumption) (by assumption))
        · have hf := hf.trans (if_pos h_10)
          refine lv_aload_n hx hb dX11_loadAll_23 rfl (lv_at hl 0 rfl) ?_
          refine va_get (D := gD G) (ci := 9) hx hb hts ku_11 hown hK hP 0 rfl rfl 2 (by decide) (hts _ kw_107) (fun _ h9 => h9) rfl dX11_loadAll_24 ?_
          refine lv_iload_n hx hb dX11_loadAll_27 rfl (lv_at hl 2 rfl) ?_
          refine lv_iload hx hb dX11_loadAll_28 (lv_at hl 5 rfl) ?_
          refine kp_Si (rest := [.ref (gA G 22)]) (cy_Model_placeOf l v2 n6_6) ⟨hx, hb, hml, hown, hts⟩ (va_cwS 2 hts (gi_S kw_206 kw_207 kw_5 kw_208) rfl rfl rfl mdX11_placeOf ⟨by decide, by decide⟩) rfl hl.1 rfl (Nat.le_of_ble_eq_true rfl) dX11_loadAll_30 ⟨Nat.zero_le _, Nat.zero_le _⟩ ?_
          refine lv_aload_n hx hb dX11_loadAll_33 rfl (lv_at hl 0 rfl) ?_
          refine va_get (D := gD G) (ci := 9) hx hb hts ku_11 hown hK hP 0 rfl rfl 1 (by decide) (hts _ kw_106) (fun _ h9 => h9) rfl dX11_loadAll_34 ?_
          refine lv_iload hx hb dX11_loadAll_37 (lv_at hl 4 rfl) ?_
          refine lv_iconst (v := 4) hx hb dX11_loadAll_39 (by decide) ?_
          refine lv_idiv hx hb dX11_loadAll_40 (by decide) ?_
          refine va_iald hx hb hK hP 1 0 rfl rfl (dv_in (ldI_in hq hinv (by assumption))) dX11_loadAll_41 ?_
          refine va_iast hx hb hK hP hD hS 2 0 rfl rfl (place_in _ (ldI_16 hinv)) dX11_loadAll_42 (fun H locs hP hD hS => ?_)
          have hP := kP_eq (mWs_r G τ_6 (upd (m_r τ_6) (y_Model_placeOf v2 n6_6).toNatClampNeg (m_memory τ_6 (n5_6 / 4).toNatClampNeg))) hP
          have hD := kD_eq (mWs_r G τ_6 (upd (m_r τ_6) (y_Model_placeOf v2 n6_6).toNatClampNeg (m_memory τ_6 (n5_6 / 4).toNatClampNeg))) hD
          refine lv_iinc (v := n5_6 + 4) (lv' := [(5, .int (n5_6 + 4)), (0, .ref (gA G 20)), (2, .int v1), (3, .int v2), (4, .int (b01 v3)), (6, .int n6_6)]) hx hb dX11_loadAll_43 hl (k := 4) rfl rfl (by decide) rfl (fun ls hl => ?_)
          refine lv_iinc (v := n6_6 + 1) (lv' := [(6, .int (n6_6 + 1)), (5, .int (n5_6 + 4)), (0, .ref (gA G 20)), (2, .int v1), (3, .int v2), (4, .int (b01 v3))]) hx hb dX11_loadAll_46 hl (k := 5) rfl rfl (by decide) rfl (fun ls hl => ?_)
          refine lv_goto (tgt := 6) hx hb dX11_loadAll_49 (by decide) ?_
          exact ih (n5_6 + 4) (n6_6 + 1) (t_r τ_6 (upd (m_r τ_6) (y_Model_placeOf v2 n6_6).toNatClampNeg (m_memory τ_6 (n5_6 / 4).toNatClampNeg))) _ _ _ hP hD hS (lv_sub hl [2, 3, 4, 5, 1, 0] rfl) hf (by first | exact ldI_s1 hinv (by assumption) (by assumption) | exact ldI_s0 hinv (by assumption) (by assumption))
  refine lv_iload_n hx hb dX11_loadAll_0 rfl (lv_at hl 1 rfl) ?_
  refine lv_istore (lv' := [(5, .int v0), (0, .ref (gA G 20)), (1, .int v0), (2, .int v1), (3, .int v2), (4, .int (b01 v3))]) hx hb dX11_loadAll_1 hl (by decide) rfl (fun ls hl => ?_)
  refine lv_iconst (v := 0) hx hb dX11_loadAll_3 (by decide) ?_
  refine lv_istore (lv' := [(6, .int 0), (5, .int v0), (0, .ref (gA G 20)), (1, .int v0), (2, .int v1), (3, .int v2), (4, .int (b01 v3))]) hx hb dX11_loadAll_4 hl (by decide) rfl (fun ls hl => ?_)
  exact J6 16 v0 0 σ _ _ _ hP hD hS (lv_sub hl [2, 4, 5, 6, 1, 0] rfl) hf (ldI_start v0 v1)
