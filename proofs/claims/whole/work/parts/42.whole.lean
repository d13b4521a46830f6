def σ0 : CS := (fun _ => 0, fun _ => 0, fun _ => 0, fun _ => 0, 211, 0, 0, 0, 0, 3, false, false)
def τ0 : MS := (fun _ => 0, fun _ => 0, fun _ => 0, fun _ => 0, fun _ => false, 0, 211, 0, 0, 0, 0, false, false, false)
def o0 : Nat → Int64 := fun _ => 0
theorem RB_0 : RB σ0 τ0 := RB0 σ0 τ0 (fun _ => rfl) (fun _ => rfl) (fun _ => rfl) (fun _ => rfl) (fun _ => rfl) (fun _ => rfl) (fun _ => rfl) (fun _ => rfl) rfl rfl (by decide) rfl rfl rfl rfl (fun _ => rfl)
set_option maxRecDepth 20000 in
set_option maxHeartbeats 4000000 in
theorem lw_w0 (G : KG) : wLaw G (τ0, (o0, σ0)) = [(gA G 20, .inr (9, [.int 0, .ref (gA G 21), .ref (gA G 22), .ref (gA G 23), .int 211, .ref (gA G 24), .int 0, .ref (gA G 25), .int 0, .int 0, .int 0, .int 0, .int 0, .int 0])), (gA G 21, .inl (G.2.1.1, 65536, .inl (fun _ => 0))), (gA G 22, .inl (G.2.1.1, 31, .inl (fun _ => 0))), (gA G 23, .inl (G.2.1.1, 5, .inl (fun _ => 0))), (gA G 24, .inl (G.2.1.2.1, 2, .inl (fun _ => 0))), (gA G 25, .inl (G.2.1.1, 6, .inl (fun _ => 0))), (gA G 13, .inl (G.2.1.2.2, 1, .inr (.inl (fun _ => 0)))), (gA G 0, .inr (8, [.ref (gA G 1), .ref (gA G 3), .ref (gA G 6)])), (gA G 1, .inr (2, [.ref (gA G 2)])), (gA G 2, .inl (G.2.1.1, 65536, .inl (fun _ => 0))), (gA G 3, .inr (4, [.ref (gA G 4), .ref (gA G 5), .int 211, .int 3, .int 0])), (gA G 4, .inl (G.2.1.1, 31, .inl (fun _ => 0))), (gA G 5, .inl (G.2.1.1, 6, .inl (fun _ => 0))), (gA G 6, .inr (3, [.ref (gA G 1), .ref (gA G 3), .ref (gA G 7), .ref (gA G 8), .ref (gA G 9), .int 0, .int 0, .int 0])), (gA G 7, .inr (1, [.ref (gA G 3), .ref (gA G 10), .ref (gA G 11), .ref (gA G 12)])), (gA G 8, .inr (6, [.ref (gA G 3), .ref (gA G 10), .ref (gA G 11), .ref (gA G 12)])), (gA G 9, .inl (G.2.1.1, 6, .inl (fun _ => 0))), (gA G 10, .inr (5, [.int 0])), (gA G 11, .inr (0, [.ref (gA G 3), .int 0])), (gA G 12, .inr (7, [.ref (gA G 1), .ref (gA G 3)]))] := by
  have e1 : m_cpsr τ0 = 211 := by decide
  have e2 : m_fault τ0 = 0 := by decide
  have e3 : c_bank σ0 = 3 := by decide
  unfold wLaw lW mW oW cW
  dsimp only [List.cons_append, List.nil_append]
  rw [e1, e2, e3]
  rfl
set_option maxRecDepth 20000 in
set_option maxHeartbeats 4000000 in
theorem whole_start {p : Program} {e : Env} {s : State} {m : MethodId} {below : List Frame} {meth : Method} {c : Code} (l : Launch) (hl9 : l.stackTraces = false) {b L : Nat} {xs : Nat → Int32} (hL : L ≤ 2048) (C0 : lw_At p s m meth c b L xs) : W p l e room_1 s m #[Value.ref b] below meth c s.heap [] 0 0 (lw_Z below #[Value.ref b] s) (entryFrame m ([Value.ref b] : List Value).toArray 7) := by
  obtain ⟨hx, hb, hr, hml, hown, hts, hX, hbl, hlocks, hgv⟩ := id C0
  have hta : ∀ w ∈ lw_all, w.before #[Value.ref b] s = true := fun w h => hts w (List.mem_filter.mp h).1
  have hA : ∀ q : Nat, s.heap.size ≤ q → lA s q := fun _ h => h
  obtain ⟨D, T, S, hK0, hZ0⟩ := st_all hts hgv
  obtain ⟨G, eG⟩ : ∃ G : KG, G = (D, T, (fun _ => 0), S) := ⟨_, rfl⟩
  have hK : va_K (gD G) vwCl (gT G) s := by rw [eG]; exact hK0
  have hS : va_S (lA s) s.heap s.heap [] := va_S.rf
  have hP : va_P (gD G) vwCl [] s.heap := fun k q h => by simp at h
  have hD : va_D (lA s) [] := ⟨fun i j p q h => by simp at h, fun k q h => by simp at h⟩
  have hl := lv_entry ([.ref b]) (n := 7) (Nat.le_of_ble_eq_true rfl)
  rw [lg_entry_eq]
  generalize (lg_sl ([.ref b]) ++ List.replicate (7 - (lg_sl ([.ref b])).length) Slot.unset).toArray = ls at hl ⊢
  have hl : lv_has ls 7 [(0, .ref b)] := hl
  refine va_new (ci := 8) (fs := [.null, .null, .null]) (C := RX10) (T := TX10) (N := 3) hx hb hta ku_10 tyX10 tyX10_ok hown (hta _ kw_0) (hta _ kw_1) (hta _ kw_2) hK hP hD hS hA rfl (fun j hj => by rcases (show j = 0 ∨ j = 1 ∨ j = 2 by omega) with rfl | rfl | rfl <;> rfl) (Nat.le_of_ble_eq_true rfl) (Nat.le_of_ble_eq_true rfl) dL_law_0 (fun q0 H hP hD hS => ?_)
  have hP : va_P (gD G) vwCl [(q0, .inr (8, [.null, .null, .null]))] H := hP
  have hD : va_D (lA s) [(q0, .inr (8, [.null, .null, .null]))] := hD
  refine lv_dup hx hb dL_law_3 rfl ?_
  refine kn_I (wr := []) (w0 := [(q0, .inr (8, [.null, .null, .null]))]) (As := []) (rest := [.ref q0]) (cn_Top l G q0) ⟨hx, hb, hml, hown, hta⟩ (cwI 0 hta (lw_gc kw_9 lw_all_good) rfl rfl rfl (hta _ kw_2) (hta _ kw_7) (hta _ kw_8) rfl (by decide +kernel) ⟨by decide, by decide⟩) hK hP hD hS hA rfl hl.1 rfl (Nat.le_of_ble_eq_true rfl) dL_law_4 ⟨Nat.le_of_ble_eq_true rfl, Nat.le_of_ble_eq_true rfl⟩ (fun u H locs hu hP hD hS => ?_)
  obtain ⟨f0, f1, f2, f3, f4, f5, f6, f7, f8, f9, f10, f11, rfl⟩ := hu
  have hP : va_P (gD G) vwCl [(q0, .inr (8, [.ref f0, .ref f2, .ref f5])), (f0, .inr (2, [.ref f1])), (f1, .inl (G.2.1.1, 65536, .inl (fun _ => 0))), (f2, .inr (4, [.ref f3, .ref f4, .int 211, .int 3, .int 0])), (f3, .inl (G.2.1.1, 31, .inl (fun _ => 0))), (f4, .inl (G.2.1.1, 6, .inl (fun _ => 0))), (f5, .inr (3, [.ref f0, .ref f2, .ref f9, .ref f10, .ref f11, .int 0, .int 0, .int 0])), (f6, .inr (5, [.int 0])), (f7, .inr (0, [.ref f2, .int 0])), (f8, .inr (7, [.ref f0, .ref f2])), (f9, .inr (1, [.ref f2, .ref f6, .ref f7, .ref f8])), (f10, .inr (6, [.ref f2, .ref f6, .ref f7, .ref f8])), (f11, .inl (G.2.1.1, 6, .inl (fun _ => 0)))] H := hP
  have hD : va_D (lA s) [(q0, .inr (8, [.ref f0, .ref f2, .ref f5])), (f0, .inr (2, [.ref f1])), (f1, .inl (G.2.1.1, 65536, .inl (fun _ => 0))), (f2, .inr (4, [.ref f3, .ref f4, .int 211, .int 3, .int 0])), (f3, .inl (G.2.1.1, 31, .inl (fun _ => 0))), (f4, .inl (G.2.1.1, 6, .inl (fun _ => 0))), (f5, .inr (3, [.ref f0, .ref f2, .ref f9, .ref f10, .ref f11, .int 0, .int 0, .int 0])), (f6, .inr (5, [.int 0])), (f7, .inr (0, [.ref f2, .int 0])), (f8, .inr (7, [.ref f0, .ref f2])), (f9, .inr (1, [.ref f2, .ref f6, .ref f7, .ref f8])), (f10, .inr (6, [.ref f2, .ref f6, .ref f7, .ref f8])), (f11, .inl (G.2.1.1, 6, .inl (fun _ => 0)))] := hD
  refine lv_astore_n (lv' := [(1, .ref q0), (0, .ref b)]) hx hb dL_law_7 rfl hl (by decide) rfl (fun ls hl => ?_)
  refine va_new (ci := 9) (fs := [.int 0, .null, .null, .null, .int 0, .null, .int 0, .null, .int 0, .int 0, .int 0, .int 0, .int 0, .int 0]) (C := RX11) (T := TX11) (N := 14) hx hb hta ku_11 tyX11 tyX11_ok hown (hta _ kw_3) (hta _ kw_4) (hta _ kw_5) hK hP hD hS hA rfl (fun j hj => by rcases (show j = 0 ∨ j = 1 ∨ j = 2 ∨ j = 3 ∨ j = 4 ∨ j = 5 ∨ j = 6 ∨ j = 7 ∨ j = 8 ∨ j = 9 ∨ j = 10 ∨ j = 11 ∨ j = 12 ∨ j = 13 by omega) with rfl | rfl | rfl | rfl | rfl | rfl | rfl | rfl | rfl | rfl | rfl | rfl | rfl | rfl <;> rfl) (Nat.le_of_ble_eq_true rfl) (Nat.le_of_ble_eq_true rfl) dL_law_8 (fun q1 H hP hD hS => ?_)
  have hP : va_P (gD G) vwCl [(q0, .inr (8, [.ref f0, .ref f2, .ref f5])), (f0, .inr (2, [.ref f1])), (f1, .inl (G.2.1.1, 65536, .inl (fun _ => 0))), (f2, .inr (4, [.ref f3, .ref f4, .int 211, .int 3, .int 0])), (f3, .inl (G.2.1.1, 31, .inl (fun _ => 0))), (f4, .inl (G.2.1.1, 6, .inl (fun _ => 0))), (f5, .inr (3, [.ref f0, .ref f2, .ref f9, .ref f10, .ref f11, .int 0, .int 0, .int 0])), (f6, .inr (5, [.int 0])), (f7, .inr (0, [.ref f2, .int 0])), (f8, .inr (7, [.ref f0, .ref f2])), (f9, .inr (1, [.ref f2, .ref f6, .ref f7, .ref f8])), (f10, .inr (6, [.ref f2, .ref f6, .ref f7, .ref f8])), (f11, .inl (G.2.1.1, 6, .inl (fun _ => 0))), (q1, .inr (9, [.int 0, .null, .null, .null, .int 0, .null, .int 0, .null, .int 0, .int 0, .int 0, .int 0, .int 0, .int 0]))] H := hP
  have hD : va_D (lA s) [(q0, .inr (8, [.ref f0, .ref f2, .ref f5])), (f0, .inr (2, [.ref f1])), (f1, .inl (G.2.1.1, 65536, .inl (fun _ => 0))), (f2, .inr (4, [.ref f3, .ref f4, .int 211, .int 3, .int 0])), (f3, .inl (G.2.1.1, 31, .inl (fun _ => 0))), (f4, .inl (G.2.1.1, 6, .inl (fun _ => 0))), (f5, .inr (3, [.ref f0, .ref f2, .ref f9, .ref f10, .ref f11, .int 0, .int 0, .int 0])), (f6, .inr (5, [.int 0])), (f7, .inr (0, [.ref f2, .int 0])), (f8, .inr (7, [.ref f0, .ref f2])), (f9, .inr (1, [.ref f2, .ref f6, .ref f7, .ref f8])), (f10, .inr (6, [.ref f2, .ref f6, .ref f7, .ref f8])), (f11, .inl (G.2.1.1, 6, .inl (fun _ => 0))), (q1, .inr (9, [.int 0, .null, .null, .null, .int 0, .null, .int 0, .null, .int 0, .int 0, .int 0, .int 0, .int 0, .int 0]))] := hD
  refine lv_dup hx hb dL_law_11 rfl ?_
  refine kn_I (wr := [(q0, .inr (8, [.ref f0, .ref f2, .ref f5])), (f0, .inr (2, [.ref f1])), (f1, .inl (G.2.1.1, 65536, .inl (fun _ => 0))), (f2, .inr (4, [.ref f3, .ref f4, .int 211, .int 3, .int 0])), (f3, .inl (G.2.1.1, 31, .inl (fun _ => 0))), (f4, .inl (G.2.1.1, 6, .inl (fun _ => 0))), (f5, .inr (3, [.ref f0, .ref f2, .ref f9, .ref f10, .ref f11, .int 0, .int 0, .int 0])), (f6, .inr (5, [.int 0])), (f7, .inr (0, [.ref f2, .int 0])), (f8, .inr (7, [.ref f0, .ref f2])), (f9, .inr (1, [.ref f2, .ref f6, .ref f7, .ref f8])), (f10, .inr (6, [.ref f2, .ref f6, .ref f7, .ref f8])), (f11, .inl (G.2.1.1, 6, .inl (fun _ => 0)))]) (w0 := [(q1, .inr (9, [.int 0, .null, .null, .null, .int 0, .null, .int 0, .null, .int 0, .int 0, .int 0, .int 0, .int 0, .int 0]))]) (As := []) (rest := [.ref q1]) (cn_Model l G q1) ⟨hx, hb, hml, hown, hta⟩ (cwI 0 hta (lw_gc kw_103 lw_all_good) rfl rfl rfl (hta _ kw_5) (hta _ kw_101) (hta _ kw_102) rfl (by decide +kernel) ⟨by decide, by decide⟩) hK hP hD hS hA rfl hl.1 rfl (Nat.le_of_ble_eq_true rfl) dL_law_12 ⟨Nat.le_of_ble_eq_true rfl, Nat.le_of_ble_eq_true rfl⟩ (fun u H locs hu hP hD hS => ?_)
  obtain ⟨g0, g1, g2, g3, g4, rfl⟩ := hu
  have hP : va_P (gD G) vwCl [(q0, .inr (8, [.ref f0, .ref f2, .ref f5])), (f0, .inr (2, [.ref f1])), (f1, .inl (G.2.1.1, 65536, .inl (fun _ => 0))), (f2, .inr (4, [.ref f3, .ref f4, .int 211, .int 3, .int 0])), (f3, .inl (G.2.1.1, 31, .inl (fun _ => 0))), (f4, .inl (G.2.1.1, 6, .inl (fun _ => 0))), (f5, .inr (3, [.ref f0, .ref f2, .ref f9, .ref f10, .ref f11, .int 0, .int 0, .int 0])), (f6, .inr (5, [.int 0])), (f7, .inr (0, [.ref f2, .int 0])), (f8, .inr (7, [.ref f0, .ref f2])), (f9, .inr (1, [.ref f2, .ref f6, .ref f7, .ref f8])), (f10, .inr (6, [.ref f2, .ref f6, .ref f7, .ref f8])), (f11, .inl (G.2.1.1, 6, .inl (fun _ => 0))), (q1, .inr (9, [.int 0, .ref g0, .ref g1, .ref g2, .int 211, .ref g3, .int 0, .ref g4, .int 0, .int 0, .int 0, .int 0, .int 0, .int 0])), (g0, .inl (G.2.1.1, 65536, .inl (fun _ => 0))), (g1, .inl (G.2.1.1, 31, .inl (fun _ => 0))), (g2, .inl (G.2.1.1, 5, .inl (fun _ => 0))), (g3, .inl (G.2.1.2.1, 2, .inl (fun _ => 0))), (g4, .inl (G.2.1.1, 6, .inl (fun _ => 0)))] H := hP
  have hD : va_D (lA s) [(q0, .inr (8, [.ref f0, .ref f2, .ref f5])), (f0, .inr (2, [.ref f1])), (f1, .inl (G.2.1.1, 65536, .inl (fun _ => 0))), (f2, .inr (4, [.ref f3, .ref f4, .int 211, .int 3, .int 0])), (f3, .inl (G.2.1.1, 31, .inl (fun _ => 0))), (f4, .inl (G.2.1.1, 6, .inl (fun _ => 0))), (f5, .inr (3, [.ref f0, .ref f2, .ref f9, .ref f10, .ref f11, .int 0, .int 0, .int 0])), (f6, .inr (5, [.int 0])), (f7, .inr (0, [.ref f2, .int 0])), (f8, .inr (7, [.ref f0, .ref f2])), (f9, .inr (1, [.ref f2, .ref f6, .ref f7, .ref f8])), (f10, .inr (6, [.ref f2, .ref f6, .ref f7, .ref f8])), (f11, .inl (G.2.1.1, 6, .inl (fun _ => 0))), (q1, .inr (9, [.int 0, .ref g0, .ref g1, .ref g2, .int 211, .ref g3, .int 0, .ref g4, .int 0, .int 0, .int 0, .int 0, .int 0, .int 0])), (g0, .inl (G.2.1.1, 65536, .inl (fun _ => 0))), (g1, .inl (G.2.1.1, 31, .inl (fun _ => 0))), (g2, .inl (G.2.1.1, 5, .inl (fun _ => 0))), (g3, .inl (G.2.1.2.1, 2, .inl (fun _ => 0))), (g4, .inl (G.2.1.1, 6, .inl (fun _ => 0)))] := hD
  refine lv_astore_n (lv' := [(2, .ref q1), (1, .ref q0), (0, .ref b)]) hx hb dL_law_15 rfl hl (by decide) rfl (fun ls hl => ?_)
  refine lv_iconst (v := 1) hx hb dL_law_16 (by decide) ?_
  refine kn_newa (atype := .long) (ty := .long) (N' := 1) (a0 := (1, .inr (.inl (fun _ => 0)))) hx hb (hta _ kw_6) rfl hK hP hD hS hA (fun _ => rfl) (by decide) (by decide) (by decide) (Nat.le_of_ble_eq_true rfl) (Nat.le_of_ble_eq_true rfl) dL_law_17 2 rfl (fun _ h => h) (fun q2 H hP hD hS => ?_)
  have hP : va_P (gD G) vwCl [(q0, .inr (8, [.ref f0, .ref f2, .ref f5])), (f0, .inr (2, [.ref f1])), (f1, .inl (G.2.1.1, 65536, .inl (fun _ => 0))), (f2, .inr (4, [.ref f3, .ref f4, .int 211, .int 3, .int 0])), (f3, .inl (G.2.1.1, 31, .inl (fun _ => 0))), (f4, .inl (G.2.1.1, 6, .inl (fun _ => 0))), (f5, .inr (3, [.ref f0, .ref f2, .ref f9, .ref f10, .ref f11, .int 0, .int 0, .int 0])), (f6, .inr (5, [.int 0])), (f7, .inr (0, [.ref f2, .int 0])), (f8, .inr (7, [.ref f0, .ref f2])), (f9, .inr (1, [.ref f2, .ref f6, .ref f7, .ref f8])), (f10, .inr (6, [.ref f2, .ref f6, .ref f7, .ref f8])), (f11, .inl (G.2.1.1, 6, .inl (fun _ => 0))), (q1, .inr (9, [.int 0, .ref g0, .ref g1, .ref g2, .int 211, .ref g3, .int 0, .ref g4, .int 0, .int 0, .int 0, .int 0, .int 0, .int 0])), (g0, .inl (G.2.1.1, 65536, .inl (fun _ => 0))), (g1, .inl (G.2.1.1, 31, .inl (fun _ => 0))), (g2, .inl (G.2.1.1, 5, .inl (fun _ => 0))), (g3, .inl (G.2.1.2.1, 2, .inl (fun _ => 0))), (g4, .inl (G.2.1.1, 6, .inl (fun _ => 0))), (q2, .inl (G.2.1.2.2, 1, .inr (.inl (fun _ => 0))))] H := hP
  have hD : va_D (lA s) [(q0, .inr (8, [.ref f0, .ref f2, .ref f5])), (f0, .inr (2, [.ref f1])), (f1, .inl (G.2.1.1, 65536, .inl (fun _ => 0))), (f2, .inr (4, [.ref f3, .ref f4, .int 211, .int 3, .int 0])), (f3, .inl (G.2.1.1, 31, .inl (fun _ => 0))), (f4, .inl (G.2.1.1, 6, .inl (fun _ => 0))), (f5, .inr (3, [.ref f0, .ref f2, .ref f9, .ref f10, .ref f11, .int 0, .int 0, .int 0])), (f6, .inr (5, [.int 0])), (f7, .inr (0, [.ref f2, .int 0])), (f8, .inr (7, [.ref f0, .ref f2])), (f9, .inr (1, [.ref f2, .ref f6, .ref f7, .ref f8])), (f10, .inr (6, [.ref f2, .ref f6, .ref f7, .ref f8])), (f11, .inl (G.2.1.1, 6, .inl (fun _ => 0))), (q1, .inr (9, [.int 0, .ref g0, .ref g1, .ref g2, .int 211, .ref g3, .int 0, .ref g4, .int 0, .int 0, .int 0, .int 0, .int 0, .int 0])), (g0, .inl (G.2.1.1, 65536, .inl (fun _ => 0))), (g1, .inl (G.2.1.1, 31, .inl (fun _ => 0))), (g2, .inl (G.2.1.1, 5, .inl (fun _ => 0))), (g3, .inl (G.2.1.2.1, 2, .inl (fun _ => 0))), (g4, .inl (G.2.1.1, 6, .inl (fun _ => 0))), (q2, .inl (G.2.1.2.2, 1, .inr (.inl (fun _ => 0))))] := hD
  refine lv_astore_n (lv' := [(3, .ref q2), (2, .ref q1), (1, .ref q0), (0, .ref b)]) hx hb dL_law_19 rfl hl (by decide) rfl (fun ls hl => ?_)
  refine lv_iconst (v := 0) hx hb dL_law_20 (by decide) ?_
  refine lv_istore (lv' := [(4, .int 0), (3, .ref q2), (2, .ref q1), (1, .ref q0), (0, .ref b)]) hx hb dL_law_21 hl (by decide) rfl (fun ls hl => ?_)
  obtain ⟨a, ea⟩ : ∃ a : Nat → Nat, a = (fun k => match k with | 0 => q0 | 1 => f0 | 2 => f1 | 3 => f2 | 4 => f3 | 5 => f4 | 6 => f5 | 7 => f9 | 8 => f10 | 9 => f11 | 10 => f6 | 11 => f7 | 12 => f8 | 13 => q2 | 20 => q1 | 21 => g0 | 22 => g1 | 23 => g2 | 24 => g3 | 25 => g4 | _ => 0) := ⟨_, rfl⟩
  have a0 : a 0 = q0 := congrFun ea 0
  have a1 : a 1 = f0 := congrFun ea 1
  have a2 : a 2 = f1 := congrFun ea 2
  have a3 : a 3 = f2 := congrFun ea 3
  have a4 : a 4 = f3 := congrFun ea 4
  have a5 : a 5 = f4 := congrFun ea 5
  have a6 : a 6 = f5 := congrFun ea 6
  have a7 : a 7 = f9 := congrFun ea 7
  have a8 : a 8 = f10 := congrFun ea 8
  have a9 : a 9 = f11 := congrFun ea 9
  have a10 : a 10 = f6 := congrFun ea 10
  have a11 : a 11 = f7 := congrFun ea 11
  have a12 : a 12 = f8 := congrFun ea 12
  have a13 : a 13 = q2 := congrFun ea 13
  have a20 : a 20 = q1 := congrFun ea 20
  have a21 : a 21 = g0 := congrFun ea 21
  have a22 : a 22 = g1 := congrFun ea 22
  have a23 : a 23 = g2 := congrFun ea 23
  have a24 : a 24 = g3 := congrFun ea 24
  have a25 : a 25 = g4 := congrFun ea 25
  have hW0 : wLaw (D, T, a, S) (τ0, (o0, σ0)) = [(q1, .inr (9, [.int 0, .ref (g0), .ref (g1), .ref (g2), .int 211, .ref (g3), .int 0, .ref (g4), .int 0, .int 0, .int 0, .int 0, .int 0, .int 0])), (g0, .inl ((D, T, a, S).2.1.1, 65536, .inl (fun _ => 0))), (g1, .inl ((D, T, a, S).2.1.1, 31, .inl (fun _ => 0))), (g2, .inl ((D, T, a, S).2.1.1, 5, .inl (fun _ => 0))), (g3, .inl ((D, T, a, S).2.1.2.1, 2, .inl (fun _ => 0))), (g4, .inl ((D, T, a, S).2.1.1, 6, .inl (fun _ => 0))), (q2, .inl ((D, T, a, S).2.1.2.2, 1, .inr (.inl (fun _ => 0)))), (q0, .inr (8, [.ref (f0), .ref (f2), .ref (f5)])), (f0, .inr (2, [.ref (f1)])), (f1, .inl ((D, T, a, S).2.1.1, 65536, .inl (fun _ => 0))), (f2, .inr (4, [.ref (f3), .ref (f4), .int 211, .int 3, .int 0])), (f3, .inl ((D, T, a, S).2.1.1, 31, .inl (fun _ => 0))), (f4, .inl ((D, T, a, S).2.1.1, 6, .inl (fun _ => 0))), (f5, .inr (3, [.ref (f0), .ref (f2), .ref (f9), .ref (f10), .ref (f11), .int 0, .int 0, .int 0])), (f9, .inr (1, [.ref (f2), .ref (f6), .ref (f7), .ref (f8)])), (f10, .inr (6, [.ref (f2), .ref (f6), .ref (f7), .ref (f8)])), (f11, .inl ((D, T, a, S).2.1.1, 6, .inl (fun _ => 0))), (f6, .inr (5, [.int 0])), (f7, .inr (0, [.ref (f2), .int 0])), (f8, .inr (7, [.ref (f0), .ref (f2)]))] := by
    rw [lw_w0]
    simp only [gA, a0, a1, a2, a3, a4, a5, a6, a7, a8, a9, a10, a11, a12, a13, a20, a21, a22, a23, a24, a25]
  subst eG
  have hP : va_P (gD (D, T, a, S)) vwCl (wLaw (D, T, a, S) (τ0, (o0, σ0))) H := by rw [hW0]; exact hP.sub [13, 14, 15, 16, 17, 18, 19, 0, 1, 2, 3, 4, 5, 6, 10, 11, 12, 7, 8, 9] rfl
  have hD : va_D (lA s) (wLaw (D, T, a, S) (τ0, (o0, σ0))) := by rw [hW0]; exact hD.sub [13, 14, 15, 16, 17, 18, 19, 0, 1, 2, 3, 4, 5, 6, 10, 11, 12, 7, 8, 9] (by decide) rfl
  have hl : lv_has ls 7 (lLoc (D, T, a, S) b (nI (4 * 0))) := by
    show lv_has ls 7 [(0, .ref b), (1, .ref (a 0)), (2, .ref (a 20)), (3, .ref (a 13)), (4, .int 0)]
    rw [a0, a20, a13]
    exact lv_sub hl [4, 3, 2, 1, 0] rfl
  refine W.widen (k := 20 + 0) (n := 131204 + 6 * 0) (Nat.le_of_ble_eq_true rfl) (Nat.le_of_ble_eq_true rfl) ?_
  exact law_loop (G := (D, T, a, S)) hl9 hL C0 hK0 (hZ0 a) 513 0 (by decide) (by decide) o0 σ0 τ0 H _ ls RB_0 hP hD hS hl
set_option maxHeartbeats 4000000 in
theorem lw_walk (l : Launch) (hl9 : l.stackTraces = false) (b : Addr) (xs : List Int32) : MetFree l x (headSpec (Jvm.Cond.code x code maxLocals ret :: tables_1) room_1) (lw_P b xs) (fun _ _ _ _ _ => True) lw_Q := by
  refine MetFree.of_bodyS (code := code) (maxLocals := maxLocals) (ret := ret) (by decide) ?_ ?_
  · intro args s m h hn
    obtain ⟨meth, c, h1, h2, h3, h4, h5, h6, -, -⟩ := Cond.code_spec hn (atoms_spec (ws := Jvm.Cond.code x code maxLocals ret :: tables_1) h _ List.mem_cons_self)
    exact ⟨meth, c, h1, h2, h3, h4, h5, h6⟩
  · intro p e s m args below meth c s₁ B hml0 hP _
    obtain ⟨rfl, hx, hbd, hgv⟩ := hP
    obtain ⟨scr, harrAt, hlist, hof, hsmall⟩ := hx
    obtain ⟨hcb, hkn, -, -⟩ := State.arrayAt?_spec harrAt
    have hown : s.vm.findClass R_law = some m.cls := findClass_of_methodNamed B.named
    have hts0 : ∀ c ∈ (Jvm.Cond.code x code maxLocals ret :: tables_1), c.before #[Value.ref b] s = true := atoms_spec (ws := Jvm.Cond.code x code maxLocals ret :: tables_1) B.pre
    have hts : ∀ w ∈ lw_tbl, w.before #[Value.ref b] s = true := k2_hts_sels lw_privs (fun w hw => hts0 w (List.mem_cons_of_mem _ hw)) lw_privs_ok
    have hml : c.maxLocals = 7 := B.maxLocals_eq (hts0 _ List.mem_cons_self)
    have X₀ : Stand p l e room_1 s m #[Value.ref b] below meth c s₁ [] 0 0 := Stand.of_body B
    have hh0 : s₁.heap = s.heap := by rw [B.state]; rfl
    have hsz : scr.slots.size = xs.length := by rw [← Array.length_toList, hlist, List.length_map]
    have hval : ∀ j : Nat, j < xs.length → scr.slots[j]? = some (.int (xs.getD j 0)) := fun j hj => by
      rw [← Array.getElem?_toList, hlist]
      simp [hj]
    have hbl : b < s.heap.size := (Array.getElem?_eq_some_iff.mp hcb).1
    have hX : va_X b xs.length (fun j => xs.getD j 0) s s.heap := ⟨scr, hcb, hof, hkn, hsz, hval⟩
    have K : W p l e room_1 s m #[Value.ref b] below meth c s₁.heap [] 0 0 (lw_Z below #[Value.ref b] s) (entryFrame m ([Value.ref b] : List Value).toArray 7) := by
      rw [hh0]
      exact whole_start l hl9 hbd ⟨B.exec, B.bytes, B.returns, hml, hown, hts, hX, hbl, B.notSynchronized, hgv⟩
    obtain ⟨t, a1, o, b1, b2, b3⟩ := K s₁ rfl X₀
    exact ⟨t, o, a1, b1, b2, b3⟩
theorem lw_pre_spec {args : Array Value} {s : State} (h : (Jvm.Cond.and given_1 narrow_1).before args s = true) (hr : rest_1_c.before args s = true) : ∃ (b : Addr) (xs : List Int32), lw_P b xs args s := by
  have hs := flat_of_before _ h
  have hq := flat_of_before _ hr
  have hc : (Cond.count 1).before args s = true := hs _ (by decide +kernel)
  have harr : (Cond.arrayOf (.arg 0) .int).before args s = true := hs _ (by decide +kernel)
  have hle : (Cond.le (.length (.arg 0)) (.int 2048)).before args s = true := hs _ (by decide +kernel)
  have hlen : (Cond.isInt (.length (.arg 0))).before args s = true := hq _ (by decide +kernel)
  have hall : (Cond.all (.arg 0) (.isInt (.elem (.arg 0) (.index 0)))).before args s = true := hq _ (by decide +kernel)
  obtain ⟨b, xs, hb, hx⟩ := State.ints_of_pre rfl harr hlen hall
  have hsm : xs.length < 2 ^ 31 := hx.choose_spec.2.2.2
  have hev : (Term.length (.arg 0)).eval args s none [] s = some (.int xs.length.toInt32) := hx.length_eval hb
  have hv := Cond.le_ints hev (show (Term.int 2048).eval args s none [] s = some (.int 2048) from rfl)
  have hd : xs.length.toInt32 ≤ 2048 := by
    simpa [Cond.before, Cond.holds, hv] using hle
  have hN : xs.length ≤ 2048 := (Int32.ofNat_le_ofNat hsm (by decide)).mp (show Int32.ofNat xs.length ≤ Int32.ofNat 2048 from hd)
  exact ⟨b, xs, Cond.one_arg hc (show args[0]? = some (.ref b) from hb), hx, hN, h⟩
theorem lw_comes (l : Launch) (hl9 : l.stackTraces = false) : Comes l x (Jvm.Cond.code x code maxLocals ret :: tables_1) room_1 (fun tb e args s => Calls_1 tb e args s ∧ rest_1 tb e args s ∧ Pre_1 tb e args s)
    (fun _ _ args s o t => lw_Q args s o t) := by
  intro p e ha hc hk s m args below hf hfit hheap happ hpre
  obtain ⟨b, xs, hP⟩ := lw_pre_spec hpre.2.2 hpre.2.1
  obtain ⟨k, o, h1, h2, h3, hQ⟩ := lw_walk l hl9 b xs p e ha hc hk s m args below hf ((Spec.applies_iff_loose hf).mp happ).1 hP trivial
  exact ⟨k, o, h1, h2, h3, hQ⟩
theorem lw_frame {s t : State} {o : Outcome} {args : Array Value} (h : Framed s o t [] 601024 7293034) :
    Framed s o t (fieldLocs frame_1_writes args s ++ arrayLocs frame_1_arrays args s ++ staticLocs frame_1_statics s) 601024 7293034 := h
theorem lw_limb (L : Cond) (hL : ∀ (args : Array Value) (s t : State), L.after args s (.returned (some (.int 1))) t = true) :
    ArmFor flags0 classFile x code maxLocals ret World_1 tables_1 room_1 Calls_1 rest_1 Pre_1
      (fun tb e a s o t => postC L tb e a s o t ∧ Framed s o t (fieldLocs frame_1_writes a s ++ arrayLocs frame_1_arrays a s ++ staticLocs frame_1_statics s) 601024 7293034) := by
  intro l hf0 hf1 hf2 p e ha hc hk s m args below hf hfit hheap happ hpre
  obtain ⟨k, o, h1, h2, h3, rfl, hF⟩ := lw_comes l (by unfold Launch.stackTraces; rw [hf0]; decide +kernel) p e ha hc hk s m args below hf hfit hheap happ hpre
  exact ⟨k, _, h1, h2, h3, hL args s _, lw_frame hF⟩
theorem i_vc : Claimed_1_1 ∧ Claimed_1_2 := ⟨lw_limb limb_1_1 (fun args s t => by simp [limb_1_1, Cond.after, Cond.holds, Cond.value]), lw_limb limb_1_2 (fun args s t => Cond.after_iff.mpr (by
  first | (rw [show limb_1_2 = Cond.eq .result (.int 1) from rfl, Cond.eq_ints (x := 1) (y := 1) rfl rfl]; simp; done) | (simp [limb_1_2, Cond.value, Term.eval]; done)))⟩
