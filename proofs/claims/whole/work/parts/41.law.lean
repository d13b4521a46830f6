section LAW
variable {p : Program} {l : Launch} {e : Env} {s : State} {m : MethodId} {below : List Frame} {meth : Method} {c : Code} {b L : Nat} {xs : Nat → Int32} {G : KG} {o : Nat → Int64} {σ : CS} {τ : MS} {H : Heap} {locs : List Loc} {cells slots : Nat} {Q : State → Prop} {ls : Array Slot} {i : Int32}
abbrev lA (s : State) : Nat → Prop := fun q => s.heap.size ≤ q
abbrev lLoc (G : KG) (b : Nat) (i : Int32) : List (Nat × Value) := [(0, .ref b), (1, .ref (gA G 0)), (2, .ref (gA G 20)), (3, .ref (gA G 13)), (4, .int i)]
def lK (p : Program) (l : Launch) (e : Env) (s : State) (m : MethodId) (below : List Frame) (meth : Method) (c : Code) (b : Nat) (G : KG) (cells slots : Nat) (Q : State → Prop) (i : Int32) : Prop := ∀ (o : Nat → Int64) (σ : CS) (τ : MS) (H : Heap) (locs : List Loc) (ls : Array Slot), RB σ τ → va_P (gD G) vwCl (wLaw G (τ, (o, σ))) H → va_D (lA s) (wLaw G (τ, (o, σ))) → va_S (lA s) s.heap H locs → lv_has ls 7 (lLoc G b i) → W p l e room_1 s m #[Value.ref b] below meth c H locs (cells + 1) (slots + 6) Q (F0 m 636 ls [])
set_option maxRecDepth 20000 in
set_option maxHeartbeats 4000000 in
theorem law_poke (hl9 : l.stackTraces = false) (C0 : lw_At p s m meth c b L xs) (hK : va_K (gD G) vwCl (gT G) s) (hZ : cZX G (lA s) s s.heap) (hc : cells + 1 ≤ 601024) (hs : slots + 6 ≤ 7293034) (h1 : vp_in (i + 1) L) (h2 : vp_in (i + 2) L) (h3 : vp_in (i + 3) L) (hR : RB σ τ) (hP : va_P (gD G) vwCl (wLaw G (τ, (o, σ))) H) (hD : va_D (lA s) (wLaw G (τ, (o, σ)))) (hS : va_S (lA s) s.heap H locs) (hl : lv_has ls 7 (lLoc G b i)) (kk : lK p l e s m below meth c b G cells slots Q i) : W p l e room_1 s m #[Value.ref b] below meth c H locs cells slots Q (F0 m 88 ls []) := by
  obtain ⟨hx, hb, hr, hml, hown, hts, hX, hbl, hlocks, hgv⟩ := C0
  have hta : ∀ w ∈ lw_all, w.before #[Value.ref b] s = true := fun w h => hts w (List.mem_filter.mp h).1
  have hA : ∀ q : Nat, s.heap.size ≤ q → lA s q := fun _ h => h
  have hbA : ¬ lA s b := Nat.not_le.mpr hbl
  have hl : lv_has ls 7 [(0, .ref b), (1, .ref (gA G 0)), (2, .ref (gA G 20)), (3, .ref (gA G 13)), (4, .int i)] := hl
  have hT := res_L (o := o) (poke_T hR (xs (i + 1).toNatClampNeg) (xs (i + 2).toNatClampNeg))
  have hW := lc_w (cw_poke l hl9 G o σ (xs (i + 1).toNatClampNeg) (xs (i + 2).toNatClampNeg)) τ
  have hM := fun z => lc_m (cy_Model_poke l G τ (xs (i + 1).toNatClampNeg) (xs (i + 2).toNatClampNeg)) z
  generalize wres o σ (x_Top_poke σ (xs (i + 1).toNatClampNeg) (xs (i + 2).toNatClampNeg)) (nI (x_Top_poke σ (xs (i + 1).toNatClampNeg) (xs (i + 2).toNatClampNeg)).1) = r at hT hW
  generalize y_Model_poke τ (xs (i + 1).toNatClampNeg) (xs (i + 2).toNatClampNeg) = pp at hT hM
  refine lv_aload_n hx hb dL_law_88 rfl (lv_at hl 1 rfl) ?_
  refine lv_aload_n hx hb dL_law_89 rfl (lv_at hl 0 rfl) ?_
  refine lv_iload hx hb dL_law_90 (lv_at hl 4 rfl) ?_
  refine lv_iconst (v := 1) hx hb dL_law_92 (by decide) ?_
  refine lv_iadd hx hb dL_law_93 ?_
  refine va_sld hx hb hX hbl hbA hS h1 dL_law_94 ?_
  refine lv_aload_n hx hb dL_law_95 rfl (lv_at hl 0 rfl) ?_
  refine lv_iload hx hb dL_law_96 (lv_at hl 4 rfl) ?_
  refine lv_iconst (v := 2) hx hb dL_law_98 (by decide) ?_
  refine lv_iadd hx hb dL_law_99 ?_
  refine va_sld hx hb hX hbl hbA hS h2 dL_law_100 ?_
  refine lv_aload_n hx hb dL_law_101 rfl (lv_at hl 3 rfl) ?_
  refine km_SW (rest := []) hW ⟨hx, hb, hml, hown, hta⟩ (vx_cwSW 4 hta (gi_SW kw_113 kw_114 kw_115 kw_116) rfl rfl rfl (by decide +kernel) ⟨by decide, by decide⟩) cZX_ok hK hP hD hS hA hZ rfl hl.1 rfl (Nat.le_of_ble_eq_true rfl) dL_law_102 ⟨hc, hs⟩ (fun H locs hP hD hS => ?_)
  refine lv_istore (lv' := [(5, .int r.1), (0, .ref b), (1, .ref (gA G 0)), (2, .ref (gA G 20)), (3, .ref (gA G 13)), (4, .int i)]) hx hb dL_law_105 hl (by decide) rfl (fun ls hl => ?_)
  refine lv_aload_n hx hb dL_law_107 rfl (lv_at hl 3 rfl) ?_
  refine lv_aload_n hx hb dL_law_108 rfl (lv_at hl 1 rfl) ?_
  refine lv_iload hx hb dL_law_109 (lv_at hl 5 rfl) ?_
  refine lv_iconst (v := 1) hx hb dL_law_111 (by decide) ?_
  refine lv_iadd hx hb dL_law_112 ?_
  refine va_sld hx hb hX hbl hbA hS h1 dL_law_113 ?_
  refine lv_aload_n hx hb dL_law_114 rfl (lv_at hl 1 rfl) ?_
  refine lv_iload hx hb dL_law_115 (lv_at hl 5 rfl) ?_
  refine lv_iconst (v := 2) hx hb dL_law_117 (by decide) ?_
  refine lv_iadd hx hb dL_law_118 ?_
  refine va_sld hx hb hX hbl hbA hS h2 dL_law_119 ?_
  refine kc_Vb (rest := []) (hM r.2) ⟨hx, hb, hml, hown, hta⟩ (cwV 2 hta (gi_V kw_145 kw_146 kw_147 kw_5 kw_148) rfl rfl rfl (by decide +kernel) ⟨by decide, by decide⟩) (va_recv hK hP (ci := 9) (q0 := 0) rfl rfl) cZX_ok hK hP hD hS hA hZ rfl hl.1 rfl (Nat.le_of_ble_eq_true rfl) dL_law_120 ⟨hc, hs⟩ (fun H locs hP hD hS => ?_)
  refine lv_istore (lv' := [(6, .int pp.1), (5, .int r.1), (0, .ref b), (1, .ref (gA G 0)), (2, .ref (gA G 20)), (3, .ref (gA G 13)), (4, .int i)]) hx hb dL_law_123 hl (by decide) rfl (fun ls hl => ?_)
  refine lv_aload_n hx hb dL_law_125 rfl (lv_at hl 4 rfl) ?_
  refine kc_Vr (rest := []) (lc_m (cy_Model_thrown l G pp.2) r.2) ⟨hx, hb, hml, hown, hta⟩ (cwV 0 hta (gi_V kw_158 kw_159 kw_160 kw_5 kw_161) rfl rfl rfl (by decide +kernel) ⟨by decide, by decide⟩) (va_recv hK hP (ci := 9) (q0 := 0) rfl rfl) cZX_ok hK hP hD hS hA hZ rfl hl.1 rfl (Nat.le_of_ble_eq_true rfl) dL_law_126 ⟨hc, hs⟩ (fun H locs hP hD hS => ?_)
  refine lv_iload hx hb dL_law_129 (lv_at hl 1 rfl) ?_
  refine lv_icmp_eq (tgt := 136) hx hb dL_law_131 (by decide) (fun _ => ?_) (fun h => absurd hT.1 h)
  refine lv_iload hx hb dL_law_136 (lv_at hl 1 rfl) ?_
  refine lv_if_ne (tgt := 153) hx hb dL_law_138 (by decide) (fun _ => ?_) (fun hz => ?_)
  · skip
    refine lv_goto (tgt := 636) hx hb dL_law_153 (by decide) ?_
    exact kk r.2.1 r.2.2 pp.2 _ _ _ hT.2.2 hP hD hS (lv_sub hl [2, 3, 4, 5, 6] rfl)
  · skip
    refine lv_aload_n hx hb dL_law_141 rfl (lv_at hl 5 rfl) ?_
    refine lv_iconst (v := 0) hx hb dL_law_142 (by decide) ?_
    refine va_lald hx hb hK hP 6 2 rfl rfl (by unfold vp_in; decide) dL_law_143 ?_
    refine lv_iload hx hb dL_law_144 (lv_at hl 0 rfl) ?_
    refine lv_i2l (v := (pp.1).toInt64) hx hb dL_law_146 rfl ?_
    refine W.lcmp hx hb dL_law_147 ?_
    refine lv_if_eq (tgt := 153) hx hb dL_law_148 (by decide) (fun _ => ?_) (fun h => absurd (by rw [hT.2.1 hz]; exact lg_self _) h)
    refine lv_goto (tgt := 636) hx hb dL_law_153 (by decide) ?_
    exact kk r.2.1 r.2.2 pp.2 _ _ _ hT.2.2 hP hD hS (lv_sub hl [2, 3, 4, 5, 6] rfl)
set_option maxRecDepth 20000 in
set_option maxHeartbeats 4000000 in
theorem law_peek (hl9 : l.stackTraces = false) (C0 : lw_At p s m meth c b L xs) (hK : va_K (gD G) vwCl (gT G) s) (hZ : cZX G (lA s) s s.heap) (hc : cells + 1 ≤ 601024) (hs : slots + 6 ≤ 7293034) (h1 : vp_in (i + 1) L) (h2 : vp_in (i + 2) L) (h3 : vp_in (i + 3) L) (hR : RB σ τ) (hP : va_P (gD G) vwCl (wLaw G (τ, (o, σ))) H) (hD : va_D (lA s) (wLaw G (τ, (o, σ)))) (hS : va_S (lA s) s.heap H locs) (hl : lv_has ls 7 (lLoc G b i)) (kk : lK p l e s m below meth c b G cells slots Q i) : W p l e room_1 s m #[Value.ref b] below meth c H locs cells slots Q (F0 m 156 ls []) := by
  obtain ⟨hx, hb, hr, hml, hown, hts, hX, hbl, hlocks, hgv⟩ := C0
  have hta : ∀ w ∈ lw_all, w.before #[Value.ref b] s = true := fun w h => hts w (List.mem_filter.mp h).1
  have hA : ∀ q : Nat, s.heap.size ≤ q → lA s q := fun _ h => h
  have hbA : ¬ lA s b := Nat.not_le.mpr hbl
  have hl : lv_has ls 7 [(0, .ref b), (1, .ref (gA G 0)), (2, .ref (gA G 20)), (3, .ref (gA G 13)), (4, .int i)] := hl
  have hT := res_L (o := o) (peek_T hR (xs (i + 1).toNatClampNeg))
  have hW := lc_w (cw_peek l hl9 G o σ (xs (i + 1).toNatClampNeg)) τ
  have hM := fun z => lc_m (cy_Model_peek l G τ (xs (i + 1).toNatClampNeg)) z
  generalize wres o σ (x_Top_peek σ (xs (i + 1).toNatClampNeg)) (nI (x_Top_peek σ (xs (i + 1).toNatClampNeg)).1) = r at hT hW
  generalize y_Model_peek τ (xs (i + 1).toNatClampNeg) = pp at hT hM
  refine lv_aload_n hx hb dL_law_156 rfl (lv_at hl 1 rfl) ?_
  refine lv_aload_n hx hb dL_law_157 rfl (lv_at hl 0 rfl) ?_
  refine lv_iload hx hb dL_law_158 (lv_at hl 4 rfl) ?_
  refine lv_iconst (v := 1) hx hb dL_law_160 (by decide) ?_
  refine lv_iadd hx hb dL_law_161 ?_
  refine va_sld hx hb hX hbl hbA hS h1 dL_law_162 ?_
  refine lv_aload_n hx hb dL_law_163 rfl (lv_at hl 3 rfl) ?_
  refine km_SW (rest := []) hW ⟨hx, hb, hml, hown, hta⟩ (vx_cwSW 3 hta (gi_SW kw_162 kw_163 kw_115 kw_164) rfl rfl rfl (by decide +kernel) ⟨by decide, by decide⟩) cZX_ok hK hP hD hS hA hZ rfl hl.1 rfl (Nat.le_of_ble_eq_true rfl) dL_law_164 ⟨hc, hs⟩ (fun H locs hP hD hS => ?_)
  refine lv_istore (lv' := [(5, .int r.1), (0, .ref b), (1, .ref (gA G 0)), (2, .ref (gA G 20)), (3, .ref (gA G 13)), (4, .int i)]) hx hb dL_law_167 hl (by decide) rfl (fun ls hl => ?_)
  refine lv_aload_n hx hb dL_law_169 rfl (lv_at hl 3 rfl) ?_
  refine lv_aload_n hx hb dL_law_170 rfl (lv_at hl 1 rfl) ?_
  refine lv_iload hx hb dL_law_171 (lv_at hl 5 rfl) ?_
  refine lv_iconst (v := 1) hx hb dL_law_173 (by decide) ?_
  refine lv_iadd hx hb dL_law_174 ?_
  refine va_sld hx hb hX hbl hbA hS h1 dL_law_175 ?_
  refine kc_Vb (rest := []) (hM r.2) ⟨hx, hb, hml, hown, hta⟩ (cwV 1 hta (gi_V kw_169 kw_170 kw_171 kw_5 kw_172) rfl rfl rfl (by decide +kernel) ⟨by decide, by decide⟩) (va_recv hK hP (ci := 9) (q0 := 0) rfl rfl) cZX_ok hK hP hD hS hA hZ rfl hl.1 rfl (Nat.le_of_ble_eq_true rfl) dL_law_176 ⟨hc, hs⟩ (fun H locs hP hD hS => ?_)
  refine lv_istore (lv' := [(6, .int pp.1), (5, .int r.1), (0, .ref b), (1, .ref (gA G 0)), (2, .ref (gA G 20)), (3, .ref (gA G 13)), (4, .int i)]) hx hb dL_law_179 hl (by decide) rfl (fun ls hl => ?_)
  refine lv_aload_n hx hb dL_law_181 rfl (lv_at hl 4 rfl) ?_
  refine kc_Vr (rest := []) (lc_m (cy_Model_thrown l G pp.2) r.2) ⟨hx, hb, hml, hown, hta⟩ (cwV 0 hta (gi_V kw_158 kw_159 kw_160 kw_5 kw_161) rfl rfl rfl (by decide +kernel) ⟨by decide, by decide⟩) (va_recv hK hP (ci := 9) (q0 := 0) rfl rfl) cZX_ok hK hP hD hS hA hZ rfl hl.1 rfl (Nat.le_of_ble_eq_true rfl) dL_law_182 ⟨hc, hs⟩ (fun H locs hP hD hS => ?_)
  refine lv_iload hx hb dL_law_185 (lv_at hl 1 rfl) ?_
  refine lv_icmp_eq (tgt := 192) hx hb dL_law_187 (by decide) (fun _ => ?_) (fun h => absurd hT.1 h)
  refine lv_iload hx hb dL_law_192 (lv_at hl 1 rfl) ?_
  refine lv_if_ne (tgt := 209) hx hb dL_law_194 (by decide) (fun _ => ?_) (fun hz => ?_)
  · skip
    refine lv_goto (tgt := 636) hx hb dL_law_209 (by decide) ?_
    exact kk r.2.1 r.2.2 pp.2 _ _ _ hT.2.2 hP hD hS (lv_sub hl [2, 3, 4, 5, 6] rfl)
  · skip
    refine lv_aload_n hx hb dL_law_197 rfl (lv_at hl 5 rfl) ?_
    refine lv_iconst (v := 0) hx hb dL_law_198 (by decide) ?_
    refine va_lald hx hb hK hP 6 2 rfl rfl (by unfold vp_in; decide) dL_law_199 ?_
    refine lv_iload hx hb dL_law_200 (lv_at hl 0 rfl) ?_
    refine lv_i2l (v := (pp.1).toInt64) hx hb dL_law_202 rfl ?_
    refine W.lcmp hx hb dL_law_203 ?_
    refine lv_if_eq (tgt := 209) hx hb dL_law_204 (by decide) (fun _ => ?_) (fun h => absurd (by rw [hT.2.1 hz]; exact lg_self _) h)
    refine lv_goto (tgt := 636) hx hb dL_law_209 (by decide) ?_
    exact kk r.2.1 r.2.2 pp.2 _ _ _ hT.2.2 hP hD hS (lv_sub hl [2, 3, 4, 5, 6] rfl)
set_option maxRecDepth 20000 in
set_option maxHeartbeats 4000000 in
theorem law_get (hl9 : l.stackTraces = false) (C0 : lw_At p s m meth c b L xs) (hK : va_K (gD G) vwCl (gT G) s) (hZ : cZX G (lA s) s s.heap) (hc : cells + 1 ≤ 601024) (hs : slots + 6 ≤ 7293034) (h1 : vp_in (i + 1) L) (h2 : vp_in (i + 2) L) (h3 : vp_in (i + 3) L) (hR : RB σ τ) (hP : va_P (gD G) vwCl (wLaw G (τ, (o, σ))) H) (hD : va_D (lA s) (wLaw G (τ, (o, σ)))) (hS : va_S (lA s) s.heap H locs) (hl : lv_has ls 7 (lLoc G b i)) (kk : lK p l e s m below meth c b G cells slots Q i) : W p l e room_1 s m #[Value.ref b] below meth c H locs cells slots Q (F0 m 272 ls []) := by
  obtain ⟨hx, hb, hr, hml, hown, hts, hX, hbl, hlocks, hgv⟩ := C0
  have hta : ∀ w ∈ lw_all, w.before #[Value.ref b] s = true := fun w h => hts w (List.mem_filter.mp h).1
  have hA : ∀ q : Nat, s.heap.size ≤ q → lA s q := fun _ h => h
  have hbA : ¬ lA s b := Nat.not_le.mpr hbl
  have hl : lv_has ls 7 [(0, .ref b), (1, .ref (gA G 0)), (2, .ref (gA G 20)), (3, .ref (gA G 13)), (4, .int i)] := hl
  have hT := res_L (o := o) (get_T hR (xs (i + 1).toNatClampNeg) (xs (i + 2).toNatClampNeg))
  have hW := lc_w (cw_get l hl9 G o σ (xs (i + 1).toNatClampNeg) (xs (i + 2).toNatClampNeg)) τ
  have hM := fun z => lc_m (cy_Model_get l G τ (xs (i + 1).toNatClampNeg) (xs (i + 2).toNatClampNeg)) z
  generalize wres o σ (x_Top_get σ (xs (i + 1).toNatClampNeg) (xs (i + 2).toNatClampNeg)) (nI (x_Top_get σ (xs (i + 1).toNatClampNeg) (xs (i + 2).toNatClampNeg)).1) = r at hT hW
  generalize y_Model_get τ (xs (i + 1).toNatClampNeg) (xs (i + 2).toNatClampNeg) = pp at hT hM
  refine lv_aload_n hx hb dL_law_272 rfl (lv_at hl 1 rfl) ?_
  refine lv_aload_n hx hb dL_law_273 rfl (lv_at hl 0 rfl) ?_
  refine lv_iload hx hb dL_law_274 (lv_at hl 4 rfl) ?_
  refine lv_iconst (v := 1) hx hb dL_law_276 (by decide) ?_
  refine lv_iadd hx hb dL_law_277 ?_
  refine va_sld hx hb hX hbl hbA hS h1 dL_law_278 ?_
  refine lv_aload_n hx hb dL_law_279 rfl (lv_at hl 0 rfl) ?_
  refine lv_iload hx hb dL_law_280 (lv_at hl 4 rfl) ?_
  refine lv_iconst (v := 2) hx hb dL_law_282 (by decide) ?_
  refine lv_iadd hx hb dL_law_283 ?_
  refine va_sld hx hb hX hbl hbA hS h2 dL_law_284 ?_
  refine lv_aload_n hx hb dL_law_285 rfl (lv_at hl 3 rfl) ?_
  refine km_SW (rest := []) hW ⟨hx, hb, hml, hown, hta⟩ (vx_cwSW 4 hta (gi_SW kw_217 kw_218 kw_115 kw_219) rfl rfl rfl (by decide +kernel) ⟨by decide, by decide⟩) cZX_ok hK hP hD hS hA hZ rfl hl.1 rfl (Nat.le_of_ble_eq_true rfl) dL_law_286 ⟨hc, hs⟩ (fun H locs hP hD hS => ?_)
  refine lv_istore (lv' := [(5, .int r.1), (0, .ref b), (1, .ref (gA G 0)), (2, .ref (gA G 20)), (3, .ref (gA G 13)), (4, .int i)]) hx hb dL_law_289 hl (by decide) rfl (fun ls hl => ?_)
  refine lv_aload_n hx hb dL_law_291 rfl (lv_at hl 3 rfl) ?_
  refine lv_aload_n hx hb dL_law_292 rfl (lv_at hl 1 rfl) ?_
  refine lv_iload hx hb dL_law_293 (lv_at hl 5 rfl) ?_
  refine lv_iconst (v := 1) hx hb dL_law_295 (by decide) ?_
  refine lv_iadd hx hb dL_law_296 ?_
  refine va_sld hx hb hX hbl hbA hS h1 dL_law_297 ?_
  refine lv_aload_n hx hb dL_law_298 rfl (lv_at hl 1 rfl) ?_
  refine lv_iload hx hb dL_law_299 (lv_at hl 5 rfl) ?_
  refine lv_iconst (v := 2) hx hb dL_law_301 (by decide) ?_
  refine lv_iadd hx hb dL_law_302 ?_
  refine va_sld hx hb hX hbl hbA hS h2 dL_law_303 ?_
  refine kc_Vb (rest := []) (hM r.2) ⟨hx, hb, hml, hown, hta⟩ (cwV 2 hta (gi_V kw_228 kw_229 kw_230 kw_5 kw_231) rfl rfl rfl (by decide +kernel) ⟨by decide, by decide⟩) (va_recv hK hP (ci := 9) (q0 := 0) rfl rfl) cZX_ok hK hP hD hS hA hZ rfl hl.1 rfl (Nat.le_of_ble_eq_true rfl) dL_law_304 ⟨hc, hs⟩ (fun H locs hP hD hS => ?_)
  refine lv_istore (lv' := [(6, .int pp.1), (5, .int r.1), (0, .ref b), (1, .ref (gA G 0)), (2, .ref (gA G 20)), (3, .ref (gA G 13)), (4, .int i)]) hx hb dL_law_307 hl (by decide) rfl (fun ls hl => ?_)
  refine lv_aload_n hx hb dL_law_309 rfl (lv_at hl 4 rfl) ?_
  refine kc_Vr (rest := []) (lc_m (cy_Model_thrown l G pp.2) r.2) ⟨hx, hb, hml, hown, hta⟩ (cwV 0 hta (gi_V kw_158 kw_159 kw_160 kw_5 kw_161) rfl rfl rfl (by decide +kernel) ⟨by decide, by decide⟩) (va_recv hK hP (ci := 9) (q0 := 0) rfl rfl) cZX_ok hK hP hD hS hA hZ rfl hl.1 rfl (Nat.le_of_ble_eq_true rfl) dL_law_310 ⟨hc, hs⟩ (fun H locs hP hD hS => ?_)
  refine lv_iload hx hb dL_law_313 (lv_at hl 1 rfl) ?_
  refine lv_icmp_eq (tgt := 320) hx hb dL_law_315 (by decide) (fun _ => ?_) (fun h => absurd hT.1 h)
  refine lv_iload hx hb dL_law_320 (lv_at hl 1 rfl) ?_
  refine lv_if_ne (tgt := 337) hx hb dL_law_322 (by decide) (fun _ => ?_) (fun hz => ?_)
  · skip
    refine lv_goto (tgt := 636) hx hb dL_law_337 (by decide) ?_
    exact kk r.2.1 r.2.2 pp.2 _ _ _ hT.2.2 hP hD hS (lv_sub hl [2, 3, 4, 5, 6] rfl)
  · skip
    refine lv_aload_n hx hb dL_law_325 rfl (lv_at hl 5 rfl) ?_
    refine lv_iconst (v := 0) hx hb dL_law_326 (by decide) ?_
    refine va_lald hx hb hK hP 6 2 rfl rfl (by unfold vp_in; decide) dL_law_327 ?_
    refine lv_iload hx hb dL_law_328 (lv_at hl 0 rfl) ?_
    refine lv_i2l (v := (pp.1).toInt64) hx hb dL_law_330 rfl ?_
    refine W.lcmp hx hb dL_law_331 ?_
    refine lv_if_eq (tgt := 337) hx hb dL_law_332 (by decide) (fun _ => ?_) (fun h => absurd (by rw [hT.2.1 hz]; exact lg_self _) h)
    refine lv_goto (tgt := 636) hx hb dL_law_337 (by decide) ?_
    exact kk r.2.1 r.2.2 pp.2 _ _ _ hT.2.2 hP hD hS (lv_sub hl [2, 3, 4, 5, 6] rfl)
set_option maxRecDepth 20000 in
set_option maxHeartbeats 4000000 in
theorem law_saved (hl9 : l.stackTraces = false) (C0 : lw_At p s m meth c b L xs) (hK : va_K (gD G) vwCl (gT G) s) (hZ : cZX G (lA s) s s.heap) (hc : cells + 1 ≤ 601024) (hs : slots + 6 ≤ 7293034) (h1 : vp_in (i + 1) L) (h2 : vp_in (i + 2) L) (h3 : vp_in (i + 3) L) (hR : RB σ τ) (hP : va_P (gD G) vwCl (wLaw G (τ, (o, σ))) H) (hD : va_D (lA s) (wLaw G (τ, (o, σ)))) (hS : va_S (lA s) s.heap H locs) (hl : lv_has ls 7 (lLoc G b i)) (kk : lK p l e s m below meth c b G cells slots Q i) : W p l e room_1 s m #[Value.ref b] below meth c H locs cells slots Q (F0 m 365 ls []) := by
  obtain ⟨hx, hb, hr, hml, hown, hts, hX, hbl, hlocks, hgv⟩ := C0
  have hta : ∀ w ∈ lw_all, w.before #[Value.ref b] s = true := fun w h => hts w (List.mem_filter.mp h).1
  have hA : ∀ q : Nat, s.heap.size ≤ q → lA s q := fun _ h => h
  have hbA : ¬ lA s b := Nat.not_le.mpr hbl
  have hl : lv_has ls 7 [(0, .ref b), (1, .ref (gA G 0)), (2, .ref (gA G 20)), (3, .ref (gA G 13)), (4, .int i)] := hl
  have hT := res_L (o := o) (saved_T hR (xs (i + 1).toNatClampNeg) (xs (i + 2).toNatClampNeg))
  have hW := lc_w (cw_saved l hl9 G o σ (xs (i + 1).toNatClampNeg) (xs (i + 2).toNatClampNeg)) τ
  have hM := fun z => lc_m (cy_Model_saved l G τ (xs (i + 1).toNatClampNeg) (xs (i + 2).toNatClampNeg)) z
  generalize wres o σ (x_Top_saved σ (xs (i + 1).toNatClampNeg) (xs (i + 2).toNatClampNeg)) 1 = r at hT hW
  generalize y_Model_saved τ (xs (i + 1).toNatClampNeg) (xs (i + 2).toNatClampNeg) = pp at hT hM
  refine lv_aload_n hx hb dL_law_365 rfl (lv_at hl 1 rfl) ?_
  refine lv_aload_n hx hb dL_law_366 rfl (lv_at hl 0 rfl) ?_
  refine lv_iload hx hb dL_law_367 (lv_at hl 4 rfl) ?_
  refine lv_iconst (v := 1) hx hb dL_law_369 (by decide) ?_
  refine lv_iadd hx hb dL_law_370 ?_
  refine va_sld hx hb hX hbl hbA hS h1 dL_law_371 ?_
  refine lv_aload_n hx hb dL_law_372 rfl (lv_at hl 0 rfl) ?_
  refine lv_iload hx hb dL_law_373 (lv_at hl 4 rfl) ?_
  refine lv_iconst (v := 2) hx hb dL_law_375 (by decide) ?_
  refine lv_iadd hx hb dL_law_376 ?_
  refine va_sld hx hb hX hbl hbA hS h2 dL_law_377 ?_
  refine lv_aload_n hx hb dL_law_378 rfl (lv_at hl 3 rfl) ?_
  refine km_SW (rest := []) hW ⟨hx, hb, hml, hown, hta⟩ (vx_cwSW 4 hta (gi_SW kw_263 kw_264 kw_115 kw_265) rfl rfl rfl (by decide +kernel) ⟨by decide, by decide⟩) cZX_ok hK hP hD hS hA hZ rfl hl.1 rfl (Nat.le_of_ble_eq_true rfl) dL_law_379 ⟨hc, hs⟩ (fun H locs hP hD hS => ?_)
  refine lv_istore (lv' := [(5, .int r.1), (0, .ref b), (1, .ref (gA G 0)), (2, .ref (gA G 20)), (3, .ref (gA G 13)), (4, .int i)]) hx hb dL_law_382 hl (by decide) rfl (fun ls hl => ?_)
  refine lv_aload_n hx hb dL_law_384 rfl (lv_at hl 3 rfl) ?_
  refine lv_aload_n hx hb dL_law_385 rfl (lv_at hl 1 rfl) ?_
  refine lv_iload hx hb dL_law_386 (lv_at hl 5 rfl) ?_
  refine lv_iconst (v := 1) hx hb dL_law_388 (by decide) ?_
  refine lv_iadd hx hb dL_law_389 ?_
  refine va_sld hx hb hX hbl hbA hS h1 dL_law_390 ?_
  refine lv_aload_n hx hb dL_law_391 rfl (lv_at hl 1 rfl) ?_
  refine lv_iload hx hb dL_law_392 (lv_at hl 5 rfl) ?_
  refine lv_iconst (v := 2) hx hb dL_law_394 (by decide) ?_
  refine lv_iadd hx hb dL_law_395 ?_
  refine va_sld hx hb hX hbl hbA hS h2 dL_law_396 ?_
  refine kc_Vb (rest := []) (hM r.2) ⟨hx, hb, hml, hown, hta⟩ (cwV 2 hta (gi_V kw_278 kw_279 kw_280 kw_5 kw_281) rfl rfl rfl (by decide +kernel) ⟨by decide, by decide⟩) (va_recv hK hP (ci := 9) (q0 := 0) rfl rfl) cZX_ok hK hP hD hS hA hZ rfl hl.1 rfl (Nat.le_of_ble_eq_true rfl) dL_law_397 ⟨hc, hs⟩ (fun H locs hP hD hS => ?_)
  refine lv_istore (lv' := [(6, .int pp.1), (5, .int r.1), (0, .ref b), (1, .ref (gA G 0)), (2, .ref (gA G 20)), (3, .ref (gA G 13)), (4, .int i)]) hx hb dL_law_400 hl (by decide) rfl (fun ls hl => ?_)
  refine lv_aload_n hx hb dL_law_402 rfl (lv_at hl 4 rfl) ?_
  refine kc_Vr (rest := []) (lc_m (cy_Model_thrown l G pp.2) r.2) ⟨hx, hb, hml, hown, hta⟩ (cwV 0 hta (gi_V kw_158 kw_159 kw_160 kw_5 kw_161) rfl rfl rfl (by decide +kernel) ⟨by decide, by decide⟩) (va_recv hK hP (ci := 9) (q0 := 0) rfl rfl) cZX_ok hK hP hD hS hA hZ rfl hl.1 rfl (Nat.le_of_ble_eq_true rfl) dL_law_403 ⟨hc, hs⟩ (fun H locs hP hD hS => ?_)
  refine lv_iload hx hb dL_law_406 (lv_at hl 1 rfl) ?_
  refine lv_icmp_eq (tgt := 413) hx hb dL_law_408 (by decide) (fun _ => ?_) (fun h => absurd hT.1 h)
  refine lv_iload hx hb dL_law_413 (lv_at hl 1 rfl) ?_
  refine lv_if_ne (tgt := 430) hx hb dL_law_415 (by decide) (fun _ => ?_) (fun hz => ?_)
  · skip
    refine lv_goto (tgt := 636) hx hb dL_law_430 (by decide) ?_
    exact kk r.2.1 r.2.2 pp.2 _ _ _ hT.2.2 hP hD hS (lv_sub hl [2, 3, 4, 5, 6] rfl)
  · skip
    refine lv_aload_n hx hb dL_law_418 rfl (lv_at hl 5 rfl) ?_
    refine lv_iconst (v := 0) hx hb dL_law_419 (by decide) ?_
    refine va_lald hx hb hK hP 6 2 rfl rfl (by unfold vp_in; decide) dL_law_420 ?_
    refine lv_iload hx hb dL_law_421 (lv_at hl 0 rfl) ?_
    refine lv_i2l (v := (pp.1).toInt64) hx hb dL_law_423 rfl ?_
    refine W.lcmp hx hb dL_law_424 ?_
    refine lv_if_eq (tgt := 430) hx hb dL_law_425 (by decide) (fun _ => ?_) (fun h => absurd (by rw [hT.2.1 hz]; exact lg_self _) h)
    refine lv_goto (tgt := 636) hx hb dL_law_430 (by decide) ?_
    exact kk r.2.1 r.2.2 pp.2 _ _ _ hT.2.2 hP hD hS (lv_sub hl [2, 3, 4, 5, 6] rfl)
set_option maxRecDepth 20000 in
set_option maxHeartbeats 4000000 in
theorem law_step (hl9 : l.stackTraces = false) (C0 : lw_At p s m meth c b L xs) (hK : va_K (gD G) vwCl (gT G) s) (hZ : cZX G (lA s) s s.heap) (hc : cells + 1 ≤ 601024) (hs : slots + 6 ≤ 7293034) (h1 : vp_in (i + 1) L) (h2 : vp_in (i + 2) L) (h3 : vp_in (i + 3) L) (hR : RB σ τ) (hP : va_P (gD G) vwCl (wLaw G (τ, (o, σ))) H) (hD : va_D (lA s) (wLaw G (τ, (o, σ)))) (hS : va_S (lA s) s.heap H locs) (hl : lv_has ls 7 (lLoc G b i)) (kk : lK p l e s m below meth c b G cells slots Q i) : W p l e room_1 s m #[Value.ref b] below meth c H locs cells slots Q (F0 m 524 ls []) := by
  obtain ⟨hx, hb, hr, hml, hown, hts, hX, hbl, hlocks, hgv⟩ := C0
  have hta : ∀ w ∈ lw_all, w.before #[Value.ref b] s = true := fun w h => hts w (List.mem_filter.mp h).1
  have hA : ∀ q : Nat, s.heap.size ≤ q → lA s q := fun _ h => h
  have hbA : ¬ lA s b := Nat.not_le.mpr hbl
  have hl : lv_has ls 7 [(0, .ref b), (1, .ref (gA G 0)), (2, .ref (gA G 20)), (3, .ref (gA G 13)), (4, .int i)] := hl
  have hT := res_L (o := o) (step_T hR (xs (i + 1).toNatClampNeg))
  have hW := lc_w (cw_step l hl9 G o σ (xs (i + 1).toNatClampNeg)) τ
  have hM := fun z => lc_m (cy_Model_step l G τ (xs (i + 1).toNatClampNeg)) z
  generalize wres o σ (x_Top_step σ (xs (i + 1).toNatClampNeg)) 1 = r at hT hW
  generalize y_Model_step τ (xs (i + 1).toNatClampNeg) = pp at hT hM
  refine lv_aload_n hx hb dL_law_524 rfl (lv_at hl 1 rfl) ?_
  refine lv_aload_n hx hb dL_law_525 rfl (lv_at hl 0 rfl) ?_
  refine lv_iload hx hb dL_law_526 (lv_at hl 4 rfl) ?_
  refine lv_iconst (v := 1) hx hb dL_law_528 (by decide) ?_
  refine lv_iadd hx hb dL_law_529 ?_
  refine va_sld hx hb hX hbl hbA hS h1 dL_law_530 ?_
  refine lv_aload_n hx hb dL_law_531 rfl (lv_at hl 3 rfl) ?_
  refine km_SW (rest := []) hW ⟨hx, hb, hml, hown, hta⟩ (vx_cwSW 3 hta (gi_SW kw_301 kw_302 kw_115 kw_303) rfl rfl rfl (by decide +kernel) ⟨by decide, by decide⟩) cZX_ok hK hP hD hS hA hZ rfl hl.1 rfl (Nat.le_of_ble_eq_true rfl) dL_law_532 ⟨hc, hs⟩ (fun H locs hP hD hS => ?_)
  refine lv_istore (lv' := [(5, .int r.1), (0, .ref b), (1, .ref (gA G 0)), (2, .ref (gA G 20)), (3, .ref (gA G 13)), (4, .int i)]) hx hb dL_law_535 hl (by decide) rfl (fun ls hl => ?_)
  refine lv_aload_n hx hb dL_law_537 rfl (lv_at hl 3 rfl) ?_
  refine lv_aload_n hx hb dL_law_538 rfl (lv_at hl 1 rfl) ?_
  refine lv_iload hx hb dL_law_539 (lv_at hl 5 rfl) ?_
  refine lv_iconst (v := 1) hx hb dL_law_541 (by decide) ?_
  refine lv_iadd hx hb dL_law_542 ?_
  refine va_sld hx hb hX hbl hbA hS h1 dL_law_543 ?_
  refine kc_Vb (rest := []) (hM r.2) ⟨hx, hb, hml, hown, hta⟩ (cwV 1 hta (gi_V kw_716 kw_717 kw_718 kw_5 kw_719) rfl rfl rfl (by decide +kernel) ⟨by decide, by decide⟩) (va_recv hK hP (ci := 9) (q0 := 0) rfl rfl) cZX_ok hK hP hD hS hA hZ rfl hl.1 rfl (Nat.le_of_ble_eq_true rfl) dL_law_544 ⟨hc, hs⟩ (fun H locs hP hD hS => ?_)
  refine lv_istore (lv' := [(6, .int pp.1), (5, .int r.1), (0, .ref b), (1, .ref (gA G 0)), (2, .ref (gA G 20)), (3, .ref (gA G 13)), (4, .int i)]) hx hb dL_law_547 hl (by decide) rfl (fun ls hl => ?_)
  refine lv_aload_n hx hb dL_law_549 rfl (lv_at hl 4 rfl) ?_
  refine kc_Vr (rest := []) (lc_m (cy_Model_thrown l G pp.2) r.2) ⟨hx, hb, hml, hown, hta⟩ (cwV 0 hta (gi_V kw_158 kw_159 kw_160 kw_5 kw_161) rfl rfl rfl (by decide +kernel) ⟨by decide, by decide⟩) (va_recv hK hP (ci := 9) (q0 := 0) rfl rfl) cZX_ok hK hP hD hS hA hZ rfl hl.1 rfl (Nat.le_of_ble_eq_true rfl) dL_law_550 ⟨hc, hs⟩ (fun H locs hP hD hS => ?_)
  refine lv_iload hx hb dL_law_553 (lv_at hl 1 rfl) ?_
  refine lv_icmp_eq (tgt := 560) hx hb dL_law_555 (by decide) (fun _ => ?_) (fun h => absurd hT.1 h)
  refine lv_iload hx hb dL_law_560 (lv_at hl 1 rfl) ?_
  refine lv_if_ne (tgt := 577) hx hb dL_law_562 (by decide) (fun _ => ?_) (fun hz => ?_)
  · skip
    refine lv_goto (tgt := 636) hx hb dL_law_577 (by decide) ?_
    exact kk r.2.1 r.2.2 pp.2 _ _ _ hT.2.2 hP hD hS (lv_sub hl [2, 3, 4, 5, 6] rfl)
  · skip
    refine lv_aload_n hx hb dL_law_565 rfl (lv_at hl 5 rfl) ?_
    refine lv_iconst (v := 0) hx hb dL_law_566 (by decide) ?_
    refine va_lald hx hb hK hP 6 2 rfl rfl (by unfold vp_in; decide) dL_law_567 ?_
    refine lv_iload hx hb dL_law_568 (lv_at hl 0 rfl) ?_
    refine lv_i2l (v := (pp.1).toInt64) hx hb dL_law_570 rfl ?_
    refine W.lcmp hx hb dL_law_571 ?_
    refine lv_if_eq (tgt := 577) hx hb dL_law_572 (by decide) (fun _ => ?_) (fun h => absurd (by rw [hT.2.1 hz]; exact lg_self _) h)
    refine lv_goto (tgt := 636) hx hb dL_law_577 (by decide) ?_
    exact kk r.2.1 r.2.2 pp.2 _ _ _ hT.2.2 hP hD hS (lv_sub hl [2, 3, 4, 5, 6] rfl)
set_option maxRecDepth 20000 in
set_option maxHeartbeats 4000000 in
theorem law_count (hl9 : l.stackTraces = false) (C0 : lw_At p s m meth c b L xs) (hK : va_K (gD G) vwCl (gT G) s) (hZ : cZX G (lA s) s s.heap) (hc : cells + 1 ≤ 601024) (hs : slots + 6 ≤ 7293034) (h1 : vp_in (i + 1) L) (h2 : vp_in (i + 2) L) (h3 : vp_in (i + 3) L) (hR : RB σ τ) (hP : va_P (gD G) vwCl (wLaw G (τ, (o, σ))) H) (hD : va_D (lA s) (wLaw G (τ, (o, σ)))) (hS : va_S (lA s) s.heap H locs) (hl : lv_has ls 7 (lLoc G b i)) (kk : lK p l e s m below meth c b G cells slots Q i) : W p l e room_1 s m #[Value.ref b] below meth c H locs cells slots Q (F0 m 580 ls []) := by
  obtain ⟨hx, hb, hr, hml, hown, hts, hX, hbl, hlocks, hgv⟩ := C0
  have hta : ∀ w ∈ lw_all, w.before #[Value.ref b] s = true := fun w h => hts w (List.mem_filter.mp h).1
  have hA : ∀ q : Nat, s.heap.size ≤ q → lA s q := fun _ h => h
  have hbA : ¬ lA s b := Nat.not_le.mpr hbl
  have hl : lv_has ls 7 [(0, .ref b), (1, .ref (gA G 0)), (2, .ref (gA G 20)), (3, .ref (gA G 13)), (4, .int i)] := hl
  have hT := res_L (o := o) (count_T hR (xs (i + 1).toNatClampNeg))
  have hW := lc_w (cw_count l hl9 G o σ (xs (i + 1).toNatClampNeg)) τ
  have hM := fun z => lc_m (cy_Model_count l G τ (xs (i + 1).toNatClampNeg)) z
  generalize wres o σ (x_Top_count σ (xs (i + 1).toNatClampNeg)) 1 = r at hT hW
  generalize y_Model_count τ (xs (i + 1).toNatClampNeg) = pp at hT hM
  refine lv_aload_n hx hb dL_law_580 rfl (lv_at hl 1 rfl) ?_
  refine lv_aload_n hx hb dL_law_581 rfl (lv_at hl 0 rfl) ?_
  refine lv_iload hx hb dL_law_582 (lv_at hl 4 rfl) ?_
  refine lv_iconst (v := 1) hx hb dL_law_584 (by decide) ?_
  refine lv_iadd hx hb dL_law_585 ?_
  refine va_sld hx hb hX hbl hbA hS h1 dL_law_586 ?_
  refine lv_aload_n hx hb dL_law_587 rfl (lv_at hl 3 rfl) ?_
  refine km_SW (rest := []) hW ⟨hx, hb, hml, hown, hta⟩ (vx_cwSW 3 hta (gi_SW kw_948 kw_949 kw_115 kw_950) rfl rfl rfl (by decide +kernel) ⟨by decide, by decide⟩) cZX_ok hK hP hD hS hA hZ rfl hl.1 rfl (Nat.le_of_ble_eq_true rfl) dL_law_588 ⟨hc, hs⟩ (fun H locs hP hD hS => ?_)
  refine lv_istore (lv' := [(5, .int r.1), (0, .ref b), (1, .ref (gA G 0)), (2, .ref (gA G 20)), (3, .ref (gA G 13)), (4, .int i)]) hx hb dL_law_591 hl (by decide) rfl (fun ls hl => ?_)
  refine lv_aload_n hx hb dL_law_593 rfl (lv_at hl 3 rfl) ?_
  refine lv_aload_n hx hb dL_law_594 rfl (lv_at hl 1 rfl) ?_
  refine lv_iload hx hb dL_law_595 (lv_at hl 5 rfl) ?_
  refine lv_iconst (v := 1) hx hb dL_law_597 (by decide) ?_
  refine lv_iadd hx hb dL_law_598 ?_
  refine va_sld hx hb hX hbl hbA hS h1 dL_law_599 ?_
  refine kc_Vb (rest := []) (hM r.2) ⟨hx, hb, hml, hown, hta⟩ (cwV 1 hta (gi_V kw_963 kw_964 kw_965 kw_5 kw_966) rfl rfl rfl (by decide +kernel) ⟨by decide, by decide⟩) (va_recv hK hP (ci := 9) (q0 := 0) rfl rfl) cZX_ok hK hP hD hS hA hZ rfl hl.1 rfl (Nat.le_of_ble_eq_true rfl) dL_law_600 ⟨hc, hs⟩ (fun H locs hP hD hS => ?_)
  refine lv_istore (lv' := [(6, .int pp.1), (5, .int r.1), (0, .ref b), (1, .ref (gA G 0)), (2, .ref (gA G 20)), (3, .ref (gA G 13)), (4, .int i)]) hx hb dL_law_603 hl (by decide) rfl (fun ls hl => ?_)
  refine lv_aload_n hx hb dL_law_605 rfl (lv_at hl 4 rfl) ?_
  refine kc_Vr (rest := []) (lc_m (cy_Model_thrown l G pp.2) r.2) ⟨hx, hb, hml, hown, hta⟩ (cwV 0 hta (gi_V kw_158 kw_159 kw_160 kw_5 kw_161) rfl rfl rfl (by decide +kernel) ⟨by decide, by decide⟩) (va_recv hK hP (ci := 9) (q0 := 0) rfl rfl) cZX_ok hK hP hD hS hA hZ rfl hl.1 rfl (Nat.le_of_ble_eq_true rfl) dL_law_606 ⟨hc, hs⟩ (fun H locs hP hD hS => ?_)
  refine lv_iload hx hb dL_law_609 (lv_at hl 1 rfl) ?_
  refine lv_icmp_eq (tgt := 616) hx hb dL_law_611 (by decide) (fun _ => ?_) (fun h => absurd hT.1 h)
  refine lv_iload hx hb dL_law_616 (lv_at hl 1 rfl) ?_
  refine lv_if_ne (tgt := 633) hx hb dL_law_618 (by decide) (fun _ => ?_) (fun hz => ?_)
  · skip
    refine lv_goto (tgt := 636) hx hb dL_law_633 (by decide) ?_
    exact kk r.2.1 r.2.2 pp.2 _ _ _ hT.2.2 hP hD hS (lv_sub hl [2, 3, 4, 5, 6] rfl)
  · skip
    refine lv_aload_n hx hb dL_law_621 rfl (lv_at hl 5 rfl) ?_
    refine lv_iconst (v := 0) hx hb dL_law_622 (by decide) ?_
    refine va_lald hx hb hK hP 6 2 rfl rfl (by unfold vp_in; decide) dL_law_623 ?_
    refine lv_iload hx hb dL_law_624 (lv_at hl 0 rfl) ?_
    refine lv_i2l (v := (pp.1).toInt64) hx hb dL_law_626 rfl ?_
    refine W.lcmp hx hb dL_law_627 ?_
    refine lv_if_eq (tgt := 633) hx hb dL_law_628 (by decide) (fun _ => ?_) (fun h => absurd (by rw [hT.2.1 hz]; exact lg_self _) h)
    refine lv_goto (tgt := 636) hx hb dL_law_633 (by decide) ?_
    exact kk r.2.1 r.2.2 pp.2 _ _ _ hT.2.2 hP hD hS (lv_sub hl [2, 3, 4, 5, 6] rfl)
set_option maxRecDepth 20000 in
set_option maxHeartbeats 4000000 in
theorem law_set (hl9 : l.stackTraces = false) (C0 : lw_At p s m meth c b L xs) (hK : va_K (gD G) vwCl (gT G) s) (hZ : cZX G (lA s) s s.heap) (hc : cells + 1 ≤ 601024) (hs : slots + 6 ≤ 7293034) (h1 : vp_in (i + 1) L) (h2 : vp_in (i + 2) L) (h3 : vp_in (i + 3) L) (hR : RB σ τ) (hP : va_P (gD G) vwCl (wLaw G (τ, (o, σ))) H) (hD : va_D (lA s) (wLaw G (τ, (o, σ)))) (hS : va_S (lA s) s.heap H locs) (hl : lv_has ls 7 (lLoc G b i)) (kk : lK p l e s m below meth c b G cells slots Q i) : W p l e room_1 s m #[Value.ref b] below meth c H locs cells slots Q (F0 m 212 ls []) := by
  obtain ⟨hx, hb, hr, hml, hown, hts, hX, hbl, hlocks, hgv⟩ := C0
  have hta : ∀ w ∈ lw_all, w.before #[Value.ref b] s = true := fun w h => hts w (List.mem_filter.mp h).1
  have hA : ∀ q : Nat, s.heap.size ≤ q → lA s q := fun _ h => h
  have hbA : ¬ lA s b := Nat.not_le.mpr hbl
  have hl : lv_has ls 7 [(0, .ref b), (1, .ref (gA G 0)), (2, .ref (gA G 20)), (3, .ref (gA G 13)), (4, .int i)] := hl
  have hT := res_V (o := o) (set_T hR (xs (i + 1).toNatClampNeg) (xs (i + 2).toNatClampNeg) (xs (i + 3).toNatClampNeg))
  have hW := lc_w (cw_set l hl9 G o σ (xs (i + 1).toNatClampNeg) (xs (i + 2).toNatClampNeg) (xs (i + 3).toNatClampNeg)) τ
  have hM := fun z => lc_mv (cy_Model_set l G τ (xs (i + 1).toNatClampNeg) (xs (i + 2).toNatClampNeg) (xs (i + 3).toNatClampNeg)) z
  generalize wresv o σ (x_Top_set σ (xs (i + 1).toNatClampNeg) (xs (i + 2).toNatClampNeg) (xs (i + 3).toNatClampNeg)) (nI (x_Top_set σ (xs (i + 1).toNatClampNeg) (xs (i + 2).toNatClampNeg) (xs (i + 3).toNatClampNeg)).1) = r at hT hW
  generalize y_Model_set τ (xs (i + 1).toNatClampNeg) (xs (i + 2).toNatClampNeg) (xs (i + 3).toNatClampNeg) = pp at hT hM
  refine lv_aload_n hx hb dL_law_212 rfl (lv_at hl 1 rfl) ?_
  refine lv_aload_n hx hb dL_law_213 rfl (lv_at hl 0 rfl) ?_
  refine lv_iload hx hb dL_law_214 (lv_at hl 4 rfl) ?_
  refine lv_iconst (v := 1) hx hb dL_law_216 (by decide) ?_
  refine lv_iadd hx hb dL_law_217 ?_
  refine va_sld hx hb hX hbl hbA hS h1 dL_law_218 ?_
  refine lv_aload_n hx hb dL_law_219 rfl (lv_at hl 0 rfl) ?_
  refine lv_iload hx hb dL_law_220 (lv_at hl 4 rfl) ?_
  refine lv_iconst (v := 2) hx hb dL_law_222 (by decide) ?_
  refine lv_iadd hx hb dL_law_223 ?_
  refine va_sld hx hb hX hbl hbA hS h2 dL_law_224 ?_
  refine lv_aload_n hx hb dL_law_225 rfl (lv_at hl 0 rfl) ?_
  refine lv_iload hx hb dL_law_226 (lv_at hl 4 rfl) ?_
  refine lv_iconst (v := 3) hx hb dL_law_228 (by decide) ?_
  refine lv_iadd hx hb dL_law_229 ?_
  refine va_sld hx hb hX hbl hbA hS h3 dL_law_230 ?_
  refine km_SW (rest := []) hW ⟨hx, hb, hml, hown, hta⟩ (vx_cwSW 4 hta (gi_SW kw_173 kw_174 kw_115 kw_175) rfl rfl rfl (by decide +kernel) ⟨by decide, by decide⟩) cZX_ok hK hP hD hS hA hZ rfl hl.1 rfl (Nat.le_of_ble_eq_true rfl) dL_law_231 ⟨hc, hs⟩ (fun H locs hP hD hS => ?_)
  refine lv_istore (lv' := [(5, .int r.1), (0, .ref b), (1, .ref (gA G 0)), (2, .ref (gA G 20)), (3, .ref (gA G 13)), (4, .int i)]) hx hb dL_law_234 hl (by decide) rfl (fun ls hl => ?_)
  refine lv_aload_n hx hb dL_law_236 rfl (lv_at hl 3 rfl) ?_
  refine lv_aload_n hx hb dL_law_237 rfl (lv_at hl 1 rfl) ?_
  refine lv_iload hx hb dL_law_238 (lv_at hl 5 rfl) ?_
  refine lv_iconst (v := 1) hx hb dL_law_240 (by decide) ?_
  refine lv_iadd hx hb dL_law_241 ?_
  refine va_sld hx hb hX hbl hbA hS h1 dL_law_242 ?_
  refine lv_aload_n hx hb dL_law_243 rfl (lv_at hl 1 rfl) ?_
  refine lv_iload hx hb dL_law_244 (lv_at hl 5 rfl) ?_
  refine lv_iconst (v := 2) hx hb dL_law_246 (by decide) ?_
  refine lv_iadd hx hb dL_law_247 ?_
  refine va_sld hx hb hX hbl hbA hS h2 dL_law_248 ?_
  refine lv_aload_n hx hb dL_law_249 rfl (lv_at hl 1 rfl) ?_
  refine lv_iload hx hb dL_law_250 (lv_at hl 5 rfl) ?_
  refine lv_iconst (v := 3) hx hb dL_law_252 (by decide) ?_
  refine lv_iadd hx hb dL_law_253 ?_
  refine va_sld hx hb hX hbl hbA hS h3 dL_law_254 ?_
  refine kc_Vv (rest := []) (hM r.2) ⟨hx, hb, hml, hown, hta⟩ (cwV 3 hta (gi_V kw_199 kw_200 kw_201 kw_5 kw_202) rfl rfl rfl (by decide +kernel) ⟨by decide, by decide⟩) (va_recv hK hP (ci := 9) (q0 := 0) rfl rfl) cZX_ok hK hP hD hS hA hZ rfl hl.1 rfl (Nat.le_of_ble_eq_true rfl) dL_law_255 ⟨hc, hs⟩ (fun H locs hP hD hS => ?_)
  refine lv_aload_n hx hb dL_law_258 rfl (lv_at hl 3 rfl) ?_
  refine kc_Vr (rest := []) (lc_m (cy_Model_thrown l G pp) r.2) ⟨hx, hb, hml, hown, hta⟩ (cwV 0 hta (gi_V kw_158 kw_159 kw_160 kw_5 kw_161) rfl rfl rfl (by decide +kernel) ⟨by decide, by decide⟩) (va_recv hK hP (ci := 9) (q0 := 0) rfl rfl) cZX_ok hK hP hD hS hA hZ rfl hl.1 rfl (Nat.le_of_ble_eq_true rfl) dL_law_259 ⟨hc, hs⟩ (fun H locs hP hD hS => ?_)
  refine lv_iload hx hb dL_law_262 (lv_at hl 0 rfl) ?_
  refine lv_icmp_eq (tgt := 269) hx hb dL_law_264 (by decide) (fun _ => ?_) (fun h => absurd hT.1 h)
  refine lv_goto (tgt := 636) hx hb dL_law_269 (by decide) ?_
  exact kk r.2.1 r.2.2 pp _ _ _ hT.2 hP hD hS (lv_sub hl [1, 2, 3, 4, 5] rfl)
set_option maxRecDepth 20000 in
set_option maxHeartbeats 4000000 in
theorem law_status (hl9 : l.stackTraces = false) (C0 : lw_At p s m meth c b L xs) (hK : va_K (gD G) vwCl (gT G) s) (hZ : cZX G (lA s) s s.heap) (hc : cells + 1 ≤ 601024) (hs : slots + 6 ≤ 7293034) (h1 : vp_in (i + 1) L) (h2 : vp_in (i + 2) L) (h3 : vp_in (i + 3) L) (hR : RB σ τ) (hP : va_P (gD G) vwCl (wLaw G (τ, (o, σ))) H) (hD : va_D (lA s) (wLaw G (τ, (o, σ)))) (hS : va_S (lA s) s.heap H locs) (hl : lv_has ls 7 (lLoc G b i)) (kk : lK p l e s m below meth c b G cells slots Q i) : W p l e room_1 s m #[Value.ref b] below meth c H locs cells slots Q (F0 m 340 ls []) := by
  obtain ⟨hx, hb, hr, hml, hown, hts, hX, hbl, hlocks, hgv⟩ := C0
  have hta : ∀ w ∈ lw_all, w.before #[Value.ref b] s = true := fun w h => hts w (List.mem_filter.mp h).1
  have hA : ∀ q : Nat, s.heap.size ≤ q → lA s q := fun _ h => h
  have hbA : ¬ lA s b := Nat.not_le.mpr hbl
  have hl : lv_has ls 7 [(0, .ref b), (1, .ref (gA G 0)), (2, .ref (gA G 20)), (3, .ref (gA G 13)), (4, .int i)] := hl
  have hT := status_T hR (xs (i + 1).toNatClampNeg)
  have hW := lc_s (cx_Top_status l G σ (xs (i + 1).toNatClampNeg)) o τ
  have hM := fun z => lc_m (cy_Model_status l G τ (xs (i + 1).toNatClampNeg)) z
  generalize x_Top_status σ (xs (i + 1).toNatClampNeg) = r at hT hW
  generalize y_Model_status τ (xs (i + 1).toNatClampNeg) = pp at hT hM
  refine lv_aload_n hx hb dL_law_340 rfl (lv_at hl 1 rfl) ?_
  refine lv_aload_n hx hb dL_law_341 rfl (lv_at hl 0 rfl) ?_
  refine lv_iload hx hb dL_law_342 (lv_at hl 4 rfl) ?_
  refine lv_iconst (v := 1) hx hb dL_law_344 (by decide) ?_
  refine lv_iadd hx hb dL_law_345 ?_
  refine va_sld hx hb hX hbl hbA hS h1 dL_law_346 ?_
  refine kc_Vb (rest := []) hW ⟨hx, hb, hml, hown, hta⟩ (cwV 1 hta (gi_V kw_232 kw_233 kw_234 kw_2 kw_235) rfl rfl rfl (by decide +kernel) ⟨by decide, by decide⟩) (va_recv hK hP (ci := 8) (q0 := 7) rfl rfl) cZX_ok hK hP hD hS hA hZ rfl hl.1 rfl (Nat.le_of_ble_eq_true rfl) dL_law_347 ⟨Nat.le_trans (Nat.le_succ _) hc, Nat.le_trans (Nat.le_add_right _ 6) hs⟩ (fun H locs hP hD hS => ?_)
  refine lv_aload_n hx hb dL_law_350 rfl (lv_at hl 2 rfl) ?_
  refine lv_aload_n hx hb dL_law_351 rfl (lv_at hl 0 rfl) ?_
  refine lv_iload hx hb dL_law_352 (lv_at hl 4 rfl) ?_
  refine lv_iconst (v := 1) hx hb dL_law_354 (by decide) ?_
  refine lv_iadd hx hb dL_law_355 ?_
  refine va_sld hx hb hX hbl hbA hS h1 dL_law_356 ?_
  refine kc_Vb (rest := [.int r.1]) (hM (o, r.2)) ⟨hx, hb, hml, hown, hta⟩ (cwV 1 hta (gi_V kw_250 kw_251 kw_252 kw_5 kw_253) rfl rfl rfl (by decide +kernel) ⟨by decide, by decide⟩) (va_recv hK hP (ci := 9) (q0 := 0) rfl rfl) cZX_ok hK hP hD hS hA hZ rfl hl.1 rfl (Nat.le_of_ble_eq_true rfl) dL_law_357 ⟨Nat.le_trans (Nat.le_succ _) hc, Nat.le_trans (Nat.le_add_right _ 6) hs⟩ (fun H locs hP hD hS => ?_)
  refine lv_icmp_eq (tgt := 636) hx hb dL_law_360 (by decide) (fun _ => ?_) (fun h => absurd hT.1 h)
  refine W.widen (k := cells + 1) (n := slots + 6) (Nat.le_succ _) (Nat.le_add_right _ 6) ?_
  exact kk o r.2 pp.2 _ _ _ hT.2 hP hD hS (lv_sub hl [0, 1, 2, 3, 4] rfl)
set_option maxRecDepth 20000 in
set_option maxHeartbeats 4000000 in
theorem law_line3 (hl9 : l.stackTraces = false) (C0 : lw_At p s m meth c b L xs) (hK : va_K (gD G) vwCl (gT G) s) (hZ : cZX G (lA s) s s.heap) (hc : cells + 1 ≤ 601024) (hs : slots + 6 ≤ 7293034) (h1 : vp_in (i + 1) L) (h2 : vp_in (i + 2) L) (h3 : vp_in (i + 3) L) (v : Bool) (r : Int32 × ((Nat → Int64) × CS)) (pp : Bool × MS) (hT : LZ r pp) (hM : KB l yX11_line (Cond.code yX11_line cX11_line 4 (some .boolean) :: lw_all) (kr 1) (gD G) vwCl (gT G) (cZX G) (wLaw G) [.ref (gA G 20), .int (xs (i + 1).toNatClampNeg), .int (b01 v)] (τ, r.2) (b01 pp.1, (pp.2, r.2))) (hP : va_P (gD G) vwCl (wLaw G (τ, r.2)) H) (hD : va_D (lA s) (wLaw G (τ, r.2))) (hS : va_S (lA s) s.heap H locs) (hl : lv_has ls 7 [(5, .int r.1), (0, .ref b), (1, .ref (gA G 0)), (2, .ref (gA G 20)), (3, .ref (gA G 13)), (4, .int i)]) (kk : lK p l e s m below meth c b G cells slots Q i) : W p l e room_1 s m #[Value.ref b] below meth c H locs (cells + 1) (slots + 6) Q (F0 m 481 ls [.int (b01 v), .int (xs (i + 1).toNatClampNeg), .ref (gA G 20)]) := by
  obtain ⟨hx, hb, hr, hml, hown, hts, hX, hbl, hlocks, hgv⟩ := C0
  have hta : ∀ w ∈ lw_all, w.before #[Value.ref b] s = true := fun w h => hts w (List.mem_filter.mp h).1
  have hA : ∀ q : Nat, s.heap.size ≤ q → lA s q := fun _ h => h
  have hbA : ¬ lA s b := Nat.not_le.mpr hbl
  refine kc_Vz (q := (pp.1, (pp.2, r.2))) (rest := []) hM ⟨hx, hb, hml, hown, hta⟩ (cwV 2 hta (gi_V kw_297 kw_298 kw_299 kw_5 kw_300) rfl rfl rfl (by decide +kernel) ⟨by decide, by decide⟩) (va_recv hK hP (ci := 9) (q0 := 0) rfl rfl) cZX_ok hK hP hD hS hA hZ rfl hl.1 rfl (Nat.le_of_ble_eq_true rfl) dL_law_481 ⟨hc, hs⟩ (fun H locs hP hD hS => ?_)
  refine lv_istore (lv' := [(6, .int (b01 pp.1)), (5, .int r.1), (0, .ref b), (1, .ref (gA G 0)), (2, .ref (gA G 20)), (3, .ref (gA G 13)), (4, .int i)]) hx hb dL_law_484 hl (by decide) rfl (fun ls hl => ?_)
  refine lv_aload_n hx hb dL_law_486 rfl (lv_at hl 4 rfl) ?_
  refine kc_Vr (rest := []) (lc_m (cy_Model_thrown l G pp.2) r.2) ⟨hx, hb, hml, hown, hta⟩ (cwV 0 hta (gi_V kw_158 kw_159 kw_160 kw_5 kw_161) rfl rfl rfl (by decide +kernel) ⟨by decide, by decide⟩) (va_recv hK hP (ci := 9) (q0 := 0) rfl rfl) cZX_ok hK hP hD hS hA hZ rfl hl.1 rfl (Nat.le_of_ble_eq_true rfl) dL_law_487 ⟨hc, hs⟩ (fun H locs hP hD hS => ?_)
  refine lv_iload hx hb dL_law_490 (lv_at hl 1 rfl) ?_
  refine lv_icmp_eq (tgt := 497) hx hb dL_law_492 (by decide) (fun _ => ?_) (fun h => absurd hT.1 h)
  refine lv_iload hx hb dL_law_497 (lv_at hl 1 rfl) ?_
  refine lv_if_ne (tgt := 521) hx hb dL_law_499 (by decide) (fun _ => ?_) (fun hz => ?_)
  · skip
    refine lv_goto (tgt := 636) hx hb dL_law_521 (by decide) ?_
    exact kk r.2.1 r.2.2 pp.2 _ _ _ hT.2.2 hP hD hS (lv_sub hl [2, 3, 4, 5, 6] rfl)
  · skip
    refine lv_aload_n hx hb dL_law_502 rfl (lv_at hl 5 rfl) ?_
    refine lv_iconst (v := 0) hx hb dL_law_503 (by decide) ?_
    refine va_lald hx hb hK hP 6 2 rfl rfl (by unfold vp_in; decide) dL_law_504 ?_
    refine lv_iload hx hb dL_law_505 (lv_at hl 0 rfl) ?_
    refine lv_if_eq (tgt := 514) hx hb dL_law_507 (by decide) (fun hy => ?_) (fun hy => ?_)
    · skip
      refine lv_lconst (v := 0) hx hb dL_law_514 (by decide) ?_
      refine W.lcmp hx hb dL_law_515 ?_
      have hv : r.2.1 (0 : Int32).toNatClampNeg = 0 := by rw [hT.2.1 hz, if_neg (b01_eq0.mp hy)]
      refine lv_if_eq (tgt := 521) hx hb dL_law_516 (by decide) (fun _ => ?_) (fun h => absurd (by rw [hv]; exact lg_self _) h)
      refine lv_goto (tgt := 636) hx hb dL_law_521 (by decide) ?_
      exact kk r.2.1 r.2.2 pp.2 _ _ _ hT.2.2 hP hD hS (lv_sub hl [2, 3, 4, 5, 6] rfl)
    · skip
      refine lv_lconst (v := 1) hx hb dL_law_510 (by decide) ?_
      refine lv_goto (tgt := 515) hx hb dL_law_511 (by decide) ?_
      refine W.lcmp hx hb dL_law_515 ?_
      have hv : r.2.1 (0 : Int32).toNatClampNeg = 1 := by rw [hT.2.1 hz, if_pos (Classical.byContradiction (fun h => hy (b01_eq0.mpr h)))]
      refine lv_if_eq (tgt := 521) hx hb dL_law_516 (by decide) (fun _ => ?_) (fun h => absurd (by rw [hv]; exact lg_self _) h)
      refine lv_goto (tgt := 636) hx hb dL_law_521 (by decide) ?_
      exact kk r.2.1 r.2.2 pp.2 _ _ _ hT.2.2 hP hD hS (lv_sub hl [2, 3, 4, 5, 6] rfl)
set_option maxRecDepth 20000 in
set_option maxHeartbeats 4000000 in
theorem law_line2 (hl9 : l.stackTraces = false) (C0 : lw_At p s m meth c b L xs) (hK : va_K (gD G) vwCl (gT G) s) (hZ : cZX G (lA s) s s.heap) (hc : cells + 1 ≤ 601024) (hs : slots + 6 ≤ 7293034) (h1 : vp_in (i + 1) L) (h2 : vp_in (i + 2) L) (h3 : vp_in (i + 3) L) (v : Bool) (hv : v = true ↔ ¬ (xs (i + 2).toNatClampNeg) = 0) (hR : RB σ τ) (hP : va_P (gD G) vwCl (wLaw G (τ, (o, σ))) H) (hD : va_D (lA s) (wLaw G (τ, (o, σ)))) (hS : va_S (lA s) s.heap H locs) (hl : lv_has ls 7 (lLoc G b i)) (kk : lK p l e s m below meth c b G cells slots Q i) : W p l e room_1 s m #[Value.ref b] below meth c H locs cells slots Q (F0 m 454 ls [.int (b01 v), .int (xs (i + 1).toNatClampNeg), .ref (gA G 0)]) := by
  obtain ⟨hx, hb, hr, hml, hown, hts, hX, hbl, hlocks, hgv⟩ := C0
  have hta : ∀ w ∈ lw_all, w.before #[Value.ref b] s = true := fun w h => hts w (List.mem_filter.mp h).1
  have hA : ∀ q : Nat, s.heap.size ≤ q → lA s q := fun _ h => h
  have hbA : ¬ lA s b := Nat.not_le.mpr hbl
  have hl : lv_has ls 7 [(0, .ref b), (1, .ref (gA G 0)), (2, .ref (gA G 20)), (3, .ref (gA G 13)), (4, .int i)] := hl
  have hT := res_Z (o := o) (line_T hR (xs (i + 1).toNatClampNeg) v)
  have hW := lc_w (cw_line l hl9 G o σ (xs (i + 1).toNatClampNeg) v) τ
  have hM := fun z => lc_m (cy_Model_line l G τ (xs (i + 1).toNatClampNeg) v) z
  generalize wresz o σ (x_Top_line σ (xs (i + 1).toNatClampNeg) v) 1 = r at hT hW
  generalize y_Model_line τ (xs (i + 1).toNatClampNeg) v = pp at hT hM
  refine lv_aload_n hx hb dL_law_454 rfl (lv_at hl 3 rfl) ?_
  refine km_SW (rest := []) hW ⟨hx, hb, hml, hown, hta⟩ (vx_cwSW 4 hta (gi_SW kw_282 kw_283 kw_115 kw_284) rfl rfl rfl (by decide +kernel) ⟨by decide, by decide⟩) cZX_ok hK hP hD hS hA hZ rfl hl.1 rfl (Nat.le_of_ble_eq_true rfl) dL_law_455 ⟨hc, hs⟩ (fun H locs hP hD hS => ?_)
  refine lv_istore (lv' := [(5, .int r.1), (0, .ref b), (1, .ref (gA G 0)), (2, .ref (gA G 20)), (3, .ref (gA G 13)), (4, .int i)]) hx hb dL_law_458 hl (by decide) rfl (fun ls hl => ?_)
  refine lv_aload_n hx hb dL_law_460 rfl (lv_at hl 3 rfl) ?_
  refine lv_aload_n hx hb dL_law_461 rfl (lv_at hl 1 rfl) ?_
  refine lv_iload hx hb dL_law_462 (lv_at hl 5 rfl) ?_
  refine lv_iconst (v := 1) hx hb dL_law_464 (by decide) ?_
  refine lv_iadd hx hb dL_law_465 ?_
  refine va_sld hx hb hX hbl hbA hS h1 dL_law_466 ?_
  refine lv_aload_n hx hb dL_law_467 rfl (lv_at hl 1 rfl) ?_
  refine lv_iload hx hb dL_law_468 (lv_at hl 5 rfl) ?_
  refine lv_iconst (v := 2) hx hb dL_law_470 (by decide) ?_
  refine lv_iadd hx hb dL_law_471 ?_
  refine va_sld hx hb hX hbl hbA hS h2 dL_law_472 ?_
  refine lv_if_eq (tgt := 480) hx hb dL_law_473 (by decide) (fun hz => ?_) (fun hz => ?_)
  · have hvf : v = false := by cases v; rfl; exact absurd hz (hv.mp rfl)
    subst hvf
    refine lv_iconst (v := 0) hx hb dL_law_480 (by decide) ?_
    exact law_line3 hl9 ⟨hx, hb, hr, hml, hown, hts, hX, hbl, hlocks, hgv⟩ hK hZ hc hs h1 h2 h3 false r pp hT (hM r.2) hP hD hS hl kk
  · have hvt : v = true := hv.mpr hz
    subst hvt
    refine lv_iconst (v := 1) hx hb dL_law_476 (by decide) ?_
    refine lv_goto (tgt := 481) hx hb dL_law_477 (by decide) ?_
    exact law_line3 hl9 ⟨hx, hb, hr, hml, hown, hts, hX, hbl, hlocks, hgv⟩ hK hZ hc hs h1 h2 h3 true r pp hT (hM r.2) hP hD hS hl kk
set_option maxRecDepth 20000 in
set_option maxHeartbeats 4000000 in
theorem law_line (hl9 : l.stackTraces = false) (C0 : lw_At p s m meth c b L xs) (hK : va_K (gD G) vwCl (gT G) s) (hZ : cZX G (lA s) s s.heap) (hc : cells + 1 ≤ 601024) (hs : slots + 6 ≤ 7293034) (h1 : vp_in (i + 1) L) (h2 : vp_in (i + 2) L) (h3 : vp_in (i + 3) L) (hR : RB σ τ) (hP : va_P (gD G) vwCl (wLaw G (τ, (o, σ))) H) (hD : va_D (lA s) (wLaw G (τ, (o, σ)))) (hS : va_S (lA s) s.heap H locs) (hl : lv_has ls 7 (lLoc G b i)) (kk : lK p l e s m below meth c b G cells slots Q i) : W p l e room_1 s m #[Value.ref b] below meth c H locs cells slots Q (F0 m 433 ls []) := by
  obtain ⟨hx, hb, hr, hml, hown, hts, hX, hbl, hlocks, hgv⟩ := C0
  have hta : ∀ w ∈ lw_all, w.before #[Value.ref b] s = true := fun w h => hts w (List.mem_filter.mp h).1
  have hA : ∀ q : Nat, s.heap.size ≤ q → lA s q := fun _ h => h
  have hbA : ¬ lA s b := Nat.not_le.mpr hbl
  have hl : lv_has ls 7 [(0, .ref b), (1, .ref (gA G 0)), (2, .ref (gA G 20)), (3, .ref (gA G 13)), (4, .int i)] := hl
  refine lv_aload_n hx hb dL_law_433 rfl (lv_at hl 1 rfl) ?_
  refine lv_aload_n hx hb dL_law_434 rfl (lv_at hl 0 rfl) ?_
  refine lv_iload hx hb dL_law_435 (lv_at hl 4 rfl) ?_
  refine lv_iconst (v := 1) hx hb dL_law_437 (by decide) ?_
  refine lv_iadd hx hb dL_law_438 ?_
  refine va_sld hx hb hX hbl hbA hS h1 dL_law_439 ?_
  refine lv_aload_n hx hb dL_law_440 rfl (lv_at hl 0 rfl) ?_
  refine lv_iload hx hb dL_law_441 (lv_at hl 4 rfl) ?_
  refine lv_iconst (v := 2) hx hb dL_law_443 (by decide) ?_
  refine lv_iadd hx hb dL_law_444 ?_
  refine va_sld hx hb hX hbl hbA hS h2 dL_law_445 ?_
  refine lv_if_eq (tgt := 453) hx hb dL_law_446 (by decide) (fun hz => ?_) (fun hz => ?_)
  · refine lv_iconst (v := 0) hx hb dL_law_453 (by decide) ?_
    exact law_line2 hl9 ⟨hx, hb, hr, hml, hown, hts, hX, hbl, hlocks, hgv⟩ hK hZ hc hs h1 h2 h3 false ⟨fun h => (by cases h), fun h => absurd hz h⟩ hR hP hD hS hl kk
  · refine lv_iconst (v := 1) hx hb dL_law_449 (by decide) ?_
    refine lv_goto (tgt := 454) hx hb dL_law_450 (by decide) ?_
    exact law_line2 hl9 ⟨hx, hb, hr, hml, hown, hts, hX, hbl, hlocks, hgv⟩ hK hZ hc hs h1 h2 h3 true ⟨fun _ => hz, fun _ => rfl⟩ hR hP hD hS hl kk
theorem ll_le {j L : Nat} (hj : 4 * j ≤ 2048) (hL : L ≤ 2048) (h : ¬ Int32.ofNat L - 4 < nI (4 * j)) : 4 * j + 4 ≤ L := by
  rw [Int32.lt_iff_toInt_lt] at h
  have e1 : (nI (4 * j)).toInt = 4 * j := nI_int (by omega)
  have e2 : (Int32.ofNat L - 4).toInt = (L : Int) - 4 := by
    rw [Int32.toInt_sub, Int32.toInt_ofNat_of_lt (by omega)]
    show ((L : Int) - 4).bmod 4294967296 = _
    rw [Int.bmod_eq_of_le] <;> omega
  rw [e1, e2] at h
  omega
theorem ll_in {j L k : Nat} (hL : L ≤ 2048) (h : 4 * j + 4 ≤ L) (hk : k < 4) : vp_in (nI (4 * j) + nI k) L := by
  rw [nI_add]
  exact vp_in_nI (by omega) (by omega)
set_option maxRecDepth 20000 in
set_option maxHeartbeats 4000000 in
theorem law_loop (hl9 : l.stackTraces = false) (hL : L ≤ 2048) (C0 : lw_At p s m meth c b L xs) (hK : va_K (gD G) vwCl (gT G) s) (hZ : cZX G (lA s) s s.heap) :
    ∀ (n j : Nat), 4 * j ≤ 2048 → j + n = 513 → ∀ (o : Nat → Int64) (σ : CS) (τ : MS) (H : Heap) (locs : List Loc) (ls : Array Slot), RB σ τ → va_P (gD G) vwCl (wLaw G (τ, (o, σ))) H → va_D (lA s) (wLaw G (τ, (o, σ))) → va_S (lA s) s.heap H locs → lv_has ls 7 (lLoc G b (nI (4 * j))) → W p l e room_1 s m #[Value.ref b] below meth c H locs (20 + j) (131204 + 6 * j) (lw_Z below #[Value.ref b] s) (F0 m 23 ls []) := by
  obtain ⟨hx, hb, hr, hml, hown, hts, hX, hbl, hlocks, hgv⟩ := id C0
  have hA : ∀ q : Nat, s.heap.size ≤ q → lA s q := fun _ h => h
  have hbA : ¬ lA s b := Nat.not_le.mpr hbl
  intro n
  induction n with
  | zero => intro j h1 h2; exact absurd h2 (by omega)
  | succ n ih =>
    intro j hj hn o σ τ H locs ls hR hP hD hS hl
    refine lv_iload hx hb dL_law_23 (lv_at hl 4 rfl) ?_
    refine lv_aload_n hx hb dL_law_25 rfl (lv_at hl 0 rfl) ?_
    refine va_slen hx hb hX hbl hbA hS dL_law_26 ?_
    refine lv_iconst (v := 4) hx hb dL_law_27 (by decide) ?_
    refine lv_isub hx hb dL_law_28 ?_
    refine lv_icmp_gt (tgt := 642) hx hb dL_law_29 (by decide) (fun _ => ?_) (fun hgt => ?_)
    · refine lv_iconst (v := 1) hx hb dL_law_642 (by decide) ?_
      refine va_forget (fun q hq => hS.2.2 q hq) ?_
      refine W.widen (k := 601024) (n := 7293034) (by omega) (by omega) ?_
      exact lw_ret hx hb hr hlocks dL_law_643
    · have hlt := ll_le hj hL hgt
      have h0 : vp_in (nI (4 * j)) L := vp_in_nI (by omega) (by omega)
      have h1 : vp_in (nI (4 * j) + 1) L := ll_in (k := 1) hL hlt (by decide)
      have h2 : vp_in (nI (4 * j) + 2) L := ll_in (k := 2) hL hlt (by decide)
      have h3 : vp_in (nI (4 * j) + 3) L := ll_in (k := 3) hL hlt (by decide)
      have hc : (20 + j) + 1 ≤ 601024 := by omega
      have hs : (131204 + 6 * j) + 6 ≤ 7293034 := by omega
      have kk : lK p l e s m below meth c b G (20 + j) (131204 + 6 * j) (lw_Z below #[Value.ref b] s) (nI (4 * j)) := by
        intro o σ τ H locs ls hR hP hD hS hl
        refine lv_iinc (v := nI (4 * (j + 1))) (lv' := [(4, .int (nI (4 * (j + 1)))), (0, .ref b), (1, .ref (gA G 0)), (2, .ref (gA G 20)), (3, .ref (gA G 13))]) hx hb dL_law_636 hl (k := 4) rfl (by rw [show 4 * (j + 1) = 4 * j + 4 by omega, ← nI_add]; rfl) (by decide) rfl (fun ls hl => ?_)
        refine lv_goto (tgt := 23) hx hb dL_law_639 (by decide) ?_
        have := ih (j + 1) (by omega) (by omega) o σ τ H locs ls hR hP hD hS (lv_sub hl [1, 2, 3, 4, 0] rfl)
        rw [show 20 + (j + 1) = 20 + j + 1 by omega, show 131204 + 6 * (j + 1) = 131204 + 6 * j + 6 by omega] at this
        exact this
      refine lv_aload_n hx hb dL_law_32 rfl (lv_at hl 0 rfl) ?_
      refine lv_iload hx hb dL_law_33 (lv_at hl 4 rfl) ?_
      refine va_sld hx hb hX hbl hbA hS h0 dL_law_35 ?_
      refine lv_bipush (v := 15) hx hb dL_law_36 (by decide) ?_
      refine lv_iand hx hb dL_law_38 ?_
      generalize xs (nI (4 * j)).toNatClampNeg &&& 15 = x
      by_cases g0 : x = 0
      · refine lv_tableIn (tgt := 88) hx hb dL_law_39 (by rw [g0]; decide) (by rw [g0]; decide) (by rw [g0]; rfl) (by decide) ?_
        exact law_poke hl9 C0 hK hZ hc hs h1 h2 h3 hR hP hD hS hl kk
      by_cases g1 : x = 1
      · refine lv_tableIn (tgt := 156) hx hb dL_law_39 (by rw [g1]; decide) (by rw [g1]; decide) (by rw [g1]; rfl) (by decide) ?_
        exact law_peek hl9 C0 hK hZ hc hs h1 h2 h3 hR hP hD hS hl kk
      by_cases g2 : x = 2
      · refine lv_tableIn (tgt := 212) hx hb dL_law_39 (by rw [g2]; decide) (by rw [g2]; decide) (by rw [g2]; rfl) (by decide) ?_
        exact law_set hl9 C0 hK hZ hc hs h1 h2 h3 hR hP hD hS hl kk
      by_cases g3 : x = 3
      · refine lv_tableIn (tgt := 272) hx hb dL_law_39 (by rw [g3]; decide) (by rw [g3]; decide) (by rw [g3]; rfl) (by decide) ?_
        exact law_get hl9 C0 hK hZ hc hs h1 h2 h3 hR hP hD hS hl kk
      by_cases g4 : x = 4
      · refine lv_tableIn (tgt := 340) hx hb dL_law_39 (by rw [g4]; decide) (by rw [g4]; decide) (by rw [g4]; rfl) (by decide) ?_
        exact law_status hl9 C0 hK hZ hc hs h1 h2 h3 hR hP hD hS hl kk
      by_cases g5 : x = 5
      · refine lv_tableIn (tgt := 365) hx hb dL_law_39 (by rw [g5]; decide) (by rw [g5]; decide) (by rw [g5]; rfl) (by decide) ?_
        exact law_saved hl9 C0 hK hZ hc hs h1 h2 h3 hR hP hD hS hl kk
      by_cases g6 : x = 6
      · refine lv_tableIn (tgt := 433) hx hb dL_law_39 (by rw [g6]; decide) (by rw [g6]; decide) (by rw [g6]; rfl) (by decide) ?_
        exact law_line hl9 C0 hK hZ hc hs h1 h2 h3 hR hP hD hS hl kk
      by_cases g7 : x = 7
      · refine lv_tableIn (tgt := 524) hx hb dL_law_39 (by rw [g7]; decide) (by rw [g7]; decide) (by rw [g7]; rfl) (by decide) ?_
        exact law_step hl9 C0 hK hZ hc hs h1 h2 h3 hR hP hD hS hl kk
      by_cases g8 : x = 8
      · refine lv_tableIn (tgt := 580) hx hb dL_law_39 (by rw [g8]; decide) (by rw [g8]; decide) (by rw [g8]; rfl) (by decide) ?_
        exact law_count hl9 C0 hK hZ hc hs h1 h2 h3 hR hP hD hS hl kk
      refine ksw_dflt (tgt := 636) hx hb dL_law_39 [0, 1, 2, 3, 4, 5, 6, 7, 8] (ksw_c g0 (ksw_c g1 (ksw_c g2 (ksw_c g3 (ksw_c g4 (ksw_c g5 (ksw_c g6 (ksw_c g7 (ksw_c g8 ksw_n))))))))) (by decide) (by decide) ?_
      refine W.widen (k := 20 + j + 1) (n := 131204 + 6 * j + 6) (Nat.le_succ _) (Nat.le_add_right _ 6) ?_
      exact kk o σ τ _ _ _ hR hP hD hS hl
end LAW
