/-! the law's wrappers: they call the class, and say what was thrown -/
def oW (G : KG) (o : Nat → Int64) : va_W := [(gA G 13, .inl (G.2.1.2.2, 1, .inr (.inl o)))]
abbrev lW (G : KG) : (Nat → Int64) × CS → va_W := fun z => oW G z.1 ++ cW G z.2
theorem lWs_o (G : KG) (o : Nat → Int64) (σ : CS) (f : Nat → Int64) : (lW G (o, σ)).set 0 (gA G 13, .inl (G.2.1.2.2, 1, .inr (.inl f))) = lW G (f, σ) := rfl
section KMs
variable {l : Launch} {S : Type} {D : va_G} {cl : List vw_C} {tys : List (ClassId × FieldType)} {Z : (Nat → Prop) → State → Heap → Prop} {w : S → va_W} {σ : S}
theorem km_in {y : MethodName} {ws ws' : List Cond} {rm : Room} {cc : ByteArray} {maxL mc ms : Nat} {hh : List (Nat × Nat × Nat × Nat)} {av : List Value} {q : Int32 × S} (hy : plainName y.cls = true) (hw : ws = Cond.codeWith y cc maxL (some .int) hh :: ws') (hn : (lg_sl av).length ≤ maxL)
    (body : ∀ (p : Program) (e : Env) (s : State) (m : MethodId) (args : Array Value) (below : List Frame) (meth : Method) (c : Code) (A : Nat → Prop) (Q : State → Prop) (ls : Array Slot), p.tables.exec = Jvm.exec → c.code = cc → c.maxLocals = maxL → s.vm.findClass y.cls = some m.cls → (∀ x ∈ ws, x.before args s = true) → va_K D cl tys s → va_P D cl (w σ) s.heap → va_D A (w σ) → (∀ q, s.heap.size ≤ q → A q) → va_S A s.heap s.heap [] → Z A s s.heap → lv_has ls maxL (lv_args 0 av) →
      c.exceptionTable.toList = tableOf hh →
      (∀ (r : Int32) (u : S) (H1 : Heap) (locs1 : List Loc) (cells slots pc : Nat) (ls : Array Slot), q = (r, u) → cells ≤ mc → slots ≤ ms → va_P D cl (w u) H1 → va_D A (w u) → va_S A s.heap H1 locs1 → decode cc pc = .ok (.ireturn, 1) → W p l e rm s m args below meth c H1 locs1 cells slots Q (F0 m pc ls [.int r])) →
      W p l e rm s m args below meth c s.heap [] 0 0 Q (F0 m 0 ls [])) : KM mc ms l y ws rm D cl tys Z w av σ q := by
  intro sz
  refine va_MetW (cc := cc) (maxL := maxL) (ret := some .int) (hh := hh) hy hw ?_
  intro p e s m args below meth c s₁ B hml hv
  obtain ⟨rfl, hsz, hP, hK, hD0, hZ⟩ := hv
  have hts := atoms_spec (ws := ws) B.pre
  have hr := B.returns
  have hlocks := B.notSynchronized
  have hx := B.exec
  have hb := B.bytes
  subst hsz
  have hl := lv_entry av (n := maxL) hn
  have hh1 : (Cond.codeWith y cc maxL (some .int) hh).before _ s = true := hts _ (by rw [hw]; exact List.mem_cons_self)
  have hh2 : c.exceptionTable.toList = tableOf hh := vx_table (x := y) B hh1
  rw [lg_entry_eq]
  refine body p e s m _ below meth c _ _ _ hx hb hml (findClass_of_methodNamed B.named) hts hK hP (hD0.self (sz := s.heap.size)) (fun q h => Or.inr h) va_S.rf hZ hl hh2 ?_
  intro r u H1 locs1 cells slots pc ls hq hc hs hP1 hD1 hS1 hdg
  subst hq
  refine W.widen (k := mc) (n := ms) hc hs ?_
  exact W.iret (v := r) hx hb hr (fun t ht hW => ⟨⟨r, u, rfl, ⟨rfl, rfl⟩, by rw [ht]; exact hP1, va_K.moved hW.alike hK, hD1⟩, hS1.F ht⟩) hS1.2.2 hdg
end KMs
/-- what a wrapper answers and leaves -/
def wres (o : Nat → Int64) (σ : CS) (q : Nat × Int32 × CS) (k : Int32) : Int32 × ((Nat → Int64) × CS) := if q.1 = 0 then (0, (vp_updL o (0 : Int32).toNatClampNeg q.2.1.toInt64, q.2.2)) else (k, (o, σ))
def wresv (o : Nat → Int64) (σ : CS) (q : Nat × CS) (k : Int32) : Int32 × ((Nat → Int64) × CS) := if q.1 = 0 then (0, (o, q.2)) else (k, (o, σ))
def wresz (o : Nat → Int64) (σ : CS) (q : Nat × Bool × CS) (k : Int32) : Int32 × ((Nat → Int64) × CS) := if q.1 = 0 then (0, (vp_updL o (0 : Int32).toNatClampNeg (if q.2.1 = true then 1 else 0), q.2.2)) else (k, (o, σ))
theorem cZX_cast {G : KG} {A : Nat → Prop} {s : State} {H : Heap} {args : Array Value} (hZ : cZX G A s H) : (Cond.castable eIA eIA).before args s = true ∧ (Cond.castable eIO eIO).before args s = true := ⟨xB_any hZ.2.1 _ (List.mem_cons_self), xB_any hZ.2.1 _ (List.mem_cons_of_mem _ List.mem_cons_self)⟩
theorem ra_cases (σ : CS) (a : Int32) : x_Top_refuseAddress σ a = 0 ∨ x_Top_refuseAddress σ a = 1 ∨ x_Top_refuseAddress σ a = 2 := by
  unfold x_Top_refuseAddress
  repeat' split
  all_goals decide
theorem rr_cases (σ : CS) (b i : Int32) : x_Top_refuseRegister σ b i = 0 ∨ x_Top_refuseRegister σ b i = 1 ∨ x_Top_refuseRegister σ b i = 2 := by
  unfold x_Top_refuseRegister
  repeat' split
  all_goals decide
theorem po_cases (σ : CS) (a v : Int32) : (x_Top_poke σ a v).1 = 0 ∨ (x_Top_poke σ a v).1 = 1 ∨ (x_Top_poke σ a v).1 = 2 := by
  unfold x_Top_poke
  split
  · exact Or.inl rfl
  · exact ra_cases σ a
theorem pe_cases (σ : CS) (a : Int32) : (x_Top_peek σ a).1 = 0 ∨ (x_Top_peek σ a).1 = 1 ∨ (x_Top_peek σ a).1 = 2 := by
  unfold x_Top_peek
  split
  · exact Or.inl rfl
  · exact ra_cases σ a
theorem se_cases (σ : CS) (a i v : Int32) : (x_Top_set σ a i v).1 = 0 ∨ (x_Top_set σ a i v).1 = 1 ∨ (x_Top_set σ a i v).1 = 2 := by
  unfold x_Top_set
  split
  · split <;> exact Or.inl rfl
  · exact rr_cases σ _ i
theorem ge_cases (σ : CS) (a i : Int32) : (x_Top_get σ a i).1 = 0 ∨ (x_Top_get σ a i).1 = 1 ∨ (x_Top_get σ a i).1 = 2 := by
  unfold x_Top_get
  split
  · exact Or.inl rfl
  · exact rr_cases σ _ i
theorem sa_cases (σ : CS) (a v : Int32) : (x_Top_saved σ a v).1 = 0 ∨ (x_Top_saved σ a v).1 = 1 := by
  unfold x_Top_saved
  repeat' split
  all_goals first | exact Or.inl rfl | exact Or.inr rfl
theorem li_cases (σ : CS) (a : Int32) (v : Bool) : (x_Top_line σ a v).1 = 0 ∨ (x_Top_line σ a v).1 = 2 := by
  unfold x_Top_line
  repeat' split
  all_goals first | exact Or.inl rfl | exact Or.inr rfl | (unfold x_Top_line_19; repeat' split <;> exact Or.inl rfl)
theorem co_cases (σ : CS) (a : Int32) : (x_Top_count σ a).1 = 0 ∨ (x_Top_count σ a).1 = 2 := by
  unfold x_Top_count
  repeat' split
  all_goals first | exact Or.inl rfl | exact Or.inr rfl
theorem sl_cases (σ : CS) (v : Int32) : ∀ (n : Nat) (a b : Int32) (τ : CS), (x_Top_step_26 σ v n a b τ).1 = 0 := by
  intro n
  induction n with
  | zero => intro a b τ; rfl
  | succ n ih =>
    intro a b τ
    unfold x_Top_step_26
    repeat' split
    all_goals first | rfl | exact ih _ _ _
theorem st_cases (σ : CS) (v : Int32) : (x_Top_step σ v).1 = 0 ∨ (x_Top_step σ v).1 = 1 := by
  unfold x_Top_step
  repeat' split
  all_goals first | exact Or.inr rfl | exact Or.inl (sl_cases _ _ _ _ _ _)
set_option maxRecDepth 20000 in
set_option maxHeartbeats 4000000 in
theorem cw_poke (l : Launch) (hl9 : l.stackTraces = false) (G : KG) (o : Nat → Int64) (σ : CS) (v0 : Int32) (v1 : Int32) : KM 1 6 l yL_poke (Cond.codeWith yL_poke cL_poke 5 (some .int) [(0, 10, 13, 13), (0, 10, 17, 15)] :: lw_all) (krx 9) (gD G) vwCl (gT G) (cZX G) (lW G) [.ref (gA G 0), .int v0, .int v1, .ref (gA G 13)] (o, σ) (wres o σ (x_Top_poke σ v0 v1) (nI (x_Top_poke σ v0 v1).1)) := by
  refine km_in (by decide) rfl (Nat.le_of_ble_eq_true rfl) ?_
  intro p e s m args below meth c A Q ls hx hb hml hown hts hK hP hD hA hS hZ hl htab hret
  have hts := fun w h => hts w (List.mem_cons_of_mem _ h)
  have hl : lv_has ls 5 [(0, .ref (gA G 0)), (1, .int v0), (2, .int v1), (3, .ref (gA G 13))] := hl
  refine lv_aload_n hx hb dL_poke_0 rfl (lv_at hl 3 rfl) ?_
  refine lv_iconst (v := 0) hx hb dL_poke_1 (by decide) ?_
  refine lv_aload_n hx hb dL_poke_2 rfl (lv_at hl 0 rfl) ?_
  refine lv_iload_n hx hb dL_poke_3 rfl (lv_at hl 1 rfl) ?_
  refine lv_iload_n hx hb dL_poke_4 rfl (lv_at hl 2 rfl) ?_
  refine kx_Vb (w := lW G) (rest := [.int 0, .ref (gA G 13)]) (KX_frame (oW G) o cZX_ok (cx_Top_poke l hl9 G σ v0 v1)) ⟨hx, hb, hml, hown, hts⟩ (cwV 2 hts (gi_V kw_119 kw_120 kw_121 kw_2 kw_122) rfl rfl rfl ⟨rfl, mdX10_poke⟩ ⟨by decide, by decide⟩) (va_recv hK hP (ci := 8) (q0 := 1) rfl rfl) cZX_ok hK hP hD hS hA hZ rfl hl.1 rfl (Nat.le_of_ble_eq_true rfl) dL_poke_5 ⟨by decide, by decide⟩ (fun H locs h0 hP hD hS => ?_) (fun H locs E ce q9 h0 hE hP hD hS h1 h2 h3 => ?_)
  · have h0 : (x_Top_poke σ v0 v1).1 = 0 := h0
    have hP : va_P (gD G) vwCl (lW G (o, (x_Top_poke σ v0 v1).2.2)) H := hP
    have hD : va_D A (lW G (o, (x_Top_poke σ v0 v1).2.2)) := hD
    refine lv_i2l (v := (x_Top_poke σ v0 v1).2.1.toInt64) hx hb dL_poke_8 rfl ?_
    refine va_last (x := ((x_Top_poke σ v0 v1).2.1.toInt64)) hx hb hK hP hD hS 0 2 rfl rfl (i := 0) (by unfold vp_in; decide) dL_poke_9 (fun H locs hP hD hS => ?_)
    have hP := kP_eq (lWs_o G o ((x_Top_poke σ v0 v1).2.2) (vp_updL o (0 : Int32).toNatClampNeg ((x_Top_poke σ v0 v1).2.1.toInt64))) hP
    have hD := kD_eq (lWs_o G o ((x_Top_poke σ v0 v1).2.2) (vp_updL o (0 : Int32).toNatClampNeg ((x_Top_poke σ v0 v1).2.1.toInt64))) hD
    refine lv_goto (tgt := 21) hx hb dL_poke_10 (by decide) ?_
    refine lv_iconst (v := 0) hx hb dL_poke_21 (by decide) ?_
    exact hret 0 _ _ _ _ _ _ _ (if_pos h0) (by decide) (by decide) hP hD hS dL_poke_22
  · have h0 : ¬ (x_Top_poke σ v0 v1).1 = 0 := h0
    have hE : E = xE (x_Top_poke σ v0 v1).1 := hE
    rcases po_cases σ v0 v1 with hc | hc | hc
    · exact absurd hc h0
    · have hE : E = eIA := by rw [hE, hc]; rfl
      subst hE
      refine kx_catch1 (nm := eIA) ⟨0, 10, 13, 13⟩ [⟨0, 10, 17, 15⟩] hown htab (by decide) (by decide) (hts _ kw_117) (cZX_cast hZ).1 h1 h2 h3 ?_
      refine lv_astore (lv' := [(4, .ref q9), (0, .ref (gA G 0)), (1, .int v0), (2, .int v1), (3, .ref (gA G 13))]) hx hb dL_poke_13 hl (by decide) rfl (fun ls hl => ?_)
      refine lv_iconst (v := 1) hx hb dL_poke_15 (by decide) ?_
      exact hret 1 _ _ _ _ _ _ _ ((if_neg h0).trans (by rw [hc]; rfl)) (by decide) (by decide) hP hD hS dL_poke_16
    · have hE : E = eIO := by rw [hE, hc]; rfl
      subst hE
      refine kx_catch2 (nm0 := eIA) (nm := eIO) ⟨0, 10, 13, 13⟩ ⟨0, 10, 17, 15⟩ [] hown htab (by decide) (by decide) (by decide) (by decide) (hts _ kw_117) hZ.2.2 (hts _ kw_118) (cZX_cast hZ).2 h1 h2 h3 ?_
      refine lv_astore (lv' := [(4, .ref q9), (0, .ref (gA G 0)), (1, .int v0), (2, .int v1), (3, .ref (gA G 13))]) hx hb dL_poke_17 hl (by decide) rfl (fun ls hl => ?_)
      refine lv_iconst (v := 2) hx hb dL_poke_19 (by decide) ?_
      exact hret 2 _ _ _ _ _ _ _ ((if_neg h0).trans (by rw [hc]; rfl)) (by decide) (by decide) hP hD hS dL_poke_20
set_option maxRecDepth 20000 in
set_option maxHeartbeats 4000000 in
theorem cw_peek (l : Launch) (hl9 : l.stackTraces = false) (G : KG) (o : Nat → Int64) (σ : CS) (v0 : Int32) : KM 1 6 l yL_peek (Cond.codeWith yL_peek cL_peek 4 (some .int) [(0, 9, 12, 13), (0, 9, 15, 15)] :: lw_all) (krx 9) (gD G) vwCl (gT G) (cZX G) (lW G) [.ref (gA G 0), .int v0, .ref (gA G 13)] (o, σ) (wres o σ (x_Top_peek σ v0) (nI (x_Top_peek σ v0).1)) := by
  refine km_in (by decide) rfl (Nat.le_of_ble_eq_true rfl) ?_
  intro p e s m args below meth c A Q ls hx hb hml hown hts hK hP hD hA hS hZ hl htab hret
  have hts := fun w h => hts w (List.mem_cons_of_mem _ h)
  have hl : lv_has ls 4 [(0, .ref (gA G 0)), (1, .int v0), (2, .ref (gA G 13))] := hl
  refine lv_aload_n hx hb dL_peek_0 rfl (lv_at hl 2 rfl) ?_
  refine lv_iconst (v := 0) hx hb dL_peek_1 (by decide) ?_
  refine lv_aload_n hx hb dL_peek_2 rfl (lv_at hl 0 rfl) ?_
  refine lv_iload_n hx hb dL_peek_3 rfl (lv_at hl 1 rfl) ?_
  refine kx_Vb (w := lW G) (rest := [.int 0, .ref (gA G 13)]) (KX_frame (oW G) o cZX_ok (cx_Top_peek l hl9 G σ v0)) ⟨hx, hb, hml, hown, hts⟩ (cwV 1 hts (gi_V kw_165 kw_166 kw_167 kw_2 kw_168) rfl rfl rfl ⟨rfl, mdX10_peek⟩ ⟨by decide, by decide⟩) (va_recv hK hP (ci := 8) (q0 := 1) rfl rfl) cZX_ok hK hP hD hS hA hZ rfl hl.1 rfl (Nat.le_of_ble_eq_true rfl) dL_peek_4 ⟨by decide, by decide⟩ (fun H locs h0 hP hD hS => ?_) (fun H locs E ce q9 h0 hE hP hD hS h1 h2 h3 => ?_)
  · have h0 : (x_Top_peek σ v0).1 = 0 := h0
    have hP : va_P (gD G) vwCl (lW G (o, (x_Top_peek σ v0).2.2)) H := hP
    have hD : va_D A (lW G (o, (x_Top_peek σ v0).2.2)) := hD
    refine lv_i2l (v := (x_Top_peek σ v0).2.1.toInt64) hx hb dL_peek_7 rfl ?_
    refine va_last (x := ((x_Top_peek σ v0).2.1.toInt64)) hx hb hK hP hD hS 0 2 rfl rfl (i := 0) (by unfold vp_in; decide) dL_peek_8 (fun H locs hP hD hS => ?_)
    have hP := kP_eq (lWs_o G o ((x_Top_peek σ v0).2.2) (vp_updL o (0 : Int32).toNatClampNeg ((x_Top_peek σ v0).2.1.toInt64))) hP
    have hD := kD_eq (lWs_o G o ((x_Top_peek σ v0).2.2) (vp_updL o (0 : Int32).toNatClampNeg ((x_Top_peek σ v0).2.1.toInt64))) hD
    refine lv_goto (tgt := 18) hx hb dL_peek_9 (by decide) ?_
    refine lv_iconst (v := 0) hx hb dL_peek_18 (by decide) ?_
    exact hret 0 _ _ _ _ _ _ _ (if_pos h0) (by decide) (by decide) hP hD hS dL_peek_19
  · have h0 : ¬ (x_Top_peek σ v0).1 = 0 := h0
    have hE : E = xE (x_Top_peek σ v0).1 := hE
    rcases pe_cases σ v0 with hc | hc | hc
    · exact absurd hc h0
    · have hE : E = eIA := by rw [hE, hc]; rfl
      subst hE
      refine kx_catch1 (nm := eIA) ⟨0, 9, 12, 13⟩ [⟨0, 9, 15, 15⟩] hown htab (by decide) (by decide) (hts _ kw_117) (cZX_cast hZ).1 h1 h2 h3 ?_
      refine lv_astore_n (lv' := [(3, .ref q9), (0, .ref (gA G 0)), (1, .int v0), (2, .ref (gA G 13))]) hx hb dL_peek_12 rfl hl (by decide) rfl (fun ls hl => ?_)
      refine lv_iconst (v := 1) hx hb dL_peek_13 (by decide) ?_
      exact hret 1 _ _ _ _ _ _ _ ((if_neg h0).trans (by rw [hc]; rfl)) (by decide) (by decide) hP hD hS dL_peek_14
    · have hE : E = eIO := by rw [hE, hc]; rfl
      subst hE
      refine kx_catch2 (nm0 := eIA) (nm := eIO) ⟨0, 9, 12, 13⟩ ⟨0, 9, 15, 15⟩ [] hown htab (by decide) (by decide) (by decide) (by decide) (hts _ kw_117) hZ.2.2 (hts _ kw_118) (cZX_cast hZ).2 h1 h2 h3 ?_
      refine lv_astore_n (lv' := [(3, .ref q9), (0, .ref (gA G 0)), (1, .int v0), (2, .ref (gA G 13))]) hx hb dL_peek_15 rfl hl (by decide) rfl (fun ls hl => ?_)
      refine lv_iconst (v := 2) hx hb dL_peek_16 (by decide) ?_
      exact hret 2 _ _ _ _ _ _ _ ((if_neg h0).trans (by rw [hc]; rfl)) (by decide) (by decide) hP hD hS dL_peek_17
set_option maxRecDepth 20000 in
set_option maxHeartbeats 4000000 in
theorem cw_set (l : Launch) (hl9 : l.stackTraces = false) (G : KG) (o : Nat → Int64) (σ : CS) (v0 : Int32) (v1 : Int32) (v2 : Int32) : KM 1 6 l yL_set (Cond.codeWith yL_set cL_set 5 (some .int) [(0, 7, 10, 13), (0, 7, 14, 15)] :: lw_all) (krx 9) (gD G) vwCl (gT G) (cZX G) (lW G) [.ref (gA G 0), .int v0, .int v1, .int v2] (o, σ) (wresv o σ (x_Top_set σ v0 v1 v2) (nI (x_Top_set σ v0 v1 v2).1)) := by
  refine km_in (by decide) rfl (Nat.le_of_ble_eq_true rfl) ?_
  intro p e s m args below meth c A Q ls hx hb hml hown hts hK hP hD hA hS hZ hl htab hret
  have hts := fun w h => hts w (List.mem_cons_of_mem _ h)
  have hl : lv_has ls 5 [(0, .ref (gA G 0)), (1, .int v0), (2, .int v1), (3, .int v2)] := hl
  refine lv_aload_n hx hb dL_set_0 rfl (lv_at hl 0 rfl) ?_
  refine lv_iload_n hx hb dL_set_1 rfl (lv_at hl 1 rfl) ?_
  refine lv_iload_n hx hb dL_set_2 rfl (lv_at hl 2 rfl) ?_
  refine lv_iload_n hx hb dL_set_3 rfl (lv_at hl 3 rfl) ?_
  refine kx_Vv (w := lW G) (rest := []) (KXv_frame (oW G) o cZX_ok (cx_Top_set l hl9 G σ v0 v1 v2)) ⟨hx, hb, hml, hown, hts⟩ (cwV 3 hts (gi_V kw_176 kw_177 kw_178 kw_2 kw_179) rfl rfl rfl ⟨rfl, mdX10_set⟩ ⟨by decide, by decide⟩) (va_recv hK hP (ci := 8) (q0 := 1) rfl rfl) cZX_ok hK hP hD hS hA hZ rfl hl.1 rfl (Nat.le_of_ble_eq_true rfl) dL_set_4 ⟨by decide, by decide⟩ (fun H locs h0 hP hD hS => ?_) (fun H locs E ce q9 h0 hE hP hD hS h1 h2 h3 => ?_)
  · have h0 : (x_Top_set σ v0 v1 v2).1 = 0 := h0
    have hP : va_P (gD G) vwCl (lW G (o, (x_Top_set σ v0 v1 v2).2)) H := hP
    have hD : va_D A (lW G (o, (x_Top_set σ v0 v1 v2).2)) := hD
    refine lv_goto (tgt := 18) hx hb dL_set_7 (by decide) ?_
    refine lv_iconst (v := 0) hx hb dL_set_18 (by decide) ?_
    exact hret 0 _ _ _ _ _ _ _ (if_pos h0) (by decide) (by decide) hP hD hS dL_set_19
  · have h0 : ¬ (x_Top_set σ v0 v1 v2).1 = 0 := h0
    have hE : E = xE (x_Top_set σ v0 v1 v2).1 := hE
    rcases se_cases σ v0 v1 v2 with hc | hc | hc
    · exact absurd hc h0
    · have hE : E = eIA := by rw [hE, hc]; rfl
      subst hE
      refine kx_catch1 (nm := eIA) ⟨0, 7, 10, 13⟩ [⟨0, 7, 14, 15⟩] hown htab (by decide) (by decide) (hts _ kw_117) (cZX_cast hZ).1 h1 h2 h3 ?_
      refine lv_astore (lv' := [(4, .ref q9), (0, .ref (gA G 0)), (1, .int v0), (2, .int v1), (3, .int v2)]) hx hb dL_set_10 hl (by decide) rfl (fun ls hl => ?_)
      refine lv_iconst (v := 1) hx hb dL_set_12 (by decide) ?_
      exact hret 1 _ _ _ _ _ _ _ ((if_neg h0).trans (by rw [hc]; rfl)) (by decide) (by decide) hP hD hS dL_set_13
    · have hE : E = eIO := by rw [hE, hc]; rfl
      subst hE
      refine kx_catch2 (nm0 := eIA) (nm := eIO) ⟨0, 7, 10, 13⟩ ⟨0, 7, 14, 15⟩ [] hown htab (by decide) (by decide) (by decide) (by decide) (hts _ kw_117) hZ.2.2 (hts _ kw_118) (cZX_cast hZ).2 h1 h2 h3 ?_
      refine lv_astore (lv' := [(4, .ref q9), (0, .ref (gA G 0)), (1, .int v0), (2, .int v1), (3, .int v2)]) hx hb dL_set_14 hl (by decide) rfl (fun ls hl => ?_)
      refine lv_iconst (v := 2) hx hb dL_set_16 (by decide) ?_
      exact hret 2 _ _ _ _ _ _ _ ((if_neg h0).trans (by rw [hc]; rfl)) (by decide) (by decide) hP hD hS dL_set_17
set_option maxRecDepth 20000 in
set_option maxHeartbeats 4000000 in
theorem cw_get (l : Launch) (hl9 : l.stackTraces = false) (G : KG) (o : Nat → Int64) (σ : CS) (v0 : Int32) (v1 : Int32) : KM 1 6 l yL_get (Cond.codeWith yL_get cL_get 5 (some .int) [(0, 10, 13, 13), (0, 10, 17, 15)] :: lw_all) (krx 9) (gD G) vwCl (gT G) (cZX G) (lW G) [.ref (gA G 0), .int v0, .int v1, .ref (gA G 13)] (o, σ) (wres o σ (x_Top_get σ v0 v1) (nI (x_Top_get σ v0 v1).1)) := by
  refine km_in (by decide) rfl (Nat.le_of_ble_eq_true rfl) ?_
  intro p e s m args below meth c A Q ls hx hb hml hown hts hK hP hD hA hS hZ hl htab hret
  have hts := fun w h => hts w (List.mem_cons_of_mem _ h)
  have hl : lv_has ls 5 [(0, .ref (gA G 0)), (1, .int v0), (2, .int v1), (3, .ref (gA G 13))] := hl
  refine lv_aload_n hx hb dL_get_0 rfl (lv_at hl 3 rfl) ?_
  refine lv_iconst (v := 0) hx hb dL_get_1 (by decide) ?_
  refine lv_aload_n hx hb dL_get_2 rfl (lv_at hl 0 rfl) ?_
  refine lv_iload_n hx hb dL_get_3 rfl (lv_at hl 1 rfl) ?_
  refine lv_iload_n hx hb dL_get_4 rfl (lv_at hl 2 rfl) ?_
  refine kx_Vb (w := lW G) (rest := [.int 0, .ref (gA G 13)]) (KX_frame (oW G) o cZX_ok (cx_Top_get l hl9 G σ v0 v1)) ⟨hx, hb, hml, hown, hts⟩ (cwV 2 hts (gi_V kw_220 kw_221 kw_222 kw_2 kw_223) rfl rfl rfl ⟨rfl, mdX10_get⟩ ⟨by decide, by decide⟩) (va_recv hK hP (ci := 8) (q0 := 1) rfl rfl) cZX_ok hK hP hD hS hA hZ rfl hl.1 rfl (Nat.le_of_ble_eq_true rfl) dL_get_5 ⟨by decide, by decide⟩ (fun H locs h0 hP hD hS => ?_) (fun H locs E ce q9 h0 hE hP hD hS h1 h2 h3 => ?_)
  · have h0 : (x_Top_get σ v0 v1).1 = 0 := h0
    have hP : va_P (gD G) vwCl (lW G (o, (x_Top_get σ v0 v1).2.2)) H := hP
    have hD : va_D A (lW G (o, (x_Top_get σ v0 v1).2.2)) := hD
    refine lv_i2l (v := (x_Top_get σ v0 v1).2.1.toInt64) hx hb dL_get_8 rfl ?_
    refine va_last (x := ((x_Top_get σ v0 v1).2.1.toInt64)) hx hb hK hP hD hS 0 2 rfl rfl (i := 0) (by unfold vp_in; decide) dL_get_9 (fun H locs hP hD hS => ?_)
    have hP := kP_eq (lWs_o G o ((x_Top_get σ v0 v1).2.2) (vp_updL o (0 : Int32).toNatClampNeg ((x_Top_get σ v0 v1).2.1.toInt64))) hP
    have hD := kD_eq (lWs_o G o ((x_Top_get σ v0 v1).2.2) (vp_updL o (0 : Int32).toNatClampNeg ((x_Top_get σ v0 v1).2.1.toInt64))) hD
    refine lv_goto (tgt := 21) hx hb dL_get_10 (by decide) ?_
    refine lv_iconst (v := 0) hx hb dL_get_21 (by decide) ?_
    exact hret 0 _ _ _ _ _ _ _ (if_pos h0) (by decide) (by decide) hP hD hS dL_get_22
  · have h0 : ¬ (x_Top_get σ v0 v1).1 = 0 := h0
    have hE : E = xE (x_Top_get σ v0 v1).1 := hE
    rcases ge_cases σ v0 v1 with hc | hc | hc
    · exact absurd hc h0
    · have hE : E = eIA := by rw [hE, hc]; rfl
      subst hE
      refine kx_catch1 (nm := eIA) ⟨0, 10, 13, 13⟩ [⟨0, 10, 17, 15⟩] hown htab (by decide) (by decide) (hts _ kw_117) (cZX_cast hZ).1 h1 h2 h3 ?_
      refine lv_astore (lv' := [(4, .ref q9), (0, .ref (gA G 0)), (1, .int v0), (2, .int v1), (3, .ref (gA G 13))]) hx hb dL_get_13 hl (by decide) rfl (fun ls hl => ?_)
      refine lv_iconst (v := 1) hx hb dL_get_15 (by decide) ?_
      exact hret 1 _ _ _ _ _ _ _ ((if_neg h0).trans (by rw [hc]; rfl)) (by decide) (by decide) hP hD hS dL_get_16
    · have hE : E = eIO := by rw [hE, hc]; rfl
      subst hE
      refine kx_catch2 (nm0 := eIA) (nm := eIO) ⟨0, 10, 13, 13⟩ ⟨0, 10, 17, 15⟩ [] hown htab (by decide) (by decide) (by decide) (by decide) (hts _ kw_117) hZ.2.2 (hts _ kw_118) (cZX_cast hZ).2 h1 h2 h3 ?_
      refine lv_astore (lv' := [(4, .ref q9), (0, .ref (gA G 0)), (1, .int v0), (2, .int v1), (3, .ref (gA G 13))]) hx hb dL_get_17 hl (by decide) rfl (fun ls hl => ?_)
      refine lv_iconst (v := 2) hx hb dL_get_19 (by decide) ?_
      exact hret 2 _ _ _ _ _ _ _ ((if_neg h0).trans (by rw [hc]; rfl)) (by decide) (by decide) hP hD hS dL_get_20
set_option maxRecDepth 20000 in
set_option maxHeartbeats 4000000 in
theorem cw_saved (l : Launch) (hl9 : l.stackTraces = false) (G : KG) (o : Nat → Int64) (σ : CS) (v0 : Int32) (v1 : Int32) : KM 1 6 l yL_saved (Cond.codeWith yL_saved cL_saved 5 (some .int) [(0, 10, 13, 13)] :: lw_all) (krx 9) (gD G) vwCl (gT G) (cZX G) (lW G) [.ref (gA G 0), .int v0, .int v1, .ref (gA G 13)] (o, σ) (wres o σ (x_Top_saved σ v0 v1) 1) := by
  refine km_in (by decide) rfl (Nat.le_of_ble_eq_true rfl) ?_
  intro p e s m args below meth c A Q ls hx hb hml hown hts hK hP hD hA hS hZ hl htab hret
  have hts := fun w h => hts w (List.mem_cons_of_mem _ h)
  have hl : lv_has ls 5 [(0, .ref (gA G 0)), (1, .int v0), (2, .int v1), (3, .ref (gA G 13))] := hl
  refine lv_aload_n hx hb dL_saved_0 rfl (lv_at hl 3 rfl) ?_
  refine lv_iconst (v := 0) hx hb dL_saved_1 (by decide) ?_
  refine lv_aload_n hx hb dL_saved_2 rfl (lv_at hl 0 rfl) ?_
  refine lv_iload_n hx hb dL_saved_3 rfl (lv_at hl 1 rfl) ?_
  refine lv_iload_n hx hb dL_saved_4 rfl (lv_at hl 2 rfl) ?_
  refine kx_Vb (w := lW G) (rest := [.int 0, .ref (gA G 13)]) (KX_frame (oW G) o cZX_ok (cx_Top_saved l hl9 G σ v0 v1)) ⟨hx, hb, hml, hown, hts⟩ (cwV 2 hts (gi_V kw_266 kw_267 kw_268 kw_2 kw_269) rfl rfl rfl ⟨rfl, mdX10_saved⟩ ⟨by decide, by decide⟩) (va_recv hK hP (ci := 8) (q0 := 1) rfl rfl) cZX_ok hK hP hD hS hA hZ rfl hl.1 rfl (Nat.le_of_ble_eq_true rfl) dL_saved_5 ⟨by decide, by decide⟩ (fun H locs h0 hP hD hS => ?_) (fun H locs E ce q9 h0 hE hP hD hS h1 h2 h3 => ?_)
  · have h0 : (x_Top_saved σ v0 v1).1 = 0 := h0
    have hP : va_P (gD G) vwCl (lW G (o, (x_Top_saved σ v0 v1).2.2)) H := hP
    have hD : va_D A (lW G (o, (x_Top_saved σ v0 v1).2.2)) := hD
    refine lv_i2l (v := (x_Top_saved σ v0 v1).2.1.toInt64) hx hb dL_saved_8 rfl ?_
    refine va_last (x := ((x_Top_saved σ v0 v1).2.1.toInt64)) hx hb hK hP hD hS 0 2 rfl rfl (i := 0) (by unfold vp_in; decide) dL_saved_9 (fun H locs hP hD hS => ?_)
    have hP := kP_eq (lWs_o G o ((x_Top_saved σ v0 v1).2.2) (vp_updL o (0 : Int32).toNatClampNeg ((x_Top_saved σ v0 v1).2.1.toInt64))) hP
    have hD := kD_eq (lWs_o G o ((x_Top_saved σ v0 v1).2.2) (vp_updL o (0 : Int32).toNatClampNeg ((x_Top_saved σ v0 v1).2.1.toInt64))) hD
    refine lv_goto (tgt := 17) hx hb dL_saved_10 (by decide) ?_
    refine lv_iconst (v := 0) hx hb dL_saved_17 (by decide) ?_
    exact hret 0 _ _ _ _ _ _ _ (if_pos h0) (by decide) (by decide) hP hD hS dL_saved_18
  · have h0 : ¬ (x_Top_saved σ v0 v1).1 = 0 := h0
    have hE : E = xE (x_Top_saved σ v0 v1).1 := hE
    rcases sa_cases σ v0 v1 with hc | hc
    · exact absurd hc h0
    · have hE : E = eIA := by rw [hE, hc]; rfl
      subst hE
      refine kx_catch1 (nm := eIA) ⟨0, 10, 13, 13⟩ [] hown htab (by decide) (by decide) (hts _ kw_117) (cZX_cast hZ).1 h1 h2 h3 ?_
      refine lv_astore (lv' := [(4, .ref q9), (0, .ref (gA G 0)), (1, .int v0), (2, .int v1), (3, .ref (gA G 13))]) hx hb dL_saved_13 hl (by decide) rfl (fun ls hl => ?_)
      refine lv_iconst (v := 1) hx hb dL_saved_15 (by decide) ?_
      exact hret 1 _ _ _ _ _ _ _ (if_neg h0) (by decide) (by decide) hP hD hS dL_saved_16
set_option maxRecDepth 20000 in
set_option maxHeartbeats 4000000 in
theorem cw_line (l : Launch) (hl9 : l.stackTraces = false) (G : KG) (o : Nat → Int64) (σ : CS) (v0 : Int32) (v1 : Bool) : KM 1 6 l yL_line (Cond.codeWith yL_line cL_line 5 (some .int) [(0, 17, 20, 15)] :: lw_all) (krx 9) (gD G) vwCl (gT G) (cZX G) (lW G) [.ref (gA G 0), .int v0, .int (b01 v1), .ref (gA G 13)] (o, σ) (wresz o σ (x_Top_line σ v0 v1) 1) := by
  refine km_in (by decide) rfl (Nat.le_of_ble_eq_true rfl) ?_
  intro p e s m args below meth c A Q ls hx hb hml hown hts hK hP hD hA hS hZ hl htab hret
  have hts := fun w h => hts w (List.mem_cons_of_mem _ h)
  have hl : lv_has ls 5 [(0, .ref (gA G 0)), (1, .int v0), (2, .int (b01 v1)), (3, .ref (gA G 13))] := hl
  refine lv_aload_n hx hb dL_line_0 rfl (lv_at hl 3 rfl) ?_
  refine lv_iconst (v := 0) hx hb dL_line_1 (by decide) ?_
  refine lv_aload_n hx hb dL_line_2 rfl (lv_at hl 0 rfl) ?_
  refine lv_iload_n hx hb dL_line_3 rfl (lv_at hl 1 rfl) ?_
  refine lv_iload_n hx hb dL_line_4 rfl (lv_at hl 2 rfl) ?_
  refine kx_Vb (w := lW G) (rest := [.int 0, .ref (gA G 13)]) (KX_frame (oW G) o cZX_ok (cx_Top_line l hl9 G σ v0 v1)) ⟨hx, hb, hml, hown, hts⟩ (cwV 2 hts (gi_V kw_285 kw_286 kw_287 kw_2 kw_288) rfl rfl rfl ⟨rfl, mdX10_line⟩ ⟨by decide, by decide⟩) (va_recv hK hP (ci := 8) (q0 := 1) rfl rfl) cZX_ok hK hP hD hS hA hZ rfl hl.1 rfl (Nat.le_of_ble_eq_true rfl) dL_line_5 ⟨by decide, by decide⟩ (fun H locs h0 hP hD hS => ?_) (fun H locs E ce q9 h0 hE hP hD hS h1 h2 h3 => ?_)
  · have h0 : (x_Top_line σ v0 v1).1 = 0 := h0
    have hP : va_P (gD G) vwCl (lW G (o, (x_Top_line σ v0 v1).2.2)) H := hP
    have hD : va_D A (lW G (o, (x_Top_line σ v0 v1).2.2)) := hD
    refine kz_eq (x := (x_Top_line σ v0 v1).2.1) (tgt := 15) hx hb dL_line_8 (by decide) (fun hz => ?_) (fun hz => ?_)
    · refine lv_lconst (v := 0) hx hb dL_line_15 (by decide) ?_
      refine va_last (x := 0) hx hb hK hP hD hS 0 2 rfl rfl (i := 0) (by unfold vp_in; decide) dL_line_16 (fun H locs hP hD hS => ?_)
      have hP := kP_eq (lWs_o G o ((x_Top_line σ v0 v1).2.2) (vp_updL o (0 : Int32).toNatClampNeg 0)) hP
      have hD := kD_eq (lWs_o G o ((x_Top_line σ v0 v1).2.2) (vp_updL o (0 : Int32).toNatClampNeg 0)) hD
      refine lv_goto (tgt := 24) hx hb dL_line_17 (by decide) ?_
      refine lv_iconst (v := 0) hx hb dL_line_24 (by decide) ?_
      exact hret 0 _ _ _ _ _ _ _ ((if_pos h0).trans (by rw [if_neg hz])) (by decide) (by decide) hP hD hS dL_line_25
    · refine lv_lconst (v := 1) hx hb dL_line_11 (by decide) ?_
      refine lv_goto (tgt := 16) hx hb dL_line_12 (by decide) ?_
      refine va_last (x := 1) hx hb hK hP hD hS 0 2 rfl rfl (i := 0) (by unfold vp_in; decide) dL_line_16 (fun H locs hP hD hS => ?_)
      have hP := kP_eq (lWs_o G o ((x_Top_line σ v0 v1).2.2) (vp_updL o (0 : Int32).toNatClampNeg 1)) hP
      have hD := kD_eq (lWs_o G o ((x_Top_line σ v0 v1).2.2) (vp_updL o (0 : Int32).toNatClampNeg 1)) hD
      refine lv_goto (tgt := 24) hx hb dL_line_17 (by decide) ?_
      refine lv_iconst (v := 0) hx hb dL_line_24 (by decide) ?_
      exact hret 0 _ _ _ _ _ _ _ ((if_pos h0).trans (by rw [if_pos hz])) (by decide) (by decide) hP hD hS dL_line_25
  · have h0 : ¬ (x_Top_line σ v0 v1).1 = 0 := h0
    have hE : E = xE (x_Top_line σ v0 v1).1 := hE
    rcases li_cases σ v0 v1 with hc | hc
    · exact absurd hc h0
    · have hE : E = eIO := by rw [hE, hc]; rfl
      subst hE
      refine kx_catch1 (nm := eIO) ⟨0, 17, 20, 15⟩ [] hown htab (by decide) (by decide) (hts _ kw_118) (cZX_cast hZ).2 h1 h2 h3 ?_
      refine lv_astore (lv' := [(4, .ref q9), (0, .ref (gA G 0)), (1, .int v0), (2, .int (b01 v1)), (3, .ref (gA G 13))]) hx hb dL_line_20 hl (by decide) rfl (fun ls hl => ?_)
      refine lv_iconst (v := 1) hx hb dL_line_22 (by decide) ?_
      exact hret 1 _ _ _ _ _ _ _ (if_neg h0) (by decide) (by decide) hP hD hS dL_line_23
set_option maxRecDepth 20000 in
set_option maxHeartbeats 4000000 in
theorem cw_step (l : Launch) (hl9 : l.stackTraces = false) (G : KG) (o : Nat → Int64) (σ : CS) (v0 : Int32) : KM 1 6 l yL_step (Cond.codeWith yL_step cL_step 4 (some .int) [(0, 9, 12, 13)] :: lw_all) (krx 9) (gD G) vwCl (gT G) (cZX G) (lW G) [.ref (gA G 0), .int v0, .ref (gA G 13)] (o, σ) (wres o σ (x_Top_step σ v0) 1) := by
  refine km_in (by decide) rfl (Nat.le_of_ble_eq_true rfl) ?_
  intro p e s m args below meth c A Q ls hx hb hml hown hts hK hP hD hA hS hZ hl htab hret
  have hts := fun w h => hts w (List.mem_cons_of_mem _ h)
  have hl : lv_has ls 4 [(0, .ref (gA G 0)), (1, .int v0), (2, .ref (gA G 13))] := hl
  refine lv_aload_n hx hb dL_step_0 rfl (lv_at hl 2 rfl) ?_
  refine lv_iconst (v := 0) hx hb dL_step_1 (by decide) ?_
  refine lv_aload_n hx hb dL_step_2 rfl (lv_at hl 0 rfl) ?_
  refine lv_iload_n hx hb dL_step_3 rfl (lv_at hl 1 rfl) ?_
  refine kx_Vb (w := lW G) (rest := [.int 0, .ref (gA G 13)]) (KX_frame (oW G) o cZX_ok (cx_Top_step l hl9 G σ v0)) ⟨hx, hb, hml, hown, hts⟩ (cwV 1 hts (gi_V kw_304 kw_305 kw_306 kw_2 kw_307) rfl rfl rfl ⟨rfl, mdX10_step⟩ ⟨by decide, by decide⟩) (va_recv hK hP (ci := 8) (q0 := 1) rfl rfl) cZX_ok hK hP hD hS hA hZ rfl hl.1 rfl (Nat.le_of_ble_eq_true rfl) dL_step_4 ⟨by decide, by decide⟩ (fun H locs h0 hP hD hS => ?_) (fun H locs E ce q9 h0 hE hP hD hS h1 h2 h3 => ?_)
  · have h0 : (x_Top_step σ v0).1 = 0 := h0
    have hP : va_P (gD G) vwCl (lW G (o, (x_Top_step σ v0).2.2)) H := hP
    have hD : va_D A (lW G (o, (x_Top_step σ v0).2.2)) := hD
    refine lv_i2l (v := (x_Top_step σ v0).2.1.toInt64) hx hb dL_step_7 rfl ?_
    refine va_last (x := ((x_Top_step σ v0).2.1.toInt64)) hx hb hK hP hD hS 0 2 rfl rfl (i := 0) (by unfold vp_in; decide) dL_step_8 (fun H locs hP hD hS => ?_)
    have hP := kP_eq (lWs_o G o ((x_Top_step σ v0).2.2) (vp_updL o (0 : Int32).toNatClampNeg ((x_Top_step σ v0).2.1.toInt64))) hP
    have hD := kD_eq (lWs_o G o ((x_Top_step σ v0).2.2) (vp_updL o (0 : Int32).toNatClampNeg ((x_Top_step σ v0).2.1.toInt64))) hD
    refine lv_goto (tgt := 15) hx hb dL_step_9 (by decide) ?_
    refine lv_iconst (v := 0) hx hb dL_step_15 (by decide) ?_
    exact hret 0 _ _ _ _ _ _ _ (if_pos h0) (by decide) (by decide) hP hD hS dL_step_16
  · have h0 : ¬ (x_Top_step σ v0).1 = 0 := h0
    have hE : E = xE (x_Top_step σ v0).1 := hE
    rcases st_cases σ v0 with hc | hc
    · exact absurd hc h0
    · have hE : E = eIA := by rw [hE, hc]; rfl
      subst hE
      refine kx_catch1 (nm := eIA) ⟨0, 9, 12, 13⟩ [] hown htab (by decide) (by decide) (hts _ kw_117) (cZX_cast hZ).1 h1 h2 h3 ?_
      refine lv_astore_n (lv' := [(3, .ref q9), (0, .ref (gA G 0)), (1, .int v0), (2, .ref (gA G 13))]) hx hb dL_step_12 rfl hl (by decide) rfl (fun ls hl => ?_)
      refine lv_iconst (v := 1) hx hb dL_step_13 (by decide) ?_
      exact hret 1 _ _ _ _ _ _ _ (if_neg h0) (by decide) (by decide) hP hD hS dL_step_14
set_option maxRecDepth 20000 in
set_option maxHeartbeats 4000000 in
theorem cw_count (l : Launch) (hl9 : l.stackTraces = false) (G : KG) (o : Nat → Int64) (σ : CS) (v0 : Int32) : KM 1 6 l yL_count (Cond.codeWith yL_count cL_count 4 (some .int) [(0, 9, 12, 15)] :: lw_all) (krx 9) (gD G) vwCl (gT G) (cZX G) (lW G) [.ref (gA G 0), .int v0, .ref (gA G 13)] (o, σ) (wres o σ (x_Top_count σ v0) 1) := by
  refine km_in (by decide) rfl (Nat.le_of_ble_eq_true rfl) ?_
  intro p e s m args below meth c A Q ls hx hb hml hown hts hK hP hD hA hS hZ hl htab hret
  have hts := fun w h => hts w (List.mem_cons_of_mem _ h)
  have hl : lv_has ls 4 [(0, .ref (gA G 0)), (1, .int v0), (2, .ref (gA G 13))] := hl
  refine lv_aload_n hx hb dL_count_0 rfl (lv_at hl 2 rfl) ?_
  refine lv_iconst (v := 0) hx hb dL_count_1 (by decide) ?_
  refine lv_aload_n hx hb dL_count_2 rfl (lv_at hl 0 rfl) ?_
  refine lv_iload_n hx hb dL_count_3 rfl (lv_at hl 1 rfl) ?_
  refine kx_Vb (w := lW G) (rest := [.int 0, .ref (gA G 13)]) (KX_frame (oW G) o cZX_ok (cx_Top_count l hl9 G σ v0)) ⟨hx, hb, hml, hown, hts⟩ (cwV 1 hts (gi_V kw_951 kw_952 kw_953 kw_2 kw_954) rfl rfl rfl ⟨rfl, mdX10_count⟩ ⟨by decide, by decide⟩) (va_recv hK hP (ci := 8) (q0 := 1) rfl rfl) cZX_ok hK hP hD hS hA hZ rfl hl.1 rfl (Nat.le_of_ble_eq_true rfl) dL_count_4 ⟨by decide, by decide⟩ (fun H locs h0 hP hD hS => ?_) (fun H locs E ce q9 h0 hE hP hD hS h1 h2 h3 => ?_)
  · have h0 : (x_Top_count σ v0).1 = 0 := h0
    have hP : va_P (gD G) vwCl (lW G (o, (x_Top_count σ v0).2.2)) H := hP
    have hD : va_D A (lW G (o, (x_Top_count σ v0).2.2)) := hD
    refine lv_i2l (v := (x_Top_count σ v0).2.1.toInt64) hx hb dL_count_7 rfl ?_
    refine va_last (x := ((x_Top_count σ v0).2.1.toInt64)) hx hb hK hP hD hS 0 2 rfl rfl (i := 0) (by unfold vp_in; decide) dL_count_8 (fun H locs hP hD hS => ?_)
    have hP := kP_eq (lWs_o G o ((x_Top_count σ v0).2.2) (vp_updL o (0 : Int32).toNatClampNeg ((x_Top_count σ v0).2.1.toInt64))) hP
    have hD := kD_eq (lWs_o G o ((x_Top_count σ v0).2.2) (vp_updL o (0 : Int32).toNatClampNeg ((x_Top_count σ v0).2.1.toInt64))) hD
    refine lv_goto (tgt := 15) hx hb dL_count_9 (by decide) ?_
    refine lv_iconst (v := 0) hx hb dL_count_15 (by decide) ?_
    exact hret 0 _ _ _ _ _ _ _ (if_pos h0) (by decide) (by decide) hP hD hS dL_count_16
  · have h0 : ¬ (x_Top_count σ v0).1 = 0 := h0
    have hE : E = xE (x_Top_count σ v0).1 := hE
    rcases co_cases σ v0 with hc | hc
    · exact absurd hc h0
    · have hE : E = eIO := by rw [hE, hc]; rfl
      subst hE
      refine kx_catch1 (nm := eIO) ⟨0, 9, 12, 15⟩ [] hown htab (by decide) (by decide) (hts _ kw_118) (cZX_cast hZ).2 h1 h2 h3 ?_
      refine lv_astore_n (lv' := [(3, .ref q9), (0, .ref (gA G 0)), (1, .int v0), (2, .ref (gA G 13))]) hx hb dL_count_12 rfl hl (by decide) rfl (fun ls hl => ?_)
      refine lv_iconst (v := 1) hx hb dL_count_13 (by decide) ?_
      exact hret 1 _ _ _ _ _ _ _ (if_neg h0) (by decide) (by decide) hP hD hS dL_count_14
