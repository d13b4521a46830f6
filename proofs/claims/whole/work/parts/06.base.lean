section KC
variable {p : Program} {l : Launch} {e : Env} {R : Room} {s : State} {m : MethodId} {args : Array Value} {below : List Frame} {meth : Method} {c : Code} {H : Heap} {locs : List Loc} {cells slots : Nat} {Q : State → Prop}
variable {S : Type} {D : va_G} {cl : List vw_C} {tys : List (ClassId × FieldType)} {Z : (Nat → Prop) → State → Heap → Prop} {w : S → va_W} {A : Nat → Prop} {σ : S}
def b01 (b : Bool) : Int32 := if b = true then 1 else 0
theorem b01_t : b01 true = 1 := rfl
theorem b01_f : b01 false = 0 := rfl
theorem b01_nar (b : Bool) : narrow .boolean (.int (b01 b)) = .int (b01 b) := by cases b <;> rfl
theorem b01_fit (b : Bool) : fits .boolean (.int (b01 b)) = true := by cases b <;> rfl
theorem b01_eq0 {b : Bool} : b01 b = 0 ↔ ¬ b = true := by cases b <;> decide
theorem b01_dec {c : Prop} [Decidable c] : b01 (decide c) = if c then 1 else 0 := by unfold b01; by_cases h : c <;> simp [h]
/-- what holds where a method begins: the world as σ has it, the classes, the statics -/
def kc_Pre (D : va_G) (cl : List vw_C) (tys : List (ClassId × FieldType)) (Z : (Nat → Prop) → State → Heap → Prop) (w : S → va_W) (σ : S) (sz : Nat) : State → Prop := fun U => U.heap.size = sz ∧ va_P D cl (w σ) U.heap ∧ va_K D cl tys U ∧ va_D (fun _ => True) (w σ) ∧ Z (va_A (w σ) sz) U U.heap
def kc_Post (D : va_G) (cl : List vw_C) (tys : List (ClassId × FieldType)) (w : S → va_W) (σ : S) (sz : Nat) : S → State → Prop := fun u t => va_P D cl (w u) t.heap ∧ va_K D cl tys t ∧ va_D (va_A (w σ) sz) (w u)
/-- statics stay as they are where the world's own cells alone change -/
def kc_Zok (Z : (Nat → Prop) → State → Heap → Prop) : Prop := ∀ (A A' : Nat → Prop) (U U' : State) (H H' : Heap), Z A U H → U.WarmedH U'.vm → (∀ q : Nat, q < H.size → ¬ A q → H'[q]? = H[q]?) → (∀ q, A' q → A q) → Z A' U' H'
/-- the contracts: an answer and a new state; a new state alone; an answer of a method that touches no heap -/
def KB (l : Launch) (y : MethodName) (ws : List Cond) (rm : Room) (D : va_G) (cl : List vw_C) (tys : List (ClassId × FieldType)) (Z : (Nat → Prop) → State → Heap → Prop) (w : S → va_W) (av : List Value) (σ : S) (q : Int32 × S) : Prop :=
  ∀ sz : Nat, Met l y ws rm (va_Pc av (kc_Pre D cl tys Z w σ sz)) (va_Qi (fun r1 u1 => r1 = q.1 ∧ u1 = q.2) (kc_Post D cl tys w σ sz) (va_A (w σ) sz)) 0 0 (va_A (w σ) sz)
def KV (l : Launch) (y : MethodName) (ws : List Cond) (rm : Room) (D : va_G) (cl : List vw_C) (tys : List (ClassId × FieldType)) (Z : (Nat → Prop) → State → Heap → Prop) (w : S → va_W) (av : List Value) (σ : S) (u : S) : Prop :=
  ∀ sz : Nat, Met l y ws rm (va_Pc av (kc_Pre D cl tys Z w σ sz)) (va_Qv (fun u1 => u1 = u) (kc_Post D cl tys w σ sz) (va_A (w σ) sz)) 0 0 (va_A (w σ) sz)
def KPi (l : Launch) (y : MethodName) (ws : List Cond) (rm : Room) (av : List Value) (r : Int32) : Prop :=
  Met l y ws rm (va_Pc av (fun _ => True)) (fun _ st o t => o = .returned (some (.int r)) ∧ t.heap = st.heap) 0 0 (fun _ => False)
def KPl (l : Launch) (y : MethodName) (ws : List Cond) (rm : Room) (av : List Value) (r : Int64) : Prop :=
  Met l y ws rm (va_Pc av (fun _ => True)) (fun _ st o t => o = .returned (some (.long r)) ∧ t.heap = st.heap) 0 0 (fun _ => False)
theorem kc_free (hD : va_D A (w σ)) (hS : va_S A s.heap H locs) (hA : ∀ q, s.heap.size ≤ q → A q) : ∀ q, va_A (w σ) H.size q → A q := by
  intro q h
  rcases h with ⟨k, e, h⟩ | h
  · exact hD.2 k (q, e) h
  · exact hA q (Nat.le_trans hS.1 h)
theorem kc_blind (hZ : kc_Zok Z) (av : List Value) (sz : Nat) : FrameBlind (va_Pc av (kc_Pre D cl tys Z w σ sz)) := fun a U g mk q => by
  obtain ⟨q0, q1, qP, qK, qD, qZ⟩ := q
  exact ⟨q0, q1, qP, va_K.moved (u := U) (U := U.calling g mk a) (Vm.Alike.refl U.vm) qK, qD, hZ _ _ U (U.calling g mk a) _ _ qZ (State.WarmedH.refl U) (fun _ _ _ => rfl) (fun _ h => h)⟩
theorem kc_start (hZk : kc_Zok Z) (hK : va_K D cl tys s) (hP : va_P D cl (w σ) H) (hD : va_D A (w σ)) (hS : va_S A s.heap H locs) (hA : ∀ q, s.heap.size ≤ q → A q) (hZ : Z A s s.heap) : ∀ U : State, U.heap = H → s.WarmedH U.vm → kc_Pre D cl tys Z w σ H.size U := fun U hU hW =>
  ⟨by rw [hU], by rw [hU]; exact hP, va_K.moved hW.alike hK, hD.weaken (fun _ _ _ _ => trivial), hZk _ _ _ _ _ _ hZ hW (by rw [hU]; exact hS.2.1) (kc_free hD hS hA)⟩

theorem kc_after {pc : Nat} {ls : Array Slot} {st0 rest : List Value} {a : Array Value} {q : Int32 × S} (hr : va_Run p l e R s m args below meth c H locs cells slots 0 0 (F0 m pc ls st0) rest (va_Qi (fun r1 u1 => r1 = q.1 ∧ u1 = q.2) (kc_Post D cl tys w σ H.size) (va_A (w σ) H.size) a) (va_A (w σ) H.size)) (hD : va_D A (w σ)) (hS : va_S A s.heap H locs) (hA : ∀ q, s.heap.size ≤ q → A q)
    (kk : ∀ (H1 : Heap) (locs1 : List Loc), va_P D cl (w q.2) H1 → va_D A (w q.2) → va_S A s.heap H1 locs1 → W p l e R s m args below meth c H1 locs1 cells slots Q (F0 m (pc + 3) ls (.int q.1 :: rest))) : W p l e R s m args below meth c H locs cells slots Q (F0 m pc ls st0) := by
  have hF := kc_free hD hS hA
  refine va_calli hr hS (fun q _ h => hF q h) hF (fun r u t H1 locs1 ht hvm hw hB hz1 hk1 hS1 => ?_)
  obtain ⟨rfl, rfl⟩ := hw
  obtain ⟨hP1, hK1, hD1⟩ := hB
  rw [ht] at hP1
  exact kk H1 locs1 hP1 (hD1.weaken (fun _ _ _ h => hF _ h)) hS1
theorem kc_afterv {pc : Nat} {ls : Array Slot} {st0 rest : List Value} {a : Array Value} {v : S} (hr : va_Run p l e R s m args below meth c H locs cells slots 0 0 (F0 m pc ls st0) rest (va_Qv (fun u1 => u1 = v) (kc_Post D cl tys w σ H.size) (va_A (w σ) H.size) a) (va_A (w σ) H.size)) (hD : va_D A (w σ)) (hS : va_S A s.heap H locs) (hA : ∀ q, s.heap.size ≤ q → A q)
    (kk : ∀ (H1 : Heap) (locs1 : List Loc), va_P D cl (w v) H1 → va_D A (w v) → va_S A s.heap H1 locs1 → W p l e R s m args below meth c H1 locs1 cells slots Q (F0 m (pc + 3) ls rest)) : W p l e R s m args below meth c H locs cells slots Q (F0 m pc ls st0) := by
  have hF := kc_free hD hS hA
  refine va_callv hr hS (fun q _ h => hF q h) hF (fun u t H1 locs1 ht hvm hw hB hz1 hk1 hS1 => ?_)
  obtain rfl := hw
  obtain ⟨hP1, hK1, hD1⟩ := hB
  rw [ht] at hP1
  exact kk H1 locs1 hP1 (hD1.weaken (fun _ _ _ h => hF _ h)) hS1

theorem kc_Vb {y : MethodName} {ws1 : List Cond} {rm1 : Room} {bytes cc : ByteArray} {maxL nL n index pc : Nat} {ret : Option FieldType} {Ts : List Cond} {own : String} {C : String} {b : Addr} {As rest st0 : List Value} {ls : Array Slot} {q : Int32 × S} (hM : KB l y ws1 rm1 D cl tys Z w (.ref b :: As) σ q) (F : CallFix p m c cc nL s args Ts own) (cw : CallW R s args own C index y bytes maxL ret ws1 rm1 0 0 n) (hrec : ∃ cellB : Cell, H[b]? = some cellB ∧ cellB.vm.isStatics = false ∧ s.vm.findClass C = some cellB.cls) (hZk : kc_Zok Z) (hK : va_K D cl tys s) (hP : va_P D cl (w σ) H) (hD : va_D A (w σ)) (hS : va_S A s.heap H locs) (hA : ∀ q, s.heap.size ≤ q → A q) (hZ : Z A s s.heap) (hn : As.length = n) (hsize : ls.size = nL) (hstack : st0 = As.reverse ++ .ref b :: rest) (hroom : (rest.map fun v => v.category).sum ≤ 8) (hdg : decode cc pc = .ok (.invokevirtual index, 3)) (hf : cells + 0 ≤ R.cells ∧ slots + 0 ≤ R.slots)
    (kk : ∀ (H1 : Heap) (locs1 : List Loc), va_P D cl (w q.2) H1 → va_D A (w q.2) → va_S A s.heap H1 locs1 → W p l e R s m args below meth c H1 locs1 cells slots Q (F0 m (pc + 3) ls (.int q.1 :: rest))) : W p l e R s m args below meth c H locs cells slots Q (F0 m pc ls st0) :=
  kc_after (va_runV (g := F0 m pc ls st0) F (hM H.size) cw ⟨kc_blind hZk _ _, hrec, fun U hU hW => ⟨rfl, kc_start hZk hK hP hD hS hA hZ U hU hW⟩⟩ rfl hn hsize hstack (lv_room hroom) hdg hf) hD hS hA kk
theorem kc_Vr {y : MethodName} {ws1 : List Cond} {rm1 : Room} {bytes cc : ByteArray} {maxL nL n index pc : Nat} {ret : Option FieldType} {Ts : List Cond} {own : String} {C : String} {b : Addr} {As rest st0 : List Value} {ls : Array Slot} {v : Int32} (hM : KB l y ws1 rm1 D cl tys Z w (.ref b :: As) σ (v, σ)) (F : CallFix p m c cc nL s args Ts own) (cw : CallW R s args own C index y bytes maxL ret ws1 rm1 0 0 n) (hrec : ∃ cellB : Cell, H[b]? = some cellB ∧ cellB.vm.isStatics = false ∧ s.vm.findClass C = some cellB.cls) (hZk : kc_Zok Z) (hK : va_K D cl tys s) (hP : va_P D cl (w σ) H) (hD : va_D A (w σ)) (hS : va_S A s.heap H locs) (hA : ∀ q, s.heap.size ≤ q → A q) (hZ : Z A s s.heap) (hn : As.length = n) (hsize : ls.size = nL) (hstack : st0 = As.reverse ++ .ref b :: rest) (hroom : (rest.map fun v => v.category).sum ≤ 8) (hdg : decode cc pc = .ok (.invokevirtual index, 3)) (hf : cells + 0 ≤ R.cells ∧ slots + 0 ≤ R.slots)
    (kk : ∀ (H1 : Heap) (locs1 : List Loc), va_P D cl (w σ) H1 → va_D A (w σ) → va_S A s.heap H1 locs1 → W p l e R s m args below meth c H1 locs1 cells slots Q (F0 m (pc + 3) ls (.int v :: rest))) : W p l e R s m args below meth c H locs cells slots Q (F0 m pc ls st0) :=
  kc_after (va_runV (g := F0 m pc ls st0) F (hM H.size) cw ⟨kc_blind hZk _ _, hrec, fun U hU hW => ⟨rfl, kc_start hZk hK hP hD hS hA hZ U hU hW⟩⟩ rfl hn hsize hstack (lv_room hroom) hdg hf) hD hS hA kk
theorem kc_Vv {y : MethodName} {ws1 : List Cond} {rm1 : Room} {bytes cc : ByteArray} {maxL nL n index pc : Nat} {ret : Option FieldType} {Ts : List Cond} {own : String} {C : String} {b : Addr} {As rest st0 : List Value} {ls : Array Slot} {v : S} (hM : KV l y ws1 rm1 D cl tys Z w (.ref b :: As) σ v) (F : CallFix p m c cc nL s args Ts own) (cw : CallW R s args own C index y bytes maxL ret ws1 rm1 0 0 n) (hrec : ∃ cellB : Cell, H[b]? = some cellB ∧ cellB.vm.isStatics = false ∧ s.vm.findClass C = some cellB.cls) (hZk : kc_Zok Z) (hK : va_K D cl tys s) (hP : va_P D cl (w σ) H) (hD : va_D A (w σ)) (hS : va_S A s.heap H locs) (hA : ∀ q, s.heap.size ≤ q → A q) (hZ : Z A s s.heap) (hn : As.length = n) (hsize : ls.size = nL) (hstack : st0 = As.reverse ++ .ref b :: rest) (hroom : (rest.map fun v => v.category).sum ≤ 8) (hdg : decode cc pc = .ok (.invokevirtual index, 3)) (hf : cells + 0 ≤ R.cells ∧ slots + 0 ≤ R.slots)
    (kk : ∀ (H1 : Heap) (locs1 : List Loc), va_P D cl (w v) H1 → va_D A (w v) → va_S A s.heap H1 locs1 → W p l e R s m args below meth c H1 locs1 cells slots Q (F0 m (pc + 3) ls rest)) : W p l e R s m args below meth c H locs cells slots Q (F0 m pc ls st0) :=
  kc_afterv (va_runV (g := F0 m pc ls st0) F (hM H.size) cw ⟨kc_blind hZk _ _, hrec, fun U hU hW => ⟨rfl, kc_start hZk hK hP hD hS hA hZ U hU hW⟩⟩ rfl hn hsize hstack (lv_room hroom) hdg hf) hD hS hA kk
theorem kc_Vz {y : MethodName} {ws1 : List Cond} {rm1 : Room} {bytes cc : ByteArray} {maxL nL n index pc : Nat} {ret : Option FieldType} {Ts : List Cond} {own : String} {C : String} {b : Addr} {As rest st0 : List Value} {ls : Array Slot} {q : Bool × S} (hM : KB l y ws1 rm1 D cl tys Z w (.ref b :: As) σ (b01 q.1, q.2)) (F : CallFix p m c cc nL s args Ts own) (cw : CallW R s args own C index y bytes maxL ret ws1 rm1 0 0 n) (hrec : ∃ cellB : Cell, H[b]? = some cellB ∧ cellB.vm.isStatics = false ∧ s.vm.findClass C = some cellB.cls) (hZk : kc_Zok Z) (hK : va_K D cl tys s) (hP : va_P D cl (w σ) H) (hD : va_D A (w σ)) (hS : va_S A s.heap H locs) (hA : ∀ q, s.heap.size ≤ q → A q) (hZ : Z A s s.heap) (hn : As.length = n) (hsize : ls.size = nL) (hstack : st0 = As.reverse ++ .ref b :: rest) (hroom : (rest.map fun v => v.category).sum ≤ 8) (hdg : decode cc pc = .ok (.invokevirtual index, 3)) (hf : cells + 0 ≤ R.cells ∧ slots + 0 ≤ R.slots)
    (kk : ∀ (H1 : Heap) (locs1 : List Loc), va_P D cl (w q.2) H1 → va_D A (w q.2) → va_S A s.heap H1 locs1 → W p l e R s m args below meth c H1 locs1 cells slots Q (F0 m (pc + 3) ls (.int (b01 q.1) :: rest))) : W p l e R s m args below meth c H locs cells slots Q (F0 m pc ls st0) :=
  kc_after (va_runV (g := F0 m pc ls st0) F (hM H.size) cw ⟨kc_blind hZk _ _, hrec, fun U hU hW => ⟨rfl, kc_start hZk hK hP hD hS hA hZ U hU hW⟩⟩ rfl hn hsize hstack (lv_room hroom) hdg hf) hD hS hA kk
theorem kc_VNb {y : MethodName} {ws1 : List Cond} {rm1 : Room} {bytes cc : ByteArray} {maxL nL n index pc : Nat} {ret : Option FieldType} {Ts : List Cond} {own : String} {C host : String} {b : Addr} {As rest st0 : List Value} {ls : Array Slot} {q : Int32 × S} (hM : KB l y ws1 rm1 D cl tys Z w (.ref b :: As) σ q) (F : CallFix p m c cc nL s args Ts own) (cw : va_CN R s args own index y host bytes maxL ret ws1 rm1 0 0 n ∧ (Cond.instanceMethod y).before args s = true ∧ (Cond.selects C y y).before args s = true) (hrec : ∃ cellB : Cell, H[b]? = some cellB ∧ cellB.vm.isStatics = false ∧ s.vm.findClass C = some cellB.cls) (hZk : kc_Zok Z) (hK : va_K D cl tys s) (hP : va_P D cl (w σ) H) (hD : va_D A (w σ)) (hS : va_S A s.heap H locs) (hA : ∀ q, s.heap.size ≤ q → A q) (hZ : Z A s s.heap) (hn : As.length = n) (hsize : ls.size = nL) (hstack : st0 = As.reverse ++ .ref b :: rest) (hroom : (rest.map fun v => v.category).sum ≤ 8) (hdg : decode cc pc = .ok (.invokevirtual index, 3)) (hf : cells + 0 ≤ R.cells ∧ slots + 0 ≤ R.slots)
    (kk : ∀ (H1 : Heap) (locs1 : List Loc), va_P D cl (w q.2) H1 → va_D A (w q.2) → va_S A s.heap H1 locs1 → W p l e R s m args below meth c H1 locs1 cells slots Q (F0 m (pc + 3) ls (.int q.1 :: rest))) : W p l e R s m args below meth c H locs cells slots Q (F0 m pc ls st0) :=
  kc_after (va_runVN (g := F0 m pc ls st0) F (hM H.size) cw ⟨kc_blind hZk _ _, hrec, fun U hU hW => ⟨rfl, kc_start hZk hK hP hD hS hA hZ U hU hW⟩⟩ rfl hn hsize hstack (lv_room hroom) hdg hf) hD hS hA kk
theorem kc_VNr {y : MethodName} {ws1 : List Cond} {rm1 : Room} {bytes cc : ByteArray} {maxL nL n index pc : Nat} {ret : Option FieldType} {Ts : List Cond} {own : String} {C host : String} {b : Addr} {As rest st0 : List Value} {ls : Array Slot} {v : Int32} (hM : KB l y ws1 rm1 D cl tys Z w (.ref b :: As) σ (v, σ)) (F : CallFix p m c cc nL s args Ts own) (cw : va_CN R s args own index y host bytes maxL ret ws1 rm1 0 0 n ∧ (Cond.instanceMethod y).before args s = true ∧ (Cond.selects C y y).before args s = true) (hrec : ∃ cellB : Cell, H[b]? = some cellB ∧ cellB.vm.isStatics = false ∧ s.vm.findClass C = some cellB.cls) (hZk : kc_Zok Z) (hK : va_K D cl tys s) (hP : va_P D cl (w σ) H) (hD : va_D A (w σ)) (hS : va_S A s.heap H locs) (hA : ∀ q, s.heap.size ≤ q → A q) (hZ : Z A s s.heap) (hn : As.length = n) (hsize : ls.size = nL) (hstack : st0 = As.reverse ++ .ref b :: rest) (hroom : (rest.map fun v => v.category).sum ≤ 8) (hdg : decode cc pc = .ok (.invokevirtual index, 3)) (hf : cells + 0 ≤ R.cells ∧ slots + 0 ≤ R.slots)
    (kk : ∀ (H1 : Heap) (locs1 : List Loc), va_P D cl (w σ) H1 → va_D A (w σ) → va_S A s.heap H1 locs1 → W p l e R s m args below meth c H1 locs1 cells slots Q (F0 m (pc + 3) ls (.int v :: rest))) : W p l e R s m args below meth c H locs cells slots Q (F0 m pc ls st0) :=
  kc_after (va_runVN (g := F0 m pc ls st0) F (hM H.size) cw ⟨kc_blind hZk _ _, hrec, fun U hU hW => ⟨rfl, kc_start hZk hK hP hD hS hA hZ U hU hW⟩⟩ rfl hn hsize hstack (lv_room hroom) hdg hf) hD hS hA kk
theorem kc_VNv {y : MethodName} {ws1 : List Cond} {rm1 : Room} {bytes cc : ByteArray} {maxL nL n index pc : Nat} {ret : Option FieldType} {Ts : List Cond} {own : String} {C host : String} {b : Addr} {As rest st0 : List Value} {ls : Array Slot} {v : S} (hM : KV l y ws1 rm1 D cl tys Z w (.ref b :: As) σ v) (F : CallFix p m c cc nL s args Ts own) (cw : va_CN R s args own index y host bytes maxL ret ws1 rm1 0 0 n ∧ (Cond.instanceMethod y).before args s = true ∧ (Cond.selects C y y).before args s = true) (hrec : ∃ cellB : Cell, H[b]? = some cellB ∧ cellB.vm.isStatics = false ∧ s.vm.findClass C = some cellB.cls) (hZk : kc_Zok Z) (hK : va_K D cl tys s) (hP : va_P D cl (w σ) H) (hD : va_D A (w σ)) (hS : va_S A s.heap H locs) (hA : ∀ q, s.heap.size ≤ q → A q) (hZ : Z A s s.heap) (hn : As.length = n) (hsize : ls.size = nL) (hstack : st0 = As.reverse ++ .ref b :: rest) (hroom : (rest.map fun v => v.category).sum ≤ 8) (hdg : decode cc pc = .ok (.invokevirtual index, 3)) (hf : cells + 0 ≤ R.cells ∧ slots + 0 ≤ R.slots)
    (kk : ∀ (H1 : Heap) (locs1 : List Loc), va_P D cl (w v) H1 → va_D A (w v) → va_S A s.heap H1 locs1 → W p l e R s m args below meth c H1 locs1 cells slots Q (F0 m (pc + 3) ls rest)) : W p l e R s m args below meth c H locs cells slots Q (F0 m pc ls st0) :=
  kc_afterv (va_runVN (g := F0 m pc ls st0) F (hM H.size) cw ⟨kc_blind hZk _ _, hrec, fun U hU hW => ⟨rfl, kc_start hZk hK hP hD hS hA hZ U hU hW⟩⟩ rfl hn hsize hstack (lv_room hroom) hdg hf) hD hS hA kk
theorem kc_VNz {y : MethodName} {ws1 : List Cond} {rm1 : Room} {bytes cc : ByteArray} {maxL nL n index pc : Nat} {ret : Option FieldType} {Ts : List Cond} {own : String} {C host : String} {b : Addr} {As rest st0 : List Value} {ls : Array Slot} {q : Bool × S} (hM : KB l y ws1 rm1 D cl tys Z w (.ref b :: As) σ (b01 q.1, q.2)) (F : CallFix p m c cc nL s args Ts own) (cw : va_CN R s args own index y host bytes maxL ret ws1 rm1 0 0 n ∧ (Cond.instanceMethod y).before args s = true ∧ (Cond.selects C y y).before args s = true) (hrec : ∃ cellB : Cell, H[b]? = some cellB ∧ cellB.vm.isStatics = false ∧ s.vm.findClass C = some cellB.cls) (hZk : kc_Zok Z) (hK : va_K D cl tys s) (hP : va_P D cl (w σ) H) (hD : va_D A (w σ)) (hS : va_S A s.heap H locs) (hA : ∀ q, s.heap.size ≤ q → A q) (hZ : Z A s s.heap) (hn : As.length = n) (hsize : ls.size = nL) (hstack : st0 = As.reverse ++ .ref b :: rest) (hroom : (rest.map fun v => v.category).sum ≤ 8) (hdg : decode cc pc = .ok (.invokevirtual index, 3)) (hf : cells + 0 ≤ R.cells ∧ slots + 0 ≤ R.slots)
    (kk : ∀ (H1 : Heap) (locs1 : List Loc), va_P D cl (w q.2) H1 → va_D A (w q.2) → va_S A s.heap H1 locs1 → W p l e R s m args below meth c H1 locs1 cells slots Q (F0 m (pc + 3) ls (.int (b01 q.1) :: rest))) : W p l e R s m args below meth c H locs cells slots Q (F0 m pc ls st0) :=
  kc_after (va_runVN (g := F0 m pc ls st0) F (hM H.size) cw ⟨kc_blind hZk _ _, hrec, fun U hU hW => ⟨rfl, kc_start hZk hK hP hD hS hA hZ U hU hW⟩⟩ rfl hn hsize hstack (lv_room hroom) hdg hf) hD hS hA kk
theorem kc_Sb {y : MethodName} {ws1 : List Cond} {rm1 : Room} {bytes cc : ByteArray} {maxL nL n index pc : Nat} {ret : Option FieldType} {Ts : List Cond} {own : String} {As rest st0 : List Value} {ls : Array Slot} {q : Int32 × S} (hM : KB l y ws1 rm1 D cl tys Z w As σ q) (F : CallFix p m c cc nL s args Ts own) (cw : CallB R s args own index y bytes maxL ret ws1 rm1 0 0 n ∧ (Cond.static y).before args s = true) (hZk : kc_Zok Z) (hK : va_K D cl tys s) (hP : va_P D cl (w σ) H) (hD : va_D A (w σ)) (hS : va_S A s.heap H locs) (hA : ∀ q, s.heap.size ≤ q → A q) (hZ : Z A s s.heap) (hn : As.length = n) (hsize : ls.size = nL) (hstack : st0 = As.reverse ++ rest) (hroom : (rest.map fun v => v.category).sum ≤ 8) (hdg : decode cc pc = .ok (.invokestatic index, 3)) (hf : cells + 0 ≤ R.cells ∧ slots + 0 ≤ R.slots)
    (kk : ∀ (H1 : Heap) (locs1 : List Loc), va_P D cl (w q.2) H1 → va_D A (w q.2) → va_S A s.heap H1 locs1 → W p l e R s m args below meth c H1 locs1 cells slots Q (F0 m (pc + 3) ls (.int q.1 :: rest))) : W p l e R s m args below meth c H locs cells slots Q (F0 m pc ls st0) :=
  kc_after (va_runS (g := F0 m pc ls st0) F (hM H.size) cw ⟨kc_blind hZk _ _, fun U hU hW => ⟨rfl, kc_start hZk hK hP hD hS hA hZ U hU hW⟩⟩ rfl hn hsize hstack (lv_room hroom) hdg hf) hD hS hA kk
theorem kc_Sr {y : MethodName} {ws1 : List Cond} {rm1 : Room} {bytes cc : ByteArray} {maxL nL n index pc : Nat} {ret : Option FieldType} {Ts : List Cond} {own : String} {As rest st0 : List Value} {ls : Array Slot} {v : Int32} (hM : KB l y ws1 rm1 D cl tys Z w As σ (v, σ)) (F : CallFix p m c cc nL s args Ts own) (cw : CallB R s args own index y bytes maxL ret ws1 rm1 0 0 n ∧ (Cond.static y).before args s = true) (hZk : kc_Zok Z) (hK : va_K D cl tys s) (hP : va_P D cl (w σ) H) (hD : va_D A (w σ)) (hS : va_S A s.heap H locs) (hA : ∀ q, s.heap.size ≤ q → A q) (hZ : Z A s s.heap) (hn : As.length = n) (hsize : ls.size = nL) (hstack : st0 = As.reverse ++ rest) (hroom : (rest.map fun v => v.category).sum ≤ 8) (hdg : decode cc pc = .ok (.invokestatic index, 3)) (hf : cells + 0 ≤ R.cells ∧ slots + 0 ≤ R.slots)
    (kk : ∀ (H1 : Heap) (locs1 : List Loc), va_P D cl (w σ) H1 → va_D A (w σ) → va_S A s.heap H1 locs1 → W p l e R s m args below meth c H1 locs1 cells slots Q (F0 m (pc + 3) ls (.int v :: rest))) : W p l e R s m args below meth c H locs cells slots Q (F0 m pc ls st0) :=
  kc_after (va_runS (g := F0 m pc ls st0) F (hM H.size) cw ⟨kc_blind hZk _ _, fun U hU hW => ⟨rfl, kc_start hZk hK hP hD hS hA hZ U hU hW⟩⟩ rfl hn hsize hstack (lv_room hroom) hdg hf) hD hS hA kk
theorem kc_Sv {y : MethodName} {ws1 : List Cond} {rm1 : Room} {bytes cc : ByteArray} {maxL nL n index pc : Nat} {ret : Option FieldType} {Ts : List Cond} {own : String} {As rest st0 : List Value} {ls : Array Slot} {v : S} (hM : KV l y ws1 rm1 D cl tys Z w As σ v) (F : CallFix p m c cc nL s args Ts own) (cw : CallB R s args own index y bytes maxL ret ws1 rm1 0 0 n ∧ (Cond.static y).before args s = true) (hZk : kc_Zok Z) (hK : va_K D cl tys s) (hP : va_P D cl (w σ) H) (hD : va_D A (w σ)) (hS : va_S A s.heap H locs) (hA : ∀ q, s.heap.size ≤ q → A q) (hZ : Z A s s.heap) (hn : As.length = n) (hsize : ls.size = nL) (hstack : st0 = As.reverse ++ rest) (hroom : (rest.map fun v => v.category).sum ≤ 8) (hdg : decode cc pc = .ok (.invokestatic index, 3)) (hf : cells + 0 ≤ R.cells ∧ slots + 0 ≤ R.slots)
    (kk : ∀ (H1 : Heap) (locs1 : List Loc), va_P D cl (w v) H1 → va_D A (w v) → va_S A s.heap H1 locs1 → W p l e R s m args below meth c H1 locs1 cells slots Q (F0 m (pc + 3) ls rest)) : W p l e R s m args below meth c H locs cells slots Q (F0 m pc ls st0) :=
  kc_afterv (va_runS (g := F0 m pc ls st0) F (hM H.size) cw ⟨kc_blind hZk _ _, fun U hU hW => ⟨rfl, kc_start hZk hK hP hD hS hA hZ U hU hW⟩⟩ rfl hn hsize hstack (lv_room hroom) hdg hf) hD hS hA kk
theorem kc_Sz {y : MethodName} {ws1 : List Cond} {rm1 : Room} {bytes cc : ByteArray} {maxL nL n index pc : Nat} {ret : Option FieldType} {Ts : List Cond} {own : String} {As rest st0 : List Value} {ls : Array Slot} {q : Bool × S} (hM : KB l y ws1 rm1 D cl tys Z w As σ (b01 q.1, q.2)) (F : CallFix p m c cc nL s args Ts own) (cw : CallB R s args own index y bytes maxL ret ws1 rm1 0 0 n ∧ (Cond.static y).before args s = true) (hZk : kc_Zok Z) (hK : va_K D cl tys s) (hP : va_P D cl (w σ) H) (hD : va_D A (w σ)) (hS : va_S A s.heap H locs) (hA : ∀ q, s.heap.size ≤ q → A q) (hZ : Z A s s.heap) (hn : As.length = n) (hsize : ls.size = nL) (hstack : st0 = As.reverse ++ rest) (hroom : (rest.map fun v => v.category).sum ≤ 8) (hdg : decode cc pc = .ok (.invokestatic index, 3)) (hf : cells + 0 ≤ R.cells ∧ slots + 0 ≤ R.slots)
    (kk : ∀ (H1 : Heap) (locs1 : List Loc), va_P D cl (w q.2) H1 → va_D A (w q.2) → va_S A s.heap H1 locs1 → W p l e R s m args below meth c H1 locs1 cells slots Q (F0 m (pc + 3) ls (.int (b01 q.1) :: rest))) : W p l e R s m args below meth c H locs cells slots Q (F0 m pc ls st0) :=
  kc_after (va_runS (g := F0 m pc ls st0) F (hM H.size) cw ⟨kc_blind hZk _ _, fun U hU hW => ⟨rfl, kc_start hZk hK hP hD hS hA hZ U hU hW⟩⟩ rfl hn hsize hstack (lv_room hroom) hdg hf) hD hS hA kk
theorem kc_SNb {y : MethodName} {ws1 : List Cond} {rm1 : Room} {bytes cc : ByteArray} {maxL nL n index pc : Nat} {ret : Option FieldType} {Ts : List Cond} {own : String} {host : String} {As rest st0 : List Value} {ls : Array Slot} {q : Int32 × S} (hM : KB l y ws1 rm1 D cl tys Z w As σ q) (F : CallFix p m c cc nL s args Ts own) (cw : va_CN R s args own index y host bytes maxL ret ws1 rm1 0 0 n ∧ (Cond.static y).before args s = true ∧ True) (hZk : kc_Zok Z) (hK : va_K D cl tys s) (hP : va_P D cl (w σ) H) (hD : va_D A (w σ)) (hS : va_S A s.heap H locs) (hA : ∀ q, s.heap.size ≤ q → A q) (hZ : Z A s s.heap) (hn : As.length = n) (hsize : ls.size = nL) (hstack : st0 = As.reverse ++ rest) (hroom : (rest.map fun v => v.category).sum ≤ 8) (hdg : decode cc pc = .ok (.invokestatic index, 3)) (hf : cells + 0 ≤ R.cells ∧ slots + 0 ≤ R.slots)
    (kk : ∀ (H1 : Heap) (locs1 : List Loc), va_P D cl (w q.2) H1 → va_D A (w q.2) → va_S A s.heap H1 locs1 → W p l e R s m args below meth c H1 locs1 cells slots Q (F0 m (pc + 3) ls (.int q.1 :: rest))) : W p l e R s m args below meth c H locs cells slots Q (F0 m pc ls st0) :=
  kc_after (va_runSN (g := F0 m pc ls st0) F (hM H.size) cw ⟨kc_blind hZk _ _, fun U hU hW => ⟨rfl, kc_start hZk hK hP hD hS hA hZ U hU hW⟩⟩ rfl hn hsize hstack (lv_room hroom) hdg hf) hD hS hA kk
theorem kc_SNr {y : MethodName} {ws1 : List Cond} {rm1 : Room} {bytes cc : ByteArray} {maxL nL n index pc : Nat} {ret : Option FieldType} {Ts : List Cond} {own : String} {host : String} {As rest st0 : List Value} {ls : Array Slot} {v : Int32} (hM : KB l y ws1 rm1 D cl tys Z w As σ (v, σ)) (F : CallFix p m c cc nL s args Ts own) (cw : va_CN R s args own index y host bytes maxL ret ws1 rm1 0 0 n ∧ (Cond.static y).before args s = true ∧ True) (hZk : kc_Zok Z) (hK : va_K D cl tys s) (hP : va_P D cl (w σ) H) (hD : va_D A (w σ)) (hS : va_S A s.heap H locs) (hA : ∀ q, s.heap.size ≤ q → A q) (hZ : Z A s s.heap) (hn : As.length = n) (hsize : ls.size = nL) (hstack : st0 = As.reverse ++ rest) (hroom : (rest.map fun v => v.category).sum ≤ 8) (hdg : decode cc pc = .ok (.invokestatic index, 3)) (hf : cells + 0 ≤ R.cells ∧ slots + 0 ≤ R.slots)
    (kk : ∀ (H1 : Heap) (locs1 : List Loc), va_P D cl (w σ) H1 → va_D A (w σ) → va_S A s.heap H1 locs1 → W p l e R s m args below meth c H1 locs1 cells slots Q (F0 m (pc + 3) ls (.int v :: rest))) : W p l e R s m args below meth c H locs cells slots Q (F0 m pc ls st0) :=
  kc_after (va_runSN (g := F0 m pc ls st0) F (hM H.size) cw ⟨kc_blind hZk _ _, fun U hU hW => ⟨rfl, kc_start hZk hK hP hD hS hA hZ U hU hW⟩⟩ rfl hn hsize hstack (lv_room hroom) hdg hf) hD hS hA kk
theorem kc_SNv {y : MethodName} {ws1 : List Cond} {rm1 : Room} {bytes cc : ByteArray} {maxL nL n index pc : Nat} {ret : Option FieldType} {Ts : List Cond} {own : String} {host : String} {As rest st0 : List Value} {ls : Array Slot} {v : S} (hM : KV l y ws1 rm1 D cl tys Z w As σ v) (F : CallFix p m c cc nL s args Ts own) (cw : va_CN R s args own index y host bytes maxL ret ws1 rm1 0 0 n ∧ (Cond.static y).before args s = true ∧ True) (hZk : kc_Zok Z) (hK : va_K D cl tys s) (hP : va_P D cl (w σ) H) (hD : va_D A (w σ)) (hS : va_S A s.heap H locs) (hA : ∀ q, s.heap.size ≤ q → A q) (hZ : Z A s s.heap) (hn : As.length = n) (hsize : ls.size = nL) (hstack : st0 = As.reverse ++ rest) (hroom : (rest.map fun v => v.category).sum ≤ 8) (hdg : decode cc pc = .ok (.invokestatic index, 3)) (hf : cells + 0 ≤ R.cells ∧ slots + 0 ≤ R.slots)
    (kk : ∀ (H1 : Heap) (locs1 : List Loc), va_P D cl (w v) H1 → va_D A (w v) → va_S A s.heap H1 locs1 → W p l e R s m args below meth c H1 locs1 cells slots Q (F0 m (pc + 3) ls rest)) : W p l e R s m args below meth c H locs cells slots Q (F0 m pc ls st0) :=
  kc_afterv (va_runSN (g := F0 m pc ls st0) F (hM H.size) cw ⟨kc_blind hZk _ _, fun U hU hW => ⟨rfl, kc_start hZk hK hP hD hS hA hZ U hU hW⟩⟩ rfl hn hsize hstack (lv_room hroom) hdg hf) hD hS hA kk
theorem kc_SNz {y : MethodName} {ws1 : List Cond} {rm1 : Room} {bytes cc : ByteArray} {maxL nL n index pc : Nat} {ret : Option FieldType} {Ts : List Cond} {own : String} {host : String} {As rest st0 : List Value} {ls : Array Slot} {q : Bool × S} (hM : KB l y ws1 rm1 D cl tys Z w As σ (b01 q.1, q.2)) (F : CallFix p m c cc nL s args Ts own) (cw : va_CN R s args own index y host bytes maxL ret ws1 rm1 0 0 n ∧ (Cond.static y).before args s = true ∧ True) (hZk : kc_Zok Z) (hK : va_K D cl tys s) (hP : va_P D cl (w σ) H) (hD : va_D A (w σ)) (hS : va_S A s.heap H locs) (hA : ∀ q, s.heap.size ≤ q → A q) (hZ : Z A s s.heap) (hn : As.length = n) (hsize : ls.size = nL) (hstack : st0 = As.reverse ++ rest) (hroom : (rest.map fun v => v.category).sum ≤ 8) (hdg : decode cc pc = .ok (.invokestatic index, 3)) (hf : cells + 0 ≤ R.cells ∧ slots + 0 ≤ R.slots)
    (kk : ∀ (H1 : Heap) (locs1 : List Loc), va_P D cl (w q.2) H1 → va_D A (w q.2) → va_S A s.heap H1 locs1 → W p l e R s m args below meth c H1 locs1 cells slots Q (F0 m (pc + 3) ls (.int (b01 q.1) :: rest))) : W p l e R s m args below meth c H locs cells slots Q (F0 m pc ls st0) :=
  kc_after (va_runSN (g := F0 m pc ls st0) F (hM H.size) cw ⟨kc_blind hZk _ _, fun U hU hW => ⟨rfl, kc_start hZk hK hP hD hS hA hZ U hU hW⟩⟩ rfl hn hsize hstack (lv_room hroom) hdg hf) hD hS hA kk
theorem kp_Si {y : MethodName} {ws1 : List Cond} {rm1 : Room} {bytes cc : ByteArray} {maxL nL n index pc : Nat} {ret : Option FieldType} {Ts : List Cond} {own : String} {As rest st0 : List Value} {ls : Array Slot} {v : Int32} (hM : KPi l y ws1 rm1 As v) (F : CallFix p m c cc nL s args Ts own) (cw : CallB R s args own index y bytes maxL ret ws1 rm1 0 0 n ∧ (Cond.static y).before args s = true) (hn : As.length = n) (hsize : ls.size = nL) (hstack : st0 = As.reverse ++ rest) (hroom : (rest.map fun v => v.category).sum ≤ 8) (hdg : decode cc pc = .ok (.invokestatic index, 3)) (hf : cells + 0 ≤ R.cells ∧ slots + 0 ≤ R.slots)
    (kk : W p l e R s m args below meth c H locs cells slots Q (F0 m (pc + 3) ls (.int v :: rest))) : W p l e R s m args below meth c H locs cells slots Q (F0 m pc ls st0) := by
  intro T hT X
  obtain ⟨v1, st₀, t, T', L, h0, X', hL, e1, e2, ⟨hv, hh⟩, st⟩ := va_runS (g := F0 m pc ls st0) F hM cw ⟨fun a U g mk q => q, fun U hU hW => ⟨rfl, trivial⟩⟩ rfl hn hsize hstack (lv_room hroom) hdg hf T hT X
  have hL0 : L = [] := by
    cases L with
    | nil => rfl
    | cons x xs => exact (hL x List.mem_cons_self).elim
  subst hL0
  rw [List.append_nil] at X'
  cases hv
  obtain ⟨t2, a1, b1⟩ := kk T' (by rw [e1, hh, h0]) X'
  exact ⟨t2, st t2 a1, b1⟩
theorem kp_Sl {y : MethodName} {ws1 : List Cond} {rm1 : Room} {bytes cc : ByteArray} {maxL nL n index pc : Nat} {ret : Option FieldType} {Ts : List Cond} {own : String} {As rest st0 : List Value} {ls : Array Slot} {v : Int64} (hM : KPl l y ws1 rm1 As v) (F : CallFix p m c cc nL s args Ts own) (cw : CallB R s args own index y bytes maxL ret ws1 rm1 0 0 n ∧ (Cond.static y).before args s = true) (hn : As.length = n) (hsize : ls.size = nL) (hstack : st0 = As.reverse ++ rest) (hroom : (rest.map fun v => v.category).sum ≤ 8) (hdg : decode cc pc = .ok (.invokestatic index, 3)) (hf : cells + 0 ≤ R.cells ∧ slots + 0 ≤ R.slots)
    (kk : W p l e R s m args below meth c H locs cells slots Q (F0 m (pc + 3) ls (.long v :: rest))) : W p l e R s m args below meth c H locs cells slots Q (F0 m pc ls st0) := by
  intro T hT X
  obtain ⟨v1, st₀, t, T', L, h0, X', hL, e1, e2, ⟨hv, hh⟩, st⟩ := va_runS (g := F0 m pc ls st0) F hM cw ⟨fun a U g mk q => q, fun U hU hW => ⟨rfl, trivial⟩⟩ rfl hn hsize hstack (lv_room hroom) hdg hf T hT X
  have hL0 : L = [] := by
    cases L with
    | nil => rfl
    | cons x xs => exact (hL x List.mem_cons_self).elim
  subst hL0
  rw [List.append_nil] at X'
  cases hv
  obtain ⟨t2, a1, b1⟩ := kk T' (by rw [e1, hh, h0]) X'
  exact ⟨t2, st t2 a1, b1⟩
theorem kp_SNi {y : MethodName} {ws1 : List Cond} {rm1 : Room} {bytes cc : ByteArray} {maxL nL n index pc : Nat} {ret : Option FieldType} {Ts : List Cond} {own : String} {host : String} {As rest st0 : List Value} {ls : Array Slot} {v : Int32} (hM : KPi l y ws1 rm1 As v) (F : CallFix p m c cc nL s args Ts own) (cw : va_CN R s args own index y host bytes maxL ret ws1 rm1 0 0 n ∧ (Cond.static y).before args s = true ∧ True) (hn : As.length = n) (hsize : ls.size = nL) (hstack : st0 = As.reverse ++ rest) (hroom : (rest.map fun v => v.category).sum ≤ 8) (hdg : decode cc pc = .ok (.invokestatic index, 3)) (hf : cells + 0 ≤ R.cells ∧ slots + 0 ≤ R.slots)
    (kk : W p l e R s m args below meth c H locs cells slots Q (F0 m (pc + 3) ls (.int v :: rest))) : W p l e R s m args below meth c H locs cells slots Q (F0 m pc ls st0) := by
  intro T hT X
  obtain ⟨v1, st₀, t, T', L, h0, X', hL, e1, e2, ⟨hv, hh⟩, st⟩ := va_runSN (g := F0 m pc ls st0) F hM cw ⟨fun a U g mk q => q, fun U hU hW => ⟨rfl, trivial⟩⟩ rfl hn hsize hstack (lv_room hroom) hdg hf T hT X
  have hL0 : L = [] := by
    cases L with
    | nil => rfl
    | cons x xs => exact (hL x List.mem_cons_self).elim
  subst hL0
  rw [List.append_nil] at X'
  cases hv
  obtain ⟨t2, a1, b1⟩ := kk T' (by rw [e1, hh, h0]) X'
  exact ⟨t2, st t2 a1, b1⟩
theorem kp_SNl {y : MethodName} {ws1 : List Cond} {rm1 : Room} {bytes cc : ByteArray} {maxL nL n index pc : Nat} {ret : Option FieldType} {Ts : List Cond} {own : String} {host : String} {As rest st0 : List Value} {ls : Array Slot} {v : Int64} (hM : KPl l y ws1 rm1 As v) (F : CallFix p m c cc nL s args Ts own) (cw : va_CN R s args own index y host bytes maxL ret ws1 rm1 0 0 n ∧ (Cond.static y).before args s = true ∧ True) (hn : As.length = n) (hsize : ls.size = nL) (hstack : st0 = As.reverse ++ rest) (hroom : (rest.map fun v => v.category).sum ≤ 8) (hdg : decode cc pc = .ok (.invokestatic index, 3)) (hf : cells + 0 ≤ R.cells ∧ slots + 0 ≤ R.slots)
    (kk : W p l e R s m args below meth c H locs cells slots Q (F0 m (pc + 3) ls (.long v :: rest))) : W p l e R s m args below meth c H locs cells slots Q (F0 m pc ls st0) := by
  intro T hT X
  obtain ⟨v1, st₀, t, T', L, h0, X', hL, e1, e2, ⟨hv, hh⟩, st⟩ := va_runSN (g := F0 m pc ls st0) F hM cw ⟨fun a U g mk q => q, fun U hU hW => ⟨rfl, trivial⟩⟩ rfl hn hsize hstack (lv_room hroom) hdg hf T hT X
  have hL0 : L = [] := by
    cases L with
    | nil => rfl
    | cons x xs => exact (hL x List.mem_cons_self).elim
  subst hL0
  rw [List.append_nil] at X'
  cases hv
  obtain ⟨t2, a1, b1⟩ := kk T' (by rw [e1, hh, h0]) X'
  exact ⟨t2, st t2 a1, b1⟩
theorem kc_in_b {y : MethodName} {ws ws' : List Cond} {rm : Room} {cc : ByteArray} {maxL : Nat} {av : List Value} {q : Int32 × S} (hy : plainName y.cls = true) (hw : ws = Cond.code y cc maxL (some .int) :: ws') (hn : (lg_sl av).length ≤ maxL)
    (body : ∀ (p : Program) (e : Env) (s : State) (m : MethodId) (args : Array Value) (below : List Frame) (meth : Method) (c : Code) (A : Nat → Prop) (Q : State → Prop) (ls : Array Slot), p.tables.exec = Jvm.exec → c.code = cc → c.maxLocals = maxL → s.vm.findClass y.cls = some m.cls → (∀ x ∈ ws, x.before args s = true) → va_K D cl tys s → va_P D cl (w σ) s.heap → va_D A (w σ) → (∀ q, s.heap.size ≤ q → A q) → va_S A s.heap s.heap [] → Z A s s.heap → lv_has ls maxL (lv_args 0 av) →
      (∀ (r : Int32) (u : S) (H1 : Heap) (locs1 : List Loc) (pc : Nat) (ls : Array Slot), q = (r, u) → va_P D cl (w u) H1 → va_D A (w u) → va_S A s.heap H1 locs1 → decode cc pc = .ok (.ireturn, 1) → W p l e rm s m args below meth c H1 locs1 0 0 Q (F0 m pc ls [.int r])) →
      W p l e rm s m args below meth c s.heap [] 0 0 Q (F0 m 0 ls [])) : KB l y ws rm D cl tys Z w av σ q := by
  intro sz
  refine Met.ofW (cc := cc) (maxL := maxL) (ret := (some .int)) hy hw ?_
  intro p e s m args below meth c s₁ B hml hv
  obtain ⟨rfl, hsz, hP, hK, hD0, hZ⟩ := hv
  have hx := B.exec
  have hb := B.bytes
  have hr := B.returns
  have hts := atoms_spec (ws := ws) B.pre
  have hown : s.vm.findClass y.cls = some m.cls := findClass_of_methodNamed B.named
  have hlocks := B.notSynchronized
  subst hsz
  have hD := hD0.self (sz := s.heap.size)
  have hA : ∀ q : Nat, s.heap.size ≤ q → va_A (w σ) s.heap.size q := fun q h => Or.inr h
  have hS : va_S (va_A (w σ) s.heap.size) s.heap s.heap [] := va_S.rf
  have hl := lv_entry av (n := maxL) hn
  rw [lg_entry_eq]
  refine body p e s m _ below meth c _ _ _ hx hb hml hown hts hK hP hD hA hS hZ hl ?_
  intro r u H1 locs1 pc ls hq hP1 hD1 hS1 hdg
  subst hq
  exact W.iret (v := r) hx hb hr (fun t ht hW => ⟨⟨r, u, rfl, ⟨rfl, rfl⟩, by rw [ht]; exact hP1, va_K.moved hW.alike hK, hD1⟩, hS1.F ht⟩) hS1.2.2 hdg
theorem kc_in_z {y : MethodName} {ws ws' : List Cond} {rm : Room} {cc : ByteArray} {maxL : Nat} {av : List Value} {q : Bool × S} (hy : plainName y.cls = true) (hw : ws = Cond.code y cc maxL (some .boolean) :: ws') (hn : (lg_sl av).length ≤ maxL)
    (body : ∀ (p : Program) (e : Env) (s : State) (m : MethodId) (args : Array Value) (below : List Frame) (meth : Method) (c : Code) (A : Nat → Prop) (Q : State → Prop) (ls : Array Slot), p.tables.exec = Jvm.exec → c.code = cc → c.maxLocals = maxL → s.vm.findClass y.cls = some m.cls → (∀ x ∈ ws, x.before args s = true) → va_K D cl tys s → va_P D cl (w σ) s.heap → va_D A (w σ) → (∀ q, s.heap.size ≤ q → A q) → va_S A s.heap s.heap [] → Z A s s.heap → lv_has ls maxL (lv_args 0 av) →
      (∀ (r : Bool) (u : S) (H1 : Heap) (locs1 : List Loc) (pc : Nat) (ls : Array Slot), q = (r, u) → va_P D cl (w u) H1 → va_D A (w u) → va_S A s.heap H1 locs1 → decode cc pc = .ok (.ireturn, 1) → W p l e rm s m args below meth c H1 locs1 0 0 Q (F0 m pc ls [.int (b01 r)])) →
      W p l e rm s m args below meth c s.heap [] 0 0 Q (F0 m 0 ls [])) : KB l y ws rm D cl tys Z w av σ (b01 q.1, q.2) := by
  intro sz
  refine Met.ofW (cc := cc) (maxL := maxL) (ret := (some .boolean)) hy hw ?_
  intro p e s m args below meth c s₁ B hml hv
  obtain ⟨rfl, hsz, hP, hK, hD0, hZ⟩ := hv
  have hx := B.exec
  have hb := B.bytes
  have hr := B.returns
  have hts := atoms_spec (ws := ws) B.pre
  have hown : s.vm.findClass y.cls = some m.cls := findClass_of_methodNamed B.named
  have hlocks := B.notSynchronized
  subst hsz
  have hD := hD0.self (sz := s.heap.size)
  have hA : ∀ q : Nat, s.heap.size ≤ q → va_A (w σ) s.heap.size q := fun q h => Or.inr h
  have hS : va_S (va_A (w σ) s.heap.size) s.heap s.heap [] := va_S.rf
  have hl := lv_entry av (n := maxL) hn
  rw [lg_entry_eq]
  refine body p e s m _ below meth c _ _ _ hx hb hml hown hts hK hP hD hA hS hZ hl ?_
  intro r u H1 locs1 pc ls hq hP1 hD1 hS1 hdg
  subst hq
  exact W.zret (v := b01 r) hx hb hr (b01_nar r) (fun t ht hW => ⟨⟨b01 r, u, rfl, ⟨rfl, rfl⟩, by rw [ht]; exact hP1, va_K.moved hW.alike hK, hD1⟩, hS1.F ht⟩) hS1.2.2 hdg
theorem kc_in_r {y : MethodName} {ws ws' : List Cond} {rm : Room} {cc : ByteArray} {maxL : Nat} {av : List Value} {q : Int32} (hy : plainName y.cls = true) (hw : ws = Cond.code y cc maxL (some .int) :: ws') (hn : (lg_sl av).length ≤ maxL)
    (body : ∀ (p : Program) (e : Env) (s : State) (m : MethodId) (args : Array Value) (below : List Frame) (meth : Method) (c : Code) (A : Nat → Prop) (Q : State → Prop) (ls : Array Slot), p.tables.exec = Jvm.exec → c.code = cc → c.maxLocals = maxL → s.vm.findClass y.cls = some m.cls → (∀ x ∈ ws, x.before args s = true) → va_K D cl tys s → va_P D cl (w σ) s.heap → va_D A (w σ) → (∀ q, s.heap.size ≤ q → A q) → va_S A s.heap s.heap [] → Z A s s.heap → lv_has ls maxL (lv_args 0 av) →
      (∀ (r : Int32) (H1 : Heap) (locs1 : List Loc) (pc : Nat) (ls : Array Slot), q = r → va_P D cl (w σ) H1 → va_D A (w σ) → va_S A s.heap H1 locs1 → decode cc pc = .ok (.ireturn, 1) → W p l e rm s m args below meth c H1 locs1 0 0 Q (F0 m pc ls [.int r])) →
      W p l e rm s m args below meth c s.heap [] 0 0 Q (F0 m 0 ls [])) : KB l y ws rm D cl tys Z w av σ (q, σ) := by
  intro sz
  refine Met.ofW (cc := cc) (maxL := maxL) (ret := (some .int)) hy hw ?_
  intro p e s m args below meth c s₁ B hml hv
  obtain ⟨rfl, hsz, hP, hK, hD0, hZ⟩ := hv
  have hx := B.exec
  have hb := B.bytes
  have hr := B.returns
  have hts := atoms_spec (ws := ws) B.pre
  have hown : s.vm.findClass y.cls = some m.cls := findClass_of_methodNamed B.named
  have hlocks := B.notSynchronized
  subst hsz
  have hD := hD0.self (sz := s.heap.size)
  have hA : ∀ q : Nat, s.heap.size ≤ q → va_A (w σ) s.heap.size q := fun q h => Or.inr h
  have hS : va_S (va_A (w σ) s.heap.size) s.heap s.heap [] := va_S.rf
  have hl := lv_entry av (n := maxL) hn
  rw [lg_entry_eq]
  refine body p e s m _ below meth c _ _ _ hx hb hml hown hts hK hP hD hA hS hZ hl ?_
  intro r H1 locs1 pc ls hq hP1 hD1 hS1 hdg
  subst hq
  exact W.iret (v := q) hx hb hr (fun t ht hW => ⟨⟨q, σ, rfl, ⟨rfl, rfl⟩, by rw [ht]; exact hP1, va_K.moved hW.alike hK, hD1⟩, hS1.F ht⟩) hS1.2.2 hdg
theorem kc_in_y {y : MethodName} {ws ws' : List Cond} {rm : Room} {cc : ByteArray} {maxL : Nat} {av : List Value} {q : Bool} (hy : plainName y.cls = true) (hw : ws = Cond.code y cc maxL (some .boolean) :: ws') (hn : (lg_sl av).length ≤ maxL)
    (body : ∀ (p : Program) (e : Env) (s : State) (m : MethodId) (args : Array Value) (below : List Frame) (meth : Method) (c : Code) (A : Nat → Prop) (Q : State → Prop) (ls : Array Slot), p.tables.exec = Jvm.exec → c.code = cc → c.maxLocals = maxL → s.vm.findClass y.cls = some m.cls → (∀ x ∈ ws, x.before args s = true) → va_K D cl tys s → va_P D cl (w σ) s.heap → va_D A (w σ) → (∀ q, s.heap.size ≤ q → A q) → va_S A s.heap s.heap [] → Z A s s.heap → lv_has ls maxL (lv_args 0 av) →
      (∀ (r : Bool) (H1 : Heap) (locs1 : List Loc) (pc : Nat) (ls : Array Slot), q = r → va_P D cl (w σ) H1 → va_D A (w σ) → va_S A s.heap H1 locs1 → decode cc pc = .ok (.ireturn, 1) → W p l e rm s m args below meth c H1 locs1 0 0 Q (F0 m pc ls [.int (b01 r)])) →
      W p l e rm s m args below meth c s.heap [] 0 0 Q (F0 m 0 ls [])) : KB l y ws rm D cl tys Z w av σ (b01 q, σ) := by
  intro sz
  refine Met.ofW (cc := cc) (maxL := maxL) (ret := (some .boolean)) hy hw ?_
  intro p e s m args below meth c s₁ B hml hv
  obtain ⟨rfl, hsz, hP, hK, hD0, hZ⟩ := hv
  have hx := B.exec
  have hb := B.bytes
  have hr := B.returns
  have hts := atoms_spec (ws := ws) B.pre
  have hown : s.vm.findClass y.cls = some m.cls := findClass_of_methodNamed B.named
  have hlocks := B.notSynchronized
  subst hsz
  have hD := hD0.self (sz := s.heap.size)
  have hA : ∀ q : Nat, s.heap.size ≤ q → va_A (w σ) s.heap.size q := fun q h => Or.inr h
  have hS : va_S (va_A (w σ) s.heap.size) s.heap s.heap [] := va_S.rf
  have hl := lv_entry av (n := maxL) hn
  rw [lg_entry_eq]
  refine body p e s m _ below meth c _ _ _ hx hb hml hown hts hK hP hD hA hS hZ hl ?_
  intro r H1 locs1 pc ls hq hP1 hD1 hS1 hdg
  subst hq
  exact W.zret (v := b01 q) hx hb hr (b01_nar q) (fun t ht hW => ⟨⟨b01 q, σ, rfl, ⟨rfl, rfl⟩, by rw [ht]; exact hP1, va_K.moved hW.alike hK, hD1⟩, hS1.F ht⟩) hS1.2.2 hdg
theorem kc_in_v {y : MethodName} {ws ws' : List Cond} {rm : Room} {cc : ByteArray} {maxL : Nat} {av : List Value} {q : S} (hy : plainName y.cls = true) (hw : ws = Cond.code y cc maxL none :: ws') (hn : (lg_sl av).length ≤ maxL)
    (body : ∀ (p : Program) (e : Env) (s : State) (m : MethodId) (args : Array Value) (below : List Frame) (meth : Method) (c : Code) (A : Nat → Prop) (Q : State → Prop) (ls : Array Slot), p.tables.exec = Jvm.exec → c.code = cc → c.maxLocals = maxL → s.vm.findClass y.cls = some m.cls → (∀ x ∈ ws, x.before args s = true) → va_K D cl tys s → va_P D cl (w σ) s.heap → va_D A (w σ) → (∀ q, s.heap.size ≤ q → A q) → va_S A s.heap s.heap [] → Z A s s.heap → lv_has ls maxL (lv_args 0 av) →
      (∀ (u : S) (H1 : Heap) (locs1 : List Loc) (pc : Nat) (ls : Array Slot), q = u → va_P D cl (w u) H1 → va_D A (w u) → va_S A s.heap H1 locs1 → decode cc pc = .ok (.return_, 1) → W p l e rm s m args below meth c H1 locs1 0 0 Q (F0 m pc ls [])) →
      W p l e rm s m args below meth c s.heap [] 0 0 Q (F0 m 0 ls [])) : KV l y ws rm D cl tys Z w av σ q := by
  intro sz
  refine Met.ofW (cc := cc) (maxL := maxL) (ret := none) hy hw ?_
  intro p e s m args below meth c s₁ B hml hv
  obtain ⟨rfl, hsz, hP, hK, hD0, hZ⟩ := hv
  have hx := B.exec
  have hb := B.bytes
  have hr := B.returns
  have hts := atoms_spec (ws := ws) B.pre
  have hown : s.vm.findClass y.cls = some m.cls := findClass_of_methodNamed B.named
  have hlocks := B.notSynchronized
  subst hsz
  have hD := hD0.self (sz := s.heap.size)
  have hA : ∀ q : Nat, s.heap.size ≤ q → va_A (w σ) s.heap.size q := fun q h => Or.inr h
  have hS : va_S (va_A (w σ) s.heap.size) s.heap s.heap [] := va_S.rf
  have hl := lv_entry av (n := maxL) hn
  rw [lg_entry_eq]
  refine body p e s m _ below meth c _ _ _ hx hb hml hown hts hK hP hD hA hS hZ hl ?_
  intro u H1 locs1 pc ls hq hP1 hD1 hS1 hdg
  subst hq
  exact W.vret hx hb hr (fun t ht hW => ⟨⟨q, rfl, rfl, by rw [ht]; exact hP1, va_K.moved hW.alike hK, hD1⟩, hS1.F ht⟩) hS1.2.2 hdg
theorem kp_in_i {y : MethodName} {ws ws' : List Cond} {rm : Room} {cc : ByteArray} {maxL : Nat} {av : List Value} {q : Int32} (hy : plainName y.cls = true) (hw : ws = Cond.code y cc maxL (some .int) :: ws') (hn : (lg_sl av).length ≤ maxL)
    (body : ∀ (p : Program) (e : Env) (s : State) (m : MethodId) (args : Array Value) (below : List Frame) (meth : Method) (c : Code) (Q : State → Prop) (ls : Array Slot), p.tables.exec = Jvm.exec → c.code = cc → c.maxLocals = maxL → s.vm.findClass y.cls = some m.cls → (∀ x ∈ ws, x.before args s = true) → lv_has ls maxL (lv_args 0 av) →
      (∀ (r : Int32) (pc : Nat) (ls : Array Slot), q = r → decode cc pc = .ok (.ireturn, 1) → W p l e rm s m args below meth c s.heap [] 0 0 Q (F0 m pc ls [.int r])) →
      W p l e rm s m args below meth c s.heap [] 0 0 Q (F0 m 0 ls [])) : KPi l y ws rm av q := by
  refine Met.ofW (cc := cc) (maxL := maxL) (ret := (some .int)) hy hw ?_
  intro p e s m args below meth c s₁ B hml hv
  obtain ⟨rfl, -⟩ := hv
  have hx := B.exec
  have hb := B.bytes
  have hr := B.returns
  have hts := atoms_spec (ws := ws) B.pre
  have hown : s.vm.findClass y.cls = some m.cls := findClass_of_methodNamed B.named
  have hlocks := B.notSynchronized
  have hl := lv_entry av (n := maxL) hn
  rw [lg_entry_eq]
  refine body p e s m _ below meth c _ _ hx hb hml hown hts hl ?_
  intro r pc ls hq hdg
  subst hq
  exact W.iret (v := q) hx hb hr (fun t ht hW => ⟨rfl, ht⟩) (fun _ h => by cases h) hdg
theorem kp_in_z {y : MethodName} {ws ws' : List Cond} {rm : Room} {cc : ByteArray} {maxL : Nat} {av : List Value} {q : Bool} (hy : plainName y.cls = true) (hw : ws = Cond.code y cc maxL (some .boolean) :: ws') (hn : (lg_sl av).length ≤ maxL)
    (body : ∀ (p : Program) (e : Env) (s : State) (m : MethodId) (args : Array Value) (below : List Frame) (meth : Method) (c : Code) (Q : State → Prop) (ls : Array Slot), p.tables.exec = Jvm.exec → c.code = cc → c.maxLocals = maxL → s.vm.findClass y.cls = some m.cls → (∀ x ∈ ws, x.before args s = true) → lv_has ls maxL (lv_args 0 av) →
      (∀ (r : Bool) (pc : Nat) (ls : Array Slot), q = r → decode cc pc = .ok (.ireturn, 1) → W p l e rm s m args below meth c s.heap [] 0 0 Q (F0 m pc ls [.int (b01 r)])) →
      W p l e rm s m args below meth c s.heap [] 0 0 Q (F0 m 0 ls [])) : KPi l y ws rm av (b01 q) := by
  refine Met.ofW (cc := cc) (maxL := maxL) (ret := (some .boolean)) hy hw ?_
  intro p e s m args below meth c s₁ B hml hv
  obtain ⟨rfl, -⟩ := hv
  have hx := B.exec
  have hb := B.bytes
  have hr := B.returns
  have hts := atoms_spec (ws := ws) B.pre
  have hown : s.vm.findClass y.cls = some m.cls := findClass_of_methodNamed B.named
  have hlocks := B.notSynchronized
  have hl := lv_entry av (n := maxL) hn
  rw [lg_entry_eq]
  refine body p e s m _ below meth c _ _ hx hb hml hown hts hl ?_
  intro r pc ls hq hdg
  subst hq
  exact W.zret (v := b01 q) hx hb hr (b01_nar q) (fun t ht hW => ⟨rfl, ht⟩) (fun _ h => by cases h) hdg
theorem kp_in_l {y : MethodName} {ws ws' : List Cond} {rm : Room} {cc : ByteArray} {maxL : Nat} {av : List Value} {q : Int64} (hy : plainName y.cls = true) (hw : ws = Cond.code y cc maxL (some .long) :: ws') (hn : (lg_sl av).length ≤ maxL)
    (body : ∀ (p : Program) (e : Env) (s : State) (m : MethodId) (args : Array Value) (below : List Frame) (meth : Method) (c : Code) (Q : State → Prop) (ls : Array Slot), p.tables.exec = Jvm.exec → c.code = cc → c.maxLocals = maxL → s.vm.findClass y.cls = some m.cls → (∀ x ∈ ws, x.before args s = true) → lv_has ls maxL (lv_args 0 av) →
      (∀ (r : Int64) (pc : Nat) (ls : Array Slot), q = r → decode cc pc = .ok (.lreturn, 1) → W p l e rm s m args below meth c s.heap [] 0 0 Q (F0 m pc ls [.long r])) →
      W p l e rm s m args below meth c s.heap [] 0 0 Q (F0 m 0 ls [])) : KPl l y ws rm av q := by
  refine Met.ofW (cc := cc) (maxL := maxL) (ret := (some .long)) hy hw ?_
  intro p e s m args below meth c s₁ B hml hv
  obtain ⟨rfl, -⟩ := hv
  have hx := B.exec
  have hb := B.bytes
  have hr := B.returns
  have hts := atoms_spec (ws := ws) B.pre
  have hown : s.vm.findClass y.cls = some m.cls := findClass_of_methodNamed B.named
  have hlocks := B.notSynchronized
  have hl := lv_entry av (n := maxL) hn
  rw [lg_entry_eq]
  refine body p e s m _ below meth c _ _ hx hb hml hown hts hl ?_
  intro r pc ls hq hdg
  subst hq
  exact W.lret (v := q) hx hb hr (fun t ht hW => ⟨rfl, ht⟩) (fun _ h => by cases h) hdg
/-- booleans as 0 and 1 on the stack -/
theorem kz_t {c0 : Prop} [Decidable c0] {pc : Nat} {ls : Array Slot} {rest : List Value} (h : c0) (J : W p l e R s m args below meth c H locs cells slots Q (F0 m pc ls (.int (b01 (decide c0)) :: rest))) : W p l e R s m args below meth c H locs cells slots Q (F0 m pc ls (.int 1 :: rest)) := by
  rw [decide_eq_true h] at J; exact J
theorem kz_f {c0 : Prop} [Decidable c0] {pc : Nat} {ls : Array Slot} {rest : List Value} (h : ¬ c0) (J : W p l e R s m args below meth c H locs cells slots Q (F0 m pc ls (.int (b01 (decide c0)) :: rest))) : W p l e R s m args below meth c H locs cells slots Q (F0 m pc ls (.int 0 :: rest)) := by
  rw [decide_eq_false h] at J; exact J
theorem kz_eq {cc : ByteArray} {pc tgt : Nat} {ls : Array Slot} {rest : List Value} (hexec : p.tables.exec = Jvm.exec) (hb : c.code = cc) {x : Bool} {off : Int} (hdg : decode cc pc = .ok (.ifCond .eq off, 3)) (ht : (pc : Int) + off = (tgt : Int))
    (kt : ¬ x = true → W p l e R s m args below meth c H locs cells slots Q (F0 m tgt ls rest)) (kf : x = true → W p l e R s m args below meth c H locs cells slots Q (F0 m (pc + 3) ls rest)) : W p l e R s m args below meth c H locs cells slots Q (F0 m pc ls (.int (b01 x) :: rest)) :=
  lv_if_eq hexec hb hdg ht (fun h => kt (b01_eq0.mp h)) (fun h => kf (Classical.byContradiction fun q => h (b01_eq0.mpr q)))
theorem kz_ne {cc : ByteArray} {pc tgt : Nat} {ls : Array Slot} {rest : List Value} (hexec : p.tables.exec = Jvm.exec) (hb : c.code = cc) {x : Bool} {off : Int} (hdg : decode cc pc = .ok (.ifCond .ne off, 3)) (ht : (pc : Int) + off = (tgt : Int))
    (kt : x = true → W p l e R s m args below meth c H locs cells slots Q (F0 m tgt ls rest)) (kf : ¬ x = true → W p l e R s m args below meth c H locs cells slots Q (F0 m (pc + 3) ls rest)) : W p l e R s m args below meth c H locs cells slots Q (F0 m pc ls (.int (b01 x) :: rest)) :=
  lv_if_ne hexec hb hdg ht (fun h => kt (Classical.byContradiction fun q => h (b01_eq0.mpr q))) (fun h => kf (b01_eq0.mp h))
theorem kz_dP0 {P : Prop} [Decidable P] {cc : ByteArray} {pc tgt M : Nat} {off2 : Int} {ls : Array Slot} {rest st0 : List Value} (hbr : (P → W p l e R s m args below meth c H locs cells slots Q (F0 m tgt ls rest)) → (¬ P → W p l e R s m args below meth c H locs cells slots Q (F0 m (pc + 3) ls rest)) → W p l e R s m args below meth c H locs cells slots Q (F0 m pc ls st0)) (hexec : p.tables.exec = Jvm.exec) (hb : c.code = cc) (d2 : decode cc (pc + 3) = .ok (.iconst 1, 1)) (d3 : decode cc (pc + 3 + 1) = .ok (.goto off2, 3)) (ht : ((pc + 3 + 1 : Nat) : Int) + off2 = (M : Int)) (d4 : decode cc tgt = .ok (.iconst 0, 1)) (hM : tgt + 1 = M)
    (k : W p l e R s m args below meth c H locs cells slots Q (F0 m M ls (.int (b01 (decide (¬ P))) :: rest))) : W p l e R s m args below meth c H locs cells slots Q (F0 m pc ls st0) := by
  subst hM
  refine hbr (fun h => ?_) (fun h => ?_)
  · refine lv_iconst (v := 0) hexec hb d4 (by decide) ?_
    exact kz_f (c0 := ¬ P) (fun q => q h) k
  · refine lv_iconst (v := 1) hexec hb d2 (by decide) ?_
    refine lv_goto hexec hb d3 ht ?_
    exact kz_t (c0 := ¬ P) (h) k
theorem kz_dP1 {P : Prop} [Decidable P] {cc : ByteArray} {pc tgt M : Nat} {off2 : Int} {ls : Array Slot} {rest st0 : List Value} (hbr : (P → W p l e R s m args below meth c H locs cells slots Q (F0 m tgt ls rest)) → (¬ P → W p l e R s m args below meth c H locs cells slots Q (F0 m (pc + 3) ls rest)) → W p l e R s m args below meth c H locs cells slots Q (F0 m pc ls st0)) (hexec : p.tables.exec = Jvm.exec) (hb : c.code = cc) (d2 : decode cc (pc + 3) = .ok (.iconst 0, 1)) (d3 : decode cc (pc + 3 + 1) = .ok (.goto off2, 3)) (ht : ((pc + 3 + 1 : Nat) : Int) + off2 = (M : Int)) (d4 : decode cc tgt = .ok (.iconst 1, 1)) (hM : tgt + 1 = M)
    (k : W p l e R s m args below meth c H locs cells slots Q (F0 m M ls (.int (b01 (decide (P))) :: rest))) : W p l e R s m args below meth c H locs cells slots Q (F0 m pc ls st0) := by
  subst hM
  refine hbr (fun h => ?_) (fun h => ?_)
  · refine lv_iconst (v := 1) hexec hb d4 (by decide) ?_
    exact kz_t (c0 := P) (h) k
  · refine lv_iconst (v := 0) hexec hb d2 (by decide) ?_
    refine lv_goto hexec hb d3 ht ?_
    exact kz_f (c0 := P) h k
theorem kz_dN0 {P : Prop} [Decidable P] {cc : ByteArray} {pc tgt M : Nat} {off2 : Int} {ls : Array Slot} {rest st0 : List Value} (hbr : (¬ P → W p l e R s m args below meth c H locs cells slots Q (F0 m tgt ls rest)) → (P → W p l e R s m args below meth c H locs cells slots Q (F0 m (pc + 3) ls rest)) → W p l e R s m args below meth c H locs cells slots Q (F0 m pc ls st0)) (hexec : p.tables.exec = Jvm.exec) (hb : c.code = cc) (d2 : decode cc (pc + 3) = .ok (.iconst 1, 1)) (d3 : decode cc (pc + 3 + 1) = .ok (.goto off2, 3)) (ht : ((pc + 3 + 1 : Nat) : Int) + off2 = (M : Int)) (d4 : decode cc tgt = .ok (.iconst 0, 1)) (hM : tgt + 1 = M)
    (k : W p l e R s m args below meth c H locs cells slots Q (F0 m M ls (.int (b01 (decide (P))) :: rest))) : W p l e R s m args below meth c H locs cells slots Q (F0 m pc ls st0) := by
  subst hM
  refine hbr (fun h => ?_) (fun h => ?_)
  · refine lv_iconst (v := 0) hexec hb d4 (by decide) ?_
    exact kz_f (c0 := P) h k
  · refine lv_iconst (v := 1) hexec hb d2 (by decide) ?_
    refine lv_goto hexec hb d3 ht ?_
    exact kz_t (c0 := P) (h) k
theorem kz_dN1 {P : Prop} [Decidable P] {cc : ByteArray} {pc tgt M : Nat} {off2 : Int} {ls : Array Slot} {rest st0 : List Value} (hbr : (¬ P → W p l e R s m args below meth c H locs cells slots Q (F0 m tgt ls rest)) → (P → W p l e R s m args below meth c H locs cells slots Q (F0 m (pc + 3) ls rest)) → W p l e R s m args below meth c H locs cells slots Q (F0 m pc ls st0)) (hexec : p.tables.exec = Jvm.exec) (hb : c.code = cc) (d2 : decode cc (pc + 3) = .ok (.iconst 0, 1)) (d3 : decode cc (pc + 3 + 1) = .ok (.goto off2, 3)) (ht : ((pc + 3 + 1 : Nat) : Int) + off2 = (M : Int)) (d4 : decode cc tgt = .ok (.iconst 1, 1)) (hM : tgt + 1 = M)
    (k : W p l e R s m args below meth c H locs cells slots Q (F0 m M ls (.int (b01 (decide (¬ P))) :: rest))) : W p l e R s m args below meth c H locs cells slots Q (F0 m pc ls st0) := by
  subst hM
  refine hbr (fun h => ?_) (fun h => ?_)
  · refine lv_iconst (v := 1) hexec hb d4 (by decide) ?_
    exact kz_t (c0 := ¬ P) (h) k
  · refine lv_iconst (v := 0) hexec hb d2 (by decide) ?_
    refine lv_goto hexec hb d3 ht ?_
    exact kz_f (c0 := ¬ P) (fun q => q h) k
theorem ksw_n {x : Int32} : ∀ k ∈ ([] : List Int32), ¬ x = k := fun k h => by cases h
theorem ksw_c {x a : Int32} {l : List Int32} (h : ¬ x = a) (t : ∀ k ∈ l, ¬ x = k) : ∀ k ∈ (a :: l), ¬ x = k := fun k hk => by
  rcases List.mem_cons.mp hk with rfl | q
  · exact h
  · exact t k q
theorem ksw_dflt {cc : ByteArray} {pc tgt : Nat} {ls : Array Slot} {rest : List Value} (hexec : p.tables.exec = Jvm.exec) (hb : c.code = cc) {dflt lo hi : Int} {offs : Array Int} {len : Nat} {x : Int32} (hdg : decode cc pc = .ok (.tableswitch dflt lo hi offs, len)) (live : List Int32) (hne : ∀ k ∈ live, ¬ x = k)
    (hcov : ∀ j, j < (hi - lo + 1).toNat → (∃ k ∈ live, k.toInt = lo + (j : Int)) ∨ offs[j]? = some dflt) (ht : (pc : Int) + dflt = (tgt : Int)) (k : W p l e R s m args below meth c H locs cells slots Q (F0 m tgt ls rest)) : W p l e R s m args below meth c H locs cells slots Q (F0 m pc ls (.int x :: rest)) := by
  by_cases h1 : x.toInt < lo
  · exact lv_tableOut hexec hb hdg (Or.inl h1) ht k
  · by_cases h2 : hi < x.toInt
    · exact lv_tableOut hexec hb hdg (Or.inr h2) ht k
    · rcases hcov (x.toInt - lo).toNat (by omega) with ⟨k1, hk, hk2⟩ | h
      · exact absurd (Int32.toInt_inj.mp (by rw [hk2]; omega)) (hne k1 hk)
      · exact lv_tableIn hexec hb hdg h1 h2 h ht k
end KC
