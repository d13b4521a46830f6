/-! methods that throw: contracts, throws, calls of such methods -/
abbrev eIA : String := "java/lang/IllegalArgumentException"
abbrev eIO : String := "java/lang/IndexOutOfBoundsException"
abbrev eUp : List String := ["java/lang/RuntimeException", "java/lang/Exception"]
/-- the class of what is thrown: 1 and 2 as the law has them -/
def xE (k : Nat) : String := if k = 1 then eIA else eIO
abbrev krx (k : Nat) : Room := { frames := k, cells := 1, slots := 6, locals := 39 * k }
abbrev aIA : List Cond := vx_atS RX10 75 eIA eUp
abbrev aIO : List Cond := vx_atS RX10 88 eIO eUp
/-- words of these that warmth doesn't keep by itself -/
def xB : List Cond := [.castable eIA eIA, .castable eIO eIO, .declares ⟨"java/lang/RuntimeException", "<init>", "(Ljava/lang/String;)V"⟩, .declares ⟨"java/lang/Exception", "<init>", "(Ljava/lang/String;)V"⟩, .declares ⟨"java/lang/Throwable", "<init>", "(Ljava/lang/String;)V"⟩]
theorem xw_IA : ∀ w ∈ aIA.filter goodWord, w ∈ lw_all := fun w h => List.mem_filter.mpr ⟨(show ∀ w ∈ aIA.filter goodWord, w ∈ lw_tbl by decide +kernel) w h, (List.mem_filter.mp h).2⟩
theorem xw_IO : ∀ w ∈ aIO.filter goodWord, w ∈ lw_all := fun w h => List.mem_filter.mpr ⟨(show ∀ w ∈ aIO.filter goodWord, w ∈ lw_tbl by decide +kernel) w h, (List.mem_filter.mp h).2⟩
theorem xb_IA : ∀ w ∈ aIA.filter (fun w => !goodWord w), w ∈ xB := by decide +kernel
theorem xb_IO : ∀ w ∈ aIO.filter (fun w => !goodWord w), w ∈ xB := by decide +kernel
theorem xg_IA : ∀ w ∈ Cond.classLink RX10 71 eIA :: Cond.initialized eIA :: aIA, vx_ot w = true := by decide +kernel
theorem xg_IO : ∀ w ∈ Cond.classLink RX10 84 eIO :: Cond.initialized eIO :: aIO, vx_ot w = true := by decide +kernel
theorem xB_moved {U U' : State} (hvm : U.vm.Alike U'.vm) (h : ∀ w ∈ xB, w.before #[] U = true) : ∀ w ∈ xB, w.before #[] U' = true := by
  have tr : ∀ {c : Cond}, c.onTables = true → c.before #[] (U.setVm U'.vm) = true → c.before #[] U' = true := by
    intro c hc h
    have e := Cond.onTables_vm (A := #[]) (A' := #[]) (U := U) (U' := U') U'.vm c hc
    have hU : U'.setVm U'.vm = U' := rfl
    rw [hU] at e
    rw [← e]
    exact h
  intro w hw
  have hw0 := h w hw
  simp only [xB, List.mem_cons, List.not_mem_nil, or_false] at hw
  rcases hw with rfl | rfl | rfl | rfl | rfl
  · exact tr rfl (by rw [Cond.castable_setVm hvm]; exact hw0)
  · exact tr rfl (by rw [Cond.castable_setVm hvm]; exact hw0)
  · exact tr rfl (by rw [Cond.declares_setVm hvm]; exact hw0)
  · exact tr rfl (by rw [Cond.declares_setVm hvm]; exact hw0)
  · exact tr rfl (by rw [Cond.declares_setVm hvm]; exact hw0)
theorem xB_ot : ∀ w ∈ xB, w.onTables = true := by decide +kernel
theorem xB_any {U : State} {args : Array Value} (h : ∀ w ∈ xB, w.before #[] U = true) : ∀ w ∈ xB, w.before args U = true := fun w hw => va_tabs (xB_ot w hw) rfl (h w hw)
/-- the statics and words of methods that throw -/
def cZX (G : KG) (A : Nat → Prop) (U : State) (H : Heap) : Prop := cZ G A U H ∧ (∀ w ∈ xB, w.before #[] U = true) ∧ va_Nc eIO eIA U
theorem cZX_ok {G : KG} : kc_Zok (cZX G) := by
  intro A A' U U' H H' h hW hq hA
  exact ⟨cZ_ok _ _ _ _ _ _ h.1 hW hq hA, xB_moved hW.alike h.2.1, h.2.2.moved hW.alike⟩
section KXs
variable {p : Program} {l : Launch} {e : Env} {R : Room} {s : State} {m : MethodId} {args : Array Value} {below : List Frame} {meth : Method} {c : Code} {H : Heap} {locs : List Loc} {cells slots : Nat}
variable {S : Type} {D : va_G} {cl : List vw_C} {tys : List (ClassId × FieldType)} {Z : (Nat → Prop) → State → Heap → Prop} {w : S → va_W} {A : Nat → Prop} {σ : S}
/-- what a thrown exception leaves: the state as it was -/
def kx_X (D : va_G) (cl : List vw_C) (tys : List (ClassId × FieldType)) (w : S → va_W) (σ : S) (k : Nat) (A : Nat → Prop) : String → State → State → Prop := vx_X (fun u : S => u = σ) (fun E u t => ¬ k = 0 ∧ E = xE k ∧ va_P D cl (w u) t.heap ∧ va_K D cl tys t ∧ va_D A (w u)) A
def kx_Pi (D : va_G) (cl : List vw_C) (tys : List (ClassId × FieldType)) (w : S → va_W) (q : Nat × Int32 × S) (A : Nat → Prop) : Array Value → State → Outcome → State → Prop := va_Qi (fun r1 u1 => q.1 = 0 ∧ r1 = q.2.1 ∧ u1 = q.2.2) (fun u t => va_P D cl (w u) t.heap ∧ va_K D cl tys t ∧ va_D A (w u)) A
def kx_Pv (D : va_G) (cl : List vw_C) (tys : List (ClassId × FieldType)) (w : S → va_W) (q : Nat × S) (A : Nat → Prop) : Array Value → State → Outcome → State → Prop := va_Qv (fun u1 => q.1 = 0 ∧ u1 = q.2) (fun u t => va_P D cl (w u) t.heap ∧ va_K D cl tys t ∧ va_D A (w u)) A
def KX (l : Launch) (y : MethodName) (ws : List Cond) (rm : Room) (D : va_G) (cl : List vw_C) (tys : List (ClassId × FieldType)) (Z : (Nat → Prop) → State → Heap → Prop) (w : S → va_W) (av : List Value) (σ : S) (q : Nat × Int32 × S) : Prop :=
  ∀ sz : Nat, vx_Met l y ws rm (va_Pc av (kc_Pre D cl tys Z w σ sz)) (kx_Pi D cl tys w q (va_A (w σ) sz)) (kx_X D cl tys w σ q.1 (va_A (w σ) sz)) 1 6 (va_A (w σ) sz)
def KXv (l : Launch) (y : MethodName) (ws : List Cond) (rm : Room) (D : va_G) (cl : List vw_C) (tys : List (ClassId × FieldType)) (Z : (Nat → Prop) → State → Heap → Prop) (w : S → va_W) (av : List Value) (σ : S) (q : Nat × S) : Prop :=
  ∀ sz : Nat, vx_Met l y ws rm (va_Pc av (kc_Pre D cl tys Z w σ sz)) (kx_Pv D cl tys w q (va_A (w σ) sz)) (kx_X D cl tys w σ q.1 (va_A (w σ) sz)) 1 6 (va_A (w σ) sz)
theorem kx_in_b {y : MethodName} {ws ws' : List Cond} {rm : Room} {cc : ByteArray} {maxL : Nat} {ret : Option FieldType} {av : List Value} {q : Nat × Int32 × S} (hy : plainName y.cls = true) (hw : ws = Cond.code y cc maxL ret :: ws') (hn : (lg_sl av).length ≤ maxL)
    (body : ∀ (p : Program) (e : Env) (s : State) (m : MethodId) (args : Array Value) (below : List Frame) (meth : Method) (c : Code) (A : Nat → Prop) (ls : Array Slot), p.tables.exec = Jvm.exec → c.code = cc → c.maxLocals = maxL → s.vm.findClass y.cls = some m.cls → (∀ x ∈ ws, x.before args s = true) → va_K D cl tys s → va_P D cl (w σ) s.heap → va_D A (w σ) → (∀ q, s.heap.size ≤ q → A q) → va_S A s.heap s.heap [] → Z A s s.heap → lv_has ls maxL (lv_args 0 av) →
      meth.sig.returnType = ret → meth.locks = false → (∀ x ∈ c.exceptionTable.toList, False) →
      W p l e rm s m args below meth c s.heap [] 0 0 (vx_MQ below (kx_Pi D cl tys w q A) (kx_X D cl tys w σ q.1 A) args s 1 6 A) (F0 m 0 ls [])) : KX l y ws rm D cl tys Z w av σ q := by
  intro sz
  refine vx_ofW (cc := cc) (maxL := maxL) (ret := ret) hy hw ?_
  intro p e s m args below meth c s₁ B hml htab hv
  obtain ⟨rfl, hsz, hP, hK, hD0, hZ⟩ := hv
  have hl := lv_entry av (n := maxL) hn
  subst hsz
  rw [lg_entry_eq]
  exact body p e s m _ below meth c _ _ B.exec B.bytes hml (findClass_of_methodNamed B.named) (atoms_spec (ws := ws) B.pre) hK hP (hD0.self (sz := s.heap.size)) (fun q h => Or.inr h) va_S.rf hZ hl B.returns B.notSynchronized htab
theorem kx_in_v {y : MethodName} {ws ws' : List Cond} {rm : Room} {cc : ByteArray} {maxL : Nat} {ret : Option FieldType} {av : List Value} {q : Nat × S} (hy : plainName y.cls = true) (hw : ws = Cond.code y cc maxL ret :: ws') (hn : (lg_sl av).length ≤ maxL)
    (body : ∀ (p : Program) (e : Env) (s : State) (m : MethodId) (args : Array Value) (below : List Frame) (meth : Method) (c : Code) (A : Nat → Prop) (ls : Array Slot), p.tables.exec = Jvm.exec → c.code = cc → c.maxLocals = maxL → s.vm.findClass y.cls = some m.cls → (∀ x ∈ ws, x.before args s = true) → va_K D cl tys s → va_P D cl (w σ) s.heap → va_D A (w σ) → (∀ q, s.heap.size ≤ q → A q) → va_S A s.heap s.heap [] → Z A s s.heap → lv_has ls maxL (lv_args 0 av) →
      meth.sig.returnType = ret → meth.locks = false → (∀ x ∈ c.exceptionTable.toList, False) →
      W p l e rm s m args below meth c s.heap [] 0 0 (vx_MQ below (kx_Pv D cl tys w q A) (kx_X D cl tys w σ q.1 A) args s 1 6 A) (F0 m 0 ls [])) : KXv l y ws rm D cl tys Z w av σ q := by
  intro sz
  refine vx_ofW (cc := cc) (maxL := maxL) (ret := ret) hy hw ?_
  intro p e s m args below meth c s₁ B hml htab hv
  obtain ⟨rfl, hsz, hP, hK, hD0, hZ⟩ := hv
  have hl := lv_entry av (n := maxL) hn
  subst hsz
  rw [lg_entry_eq]
  exact body p e s m _ below meth c _ _ B.exec B.bytes hml (findClass_of_methodNamed B.named) (atoms_spec (ws := ws) B.pre) hK hP (hD0.self (sz := s.heap.size)) (fun q h => Or.inr h) va_S.rf hZ hl B.returns B.notSynchronized htab
theorem kx_ret_b {XC : String → State → State → Prop} {cc : ByteArray} {pc : Nat} {ls : Array Slot} {q : Nat × Int32 × S} (hx : p.tables.exec = Jvm.exec) (hb : c.code = cc) (hr : meth.sig.returnType = some .int) (hlocks : meth.locks = false) (hK : va_K D cl tys s) (hcc : cells ≤ 1) (hss : slots ≤ 6) (r : Int32) (u : S) (hq : q = (0, r, u)) (hP : va_P D cl (w u) H) (hD : va_D A (w u)) (hS : va_S A s.heap H locs) (hdg : decode cc pc = .ok (.ireturn, 1)) :
    W p l e R s m args below meth c H locs cells slots (vx_MQ below (kx_Pi D cl tys w q A) XC args s 1 6 A) (F0 m pc ls [.int r]) := by
  subst hq
  refine W.widen (k := 1) (n := 6) hcc hss ?_
  refine vx_ret ?_
  exact W.iret (v := r) hx hb hr (fun t ht hW => ⟨⟨r, u, rfl, ⟨rfl, rfl, rfl⟩, by rw [ht]; exact hP, va_K.moved hW.alike hK, hD⟩, hS.F ht⟩) hS.2.2 hdg
theorem kx_ret_z {XC : String → State → State → Prop} {cc : ByteArray} {pc : Nat} {ls : Array Slot} {q : Nat × Bool × S} (hx : p.tables.exec = Jvm.exec) (hb : c.code = cc) (hr : meth.sig.returnType = some .boolean) (hlocks : meth.locks = false) (hK : va_K D cl tys s) (hcc : cells ≤ 1) (hss : slots ≤ 6) (r : Bool) (u : S) (hq : q = (0, r, u)) (hP : va_P D cl (w u) H) (hD : va_D A (w u)) (hS : va_S A s.heap H locs) (hdg : decode cc pc = .ok (.ireturn, 1)) :
    W p l e R s m args below meth c H locs cells slots (vx_MQ below (kx_Pi D cl tys w (q.1, b01 q.2.1, q.2.2) A) XC args s 1 6 A) (F0 m pc ls [.int (b01 r)]) := by
  subst hq
  refine W.widen (k := 1) (n := 6) hcc hss ?_
  refine vx_ret ?_
  exact W.zret (v := b01 r) hx hb hr (b01_nar r) (fun t ht hW => ⟨⟨b01 r, u, rfl, ⟨rfl, rfl, rfl⟩, by rw [ht]; exact hP, va_K.moved hW.alike hK, hD⟩, hS.F ht⟩) hS.2.2 hdg
theorem kx_ret_v {XC : String → State → State → Prop} {cc : ByteArray} {pc : Nat} {ls : Array Slot} {q : Nat × S} (hx : p.tables.exec = Jvm.exec) (hb : c.code = cc) (hr : meth.sig.returnType = none) (hlocks : meth.locks = false) (hK : va_K D cl tys s) (hcc : cells ≤ 1) (hss : slots ≤ 6) (u : S) (hq : q = (0, u)) (hP : va_P D cl (w u) H) (hD : va_D A (w u)) (hS : va_S A s.heap H locs) (hdg : decode cc pc = .ok (.return_, 1)) :
    W p l e R s m args below meth c H locs cells slots (vx_MQ below (kx_Pv D cl tys w q A) XC args s 1 6 A) (F0 m pc ls []) := by
  subst hq
  refine W.widen (k := 1) (n := 6) hcc hss ?_
  refine vx_ret ?_
  exact W.vret hx hb hr (fun t ht hW => ⟨⟨u, rfl, ⟨rfl, rfl⟩, by rw [ht]; exact hP, va_K.moved hW.alike hK, hD⟩, hS.F ht⟩) hS.2.2 hdg
/-- a thrown exception of a callee goes out -/
theorem kx_prop {Qc : Array Value → State → Outcome → State → Prop} {pc : Nat} {ls : Array Slot} {rest : List Value} {k : Nat} {E : String} {ce : Cell} {q9 : Addr} (htab : ∀ x ∈ c.exceptionTable.toList, False) (hlocks : meth.locks = false) (hK : va_K D cl tys s) (hcc : cells ≤ 1) (hss : slots ≤ 6) (hk : ¬ k = 0) (hE : E = xE k) (hP : va_P D cl (w σ) H) (hD : va_D A (w σ)) (hS : va_S A s.heap H locs) (h1 : H[q9]? = some ce) (h2 : ce.vm = .none) (h3 : s.vm.findClass E = some ce.cls) :
    vx_W p l e R s m args below meth c H locs cells slots (vx_MQ below Qc (kx_X D cl tys w σ k A) args s 1 6 A) (F0 m pc ls rest) q9 :=
  vx_out (fun x hx => (htab x hx).elim) hlocks h1 h2 h3 (fun t ht hvm => ⟨σ, rfl, ⟨hk, hE, by rw [ht]; exact hP, va_K.moved hvm hK, hD⟩, hS.F ht⟩) hS.2.2 hcc hss
end KXs
section KXt
variable {p : Program} {l : Launch} {e : Env} {R : Room} {s : State} {m : MethodId} {args : Array Value} {below : List Frame} {meth : Method} {c : Code} {H : Heap} {locs : List Loc} {cells slots : Nat} {A : Nat → Prop} {σ : CS} {G : KG} {Qc : Array Value → State → Outcome → State → Prop} {cc : ByteArray} {pc nL : Nat} {ls : Array Slot} {rest : List Value}
theorem kx_keep {t : State} (hP : va_P (gD G) vwCl (cW G σ) H) (h : ∀ q : Nat, q < H.size → t.heap[q]? = H[q]?) : va_P (gD G) vwCl (cW G σ) t.heap := hP.kept (fun k q hk => h _ (hP k q hk).lt)
theorem kx_IA {is sa : Nat} {text : String} (hl9 : l.stackTraces = false) (hx : p.tables.exec = Jvm.exec) (hb : c.code = cc) (hml : c.maxLocals = nL) (hown : s.vm.findClass RX10 = some m.cls) (hts : ∀ w ∈ lw_all, w.before args s = true) (hK : va_K (gD G) vwCl (gT G) s) (hP : va_P (gD G) vwCl (cW G σ) H) (hD : va_D A (cW G σ)) (hS : va_S A s.heap H locs) (hZ : cZX G A s s.heap) (hsize : ls.size = nL) (hlocks : meth.locks = false) (htab : ∀ x ∈ c.exceptionTable.toList, False)
    (hstr : vk_R RX10 is text sa s) (hk1 : Cond.classLink RX10 71 eIA ∈ lw_all) (hk2 : Cond.initialized eIA ∈ lw_all)
    (d0 : decode cc pc = .ok (.new 71, 3)) (d3 : decode cc (pc + 3) = .ok (.dup, 1)) (d4 : decode cc (pc + 4) = .ok (.ldc is, 2)) (d6 : decode cc (pc + 6) = .ok (.invokespecial 75, 3)) (d9 : decode cc (pc + 9) = .ok (.athrow, 1))
    (hRf : 5 < R.frames) (hRl : (rest.map fun v => v.category).sum + 82 ≤ R.locals) (hRc : cells + 1 ≤ R.cells) (hRs : slots + 6 ≤ R.slots) (hc1 : cells + 1 ≤ 1) (hs1 : slots + 6 ≤ 6) {k : Nat} (hk : k = 1) :
    W p l e R s m args below meth c H locs cells slots (vx_MQ below Qc (kx_X (gD G) vwCl (gT G) (cW G) σ k A) args s 1 6 A) (F0 m pc ls rest) := by
  subst hk
  exact vx_throwS hx hb hl9 hown (by decide +kernel) (by decide +kernel) (hts _ hk1) (hts _ hk2) hstr (vx_hat (fun w h => hts w (xw_IA w h)) xb_IA (xB_any hZ.2.1)) xg_IA hZ.1.2.1.1 hZ.1.2.1.2 hS (hsize.trans hml.symm) d0 d3 d4 d6 d9 (fun x hx => (htab x hx).elim) hRf hRl hRc hRs hlocks
    (fun t hvm hz hq => ⟨σ, rfl, ⟨by decide, rfl, kx_keep hP hq, va_K.moved hvm hK, hD⟩, ⟨Nat.le_trans hS.1 hz, fun q h1 h2 => by rw [hq q (Nat.lt_of_lt_of_le h1 hS.1)]; exact hS.2.1 q h1 h2⟩⟩) hS.2.2 hc1 hs1
theorem kx_IO {is sa : Nat} {text : String} (hl9 : l.stackTraces = false) (hx : p.tables.exec = Jvm.exec) (hb : c.code = cc) (hml : c.maxLocals = nL) (hown : s.vm.findClass RX10 = some m.cls) (hts : ∀ w ∈ lw_all, w.before args s = true) (hK : va_K (gD G) vwCl (gT G) s) (hP : va_P (gD G) vwCl (cW G σ) H) (hD : va_D A (cW G σ)) (hS : va_S A s.heap H locs) (hZ : cZX G A s s.heap) (hsize : ls.size = nL) (hlocks : meth.locks = false) (htab : ∀ x ∈ c.exceptionTable.toList, False)
    (hstr : vk_R RX10 is text sa s) (hk1 : Cond.classLink RX10 84 eIO ∈ lw_all) (hk2 : Cond.initialized eIO ∈ lw_all)
    (d0 : decode cc pc = .ok (.new 84, 3)) (d3 : decode cc (pc + 3) = .ok (.dup, 1)) (d4 : decode cc (pc + 4) = .ok (.ldc is, 2)) (d6 : decode cc (pc + 6) = .ok (.invokespecial 88, 3)) (d9 : decode cc (pc + 9) = .ok (.athrow, 1))
    (hRf : 5 < R.frames) (hRl : (rest.map fun v => v.category).sum + 82 ≤ R.locals) (hRc : cells + 1 ≤ R.cells) (hRs : slots + 6 ≤ R.slots) (hc1 : cells + 1 ≤ 1) (hs1 : slots + 6 ≤ 6) {k : Nat} (hk : k = 2) :
    W p l e R s m args below meth c H locs cells slots (vx_MQ below Qc (kx_X (gD G) vwCl (gT G) (cW G) σ k A) args s 1 6 A) (F0 m pc ls rest) := by
  subst hk
  exact vx_throwS hx hb hl9 hown (by decide +kernel) (by decide +kernel) (hts _ hk1) (hts _ hk2) hstr (vx_hat (fun w h => hts w (xw_IO w h)) xb_IO (xB_any hZ.2.1)) xg_IO hZ.1.2.1.1 hZ.1.2.1.2 hS (hsize.trans hml.symm) d0 d3 d4 d6 d9 (fun x hx => (htab x hx).elim) hRf hRl hRc hRs hlocks
    (fun t hvm hz hq => ⟨σ, rfl, ⟨by decide, rfl, kx_keep hP hq, va_K.moved hvm hK, hD⟩, ⟨Nat.le_trans hS.1 hz, fun q h1 h2 => by rw [hq q (Nat.lt_of_lt_of_le h1 hS.1)]; exact hS.2.1 q h1 h2⟩⟩) hS.2.2 hc1 hs1
end KXt
section KXc
variable {p : Program} {l : Launch} {e : Env} {R : Room} {s : State} {m : MethodId} {args : Array Value} {below : List Frame} {meth : Method} {c : Code} {H : Heap} {locs : List Loc} {cells slots : Nat} {Q : State → Prop}
variable {S : Type} {D : va_G} {cl : List vw_C} {tys : List (ClassId × FieldType)} {Z : (Nat → Prop) → State → Heap → Prop} {w : S → va_W} {A : Nat → Prop} {σ : S}
theorem kx_after {pc : Nat} {ls : Array Slot} {st0 rest : List Value} {a : Array Value} {q : Nat × Int32 × S} (hr : vx_Run p l e R s m args below meth c H locs cells slots 1 6 (F0 m pc ls st0) rest (kx_Pi D cl tys w q (va_A (w σ) H.size) a) (kx_X D cl tys w σ q.1 (va_A (w σ) H.size)) (va_A (w σ) H.size)) (hD : va_D A (w σ)) (hS : va_S A s.heap H locs) (hA : ∀ q, s.heap.size ≤ q → A q)
    (kk : ∀ (H1 : Heap) (locs1 : List Loc), q.1 = 0 → va_P D cl (w q.2.2) H1 → va_D A (w q.2.2) → va_S A s.heap H1 locs1 → W p l e R s m args below meth c H1 locs1 (cells + 1) (slots + 6) Q (F0 m (pc + 3) ls (.int q.2.1 :: rest)))
    (kx : ∀ (H1 : Heap) (locs1 : List Loc) (E : String) (ce : Cell) (q9 : Addr), ¬ q.1 = 0 → E = xE q.1 → va_P D cl (w σ) H1 → va_D A (w σ) → va_S A s.heap H1 locs1 → H1[q9]? = some ce → ce.vm = .none → s.vm.findClass E = some ce.cls → vx_W p l e R s m args below meth c H1 locs1 (cells + 1) (slots + 6) Q (F0 m pc ls rest) q9) : W p l e R s m args below meth c H locs cells slots Q (F0 m pc ls st0) := by
  have hF := kc_free hD hS hA
  refine vx_calli hr hS (fun q _ h => hF q h) hF (fun q _ h => hF q h) (fun E ce q9 u t H1 locs1 ht hvm hu hB hz1 hk1 hS1 h1 h2 h3 => ?_) (fun r u t H1 locs1 ht hvm hw hB hz1 hk1 hS1 => ?_)
  · subst hu
    obtain ⟨hk, hE, hP1, hK1, hD1⟩ := hB
    rw [ht] at hP1
    exact kx H1 locs1 E ce q9 hk hE hP1 (hD1.weaken (fun _ _ _ h => hF _ h)) hS1 h1 h2 h3
  · obtain ⟨h0, rfl, rfl⟩ := hw
    obtain ⟨hP1, hK1, hD1⟩ := hB
    rw [ht] at hP1
    exact kk H1 locs1 h0 hP1 (hD1.weaken (fun _ _ _ h => hF _ h)) hS1
theorem kx_afterv {pc : Nat} {ls : Array Slot} {st0 rest : List Value} {a : Array Value} {q : Nat × S} (hr : vx_Run p l e R s m args below meth c H locs cells slots 1 6 (F0 m pc ls st0) rest (kx_Pv D cl tys w q (va_A (w σ) H.size) a) (kx_X D cl tys w σ q.1 (va_A (w σ) H.size)) (va_A (w σ) H.size)) (hD : va_D A (w σ)) (hS : va_S A s.heap H locs) (hA : ∀ q, s.heap.size ≤ q → A q)
    (kk : ∀ (H1 : Heap) (locs1 : List Loc), q.1 = 0 → va_P D cl (w q.2) H1 → va_D A (w q.2) → va_S A s.heap H1 locs1 → W p l e R s m args below meth c H1 locs1 (cells + 1) (slots + 6) Q (F0 m (pc + 3) ls rest))
    (kx : ∀ (H1 : Heap) (locs1 : List Loc) (E : String) (ce : Cell) (q9 : Addr), ¬ q.1 = 0 → E = xE q.1 → va_P D cl (w σ) H1 → va_D A (w σ) → va_S A s.heap H1 locs1 → H1[q9]? = some ce → ce.vm = .none → s.vm.findClass E = some ce.cls → vx_W p l e R s m args below meth c H1 locs1 (cells + 1) (slots + 6) Q (F0 m pc ls rest) q9) : W p l e R s m args below meth c H locs cells slots Q (F0 m pc ls st0) := by
  have hF := kc_free hD hS hA
  refine vx_callv hr hS (fun q _ h => hF q h) hF (fun q _ h => hF q h) (fun E ce q9 u t H1 locs1 ht hvm hu hB hz1 hk1 hS1 h1 h2 h3 => ?_) (fun u t H1 locs1 ht hvm hw hB hz1 hk1 hS1 => ?_)
  · subst hu
    obtain ⟨hk, hE, hP1, hK1, hD1⟩ := hB
    rw [ht] at hP1
    exact kx H1 locs1 E ce q9 hk hE hP1 (hD1.weaken (fun _ _ _ h => hF _ h)) hS1 h1 h2 h3
  · obtain ⟨h0, rfl⟩ := hw
    obtain ⟨hP1, hK1, hD1⟩ := hB
    rw [ht] at hP1
    exact kk H1 locs1 h0 hP1 (hD1.weaken (fun _ _ _ h => hF _ h)) hS1
theorem kx_Vv {y : MethodName} {ws1 : List Cond} {rm1 : Room} {bytes cc : ByteArray} {maxL nL n index pc : Nat} {ret : Option FieldType} {Ts : List Cond} {own : String} {C : String} {b : Addr} {As rest st0 : List Value} {ls : Array Slot} {q : Nat × S} (hM : KXv l y ws1 rm1 D cl tys Z w (.ref b :: As) σ q) (F : CallFix p m c cc nL s args Ts own) (cw : CallW R s args own C index y bytes maxL ret ws1 rm1 1 6 n) (hrec : ∃ cellB : Cell, H[b]? = some cellB ∧ cellB.vm.isStatics = false ∧ s.vm.findClass C = some cellB.cls) (hZk : kc_Zok Z) (hK : va_K D cl tys s) (hP : va_P D cl (w σ) H) (hD : va_D A (w σ)) (hS : va_S A s.heap H locs) (hA : ∀ q, s.heap.size ≤ q → A q) (hZ : Z A s s.heap) (hn : As.length = n) (hsize : ls.size = nL) (hstack : st0 = As.reverse ++ .ref b :: rest) (hroom : (rest.map fun v => v.category).sum ≤ 8) (hdg : decode cc pc = .ok (.invokevirtual index, 3)) (hf : cells + 1 ≤ R.cells ∧ slots + 6 ≤ R.slots)
    (kk : ∀ (H1 : Heap) (locs1 : List Loc), q.1 = 0 → va_P D cl (w q.2) H1 → va_D A (w q.2) → va_S A s.heap H1 locs1 → W p l e R s m args below meth c H1 locs1 (cells + 1) (slots + 6) Q (F0 m (pc + 3) ls rest))
    (kx : ∀ (H1 : Heap) (locs1 : List Loc) (E : String) (ce : Cell) (q9 : Addr), ¬ q.1 = 0 → E = xE q.1 → va_P D cl (w σ) H1 → va_D A (w σ) → va_S A s.heap H1 locs1 → H1[q9]? = some ce → ce.vm = .none → s.vm.findClass E = some ce.cls → vx_W p l e R s m args below meth c H1 locs1 (cells + 1) (slots + 6) Q (F0 m pc ls rest) q9) : W p l e R s m args below meth c H locs cells slots Q (F0 m pc ls st0) :=
  kx_afterv (vx_runV (g := F0 m pc ls st0) F (hM H.size) cw ⟨kc_blind hZk _ _, hrec, fun U hU hW => ⟨rfl, kc_start hZk hK hP hD hS hA hZ U hU hW⟩⟩ rfl hn hsize hstack (lv_room hroom) hdg hf) hD hS hA kk kx
theorem kx_Vb {y : MethodName} {ws1 : List Cond} {rm1 : Room} {bytes cc : ByteArray} {maxL nL n index pc : Nat} {ret : Option FieldType} {Ts : List Cond} {own : String} {C : String} {b : Addr} {As rest st0 : List Value} {ls : Array Slot} {q : Nat × Int32 × S} (hM : KX l y ws1 rm1 D cl tys Z w (.ref b :: As) σ q) (F : CallFix p m c cc nL s args Ts own) (cw : CallW R s args own C index y bytes maxL ret ws1 rm1 1 6 n) (hrec : ∃ cellB : Cell, H[b]? = some cellB ∧ cellB.vm.isStatics = false ∧ s.vm.findClass C = some cellB.cls) (hZk : kc_Zok Z) (hK : va_K D cl tys s) (hP : va_P D cl (w σ) H) (hD : va_D A (w σ)) (hS : va_S A s.heap H locs) (hA : ∀ q, s.heap.size ≤ q → A q) (hZ : Z A s s.heap) (hn : As.length = n) (hsize : ls.size = nL) (hstack : st0 = As.reverse ++ .ref b :: rest) (hroom : (rest.map fun v => v.category).sum ≤ 8) (hdg : decode cc pc = .ok (.invokevirtual index, 3)) (hf : cells + 1 ≤ R.cells ∧ slots + 6 ≤ R.slots)
    (kk : ∀ (H1 : Heap) (locs1 : List Loc), q.1 = 0 → va_P D cl (w q.2.2) H1 → va_D A (w q.2.2) → va_S A s.heap H1 locs1 → W p l e R s m args below meth c H1 locs1 (cells + 1) (slots + 6) Q (F0 m (pc + 3) ls (.int q.2.1 :: rest)))
    (kx : ∀ (H1 : Heap) (locs1 : List Loc) (E : String) (ce : Cell) (q9 : Addr), ¬ q.1 = 0 → E = xE q.1 → va_P D cl (w σ) H1 → va_D A (w σ) → va_S A s.heap H1 locs1 → H1[q9]? = some ce → ce.vm = .none → s.vm.findClass E = some ce.cls → vx_W p l e R s m args below meth c H1 locs1 (cells + 1) (slots + 6) Q (F0 m pc ls rest) q9) : W p l e R s m args below meth c H locs cells slots Q (F0 m pc ls st0) :=
  kx_after (vx_runV (g := F0 m pc ls st0) F (hM H.size) cw ⟨kc_blind hZk _ _, hrec, fun U hU hW => ⟨rfl, kc_start hZk hK hP hD hS hA hZ U hU hW⟩⟩ rfl hn hsize hstack (lv_room hroom) hdg hf) hD hS hA kk kx
theorem kx_Sv {y : MethodName} {ws1 : List Cond} {rm1 : Room} {bytes cc : ByteArray} {maxL nL n index pc : Nat} {ret : Option FieldType} {Ts : List Cond} {own : String} {As rest st0 : List Value} {ls : Array Slot} {q : Nat × S} (hM : KXv l y ws1 rm1 D cl tys Z w As σ q) (F : CallFix p m c cc nL s args Ts own) (cw : CallB R s args own index y bytes maxL ret ws1 rm1 1 6 n ∧ (Cond.static y).before args s = true) (hZk : kc_Zok Z) (hK : va_K D cl tys s) (hP : va_P D cl (w σ) H) (hD : va_D A (w σ)) (hS : va_S A s.heap H locs) (hA : ∀ q, s.heap.size ≤ q → A q) (hZ : Z A s s.heap) (hn : As.length = n) (hsize : ls.size = nL) (hstack : st0 = As.reverse ++ rest) (hroom : (rest.map fun v => v.category).sum ≤ 8) (hdg : decode cc pc = .ok (.invokestatic index, 3)) (hf : cells + 1 ≤ R.cells ∧ slots + 6 ≤ R.slots)
    (kk : ∀ (H1 : Heap) (locs1 : List Loc), q.1 = 0 → va_P D cl (w q.2) H1 → va_D A (w q.2) → va_S A s.heap H1 locs1 → W p l e R s m args below meth c H1 locs1 (cells + 1) (slots + 6) Q (F0 m (pc + 3) ls rest))
    (kx : ∀ (H1 : Heap) (locs1 : List Loc) (E : String) (ce : Cell) (q9 : Addr), ¬ q.1 = 0 → E = xE q.1 → va_P D cl (w σ) H1 → va_D A (w σ) → va_S A s.heap H1 locs1 → H1[q9]? = some ce → ce.vm = .none → s.vm.findClass E = some ce.cls → vx_W p l e R s m args below meth c H1 locs1 (cells + 1) (slots + 6) Q (F0 m pc ls rest) q9) : W p l e R s m args below meth c H locs cells slots Q (F0 m pc ls st0) :=
  kx_afterv (vx_runS (g := F0 m pc ls st0) F (hM H.size) cw ⟨kc_blind hZk _ _, fun U hU hW => ⟨rfl, kc_start hZk hK hP hD hS hA hZ U hU hW⟩⟩ rfl hn hsize hstack (lv_room hroom) hdg hf) hD hS hA kk kx
end KXc
