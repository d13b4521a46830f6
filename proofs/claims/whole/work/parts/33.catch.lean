/-! a thrown exception is caught in the method itself; the class that a row names may be not yet resolved -/
section KCT
/-- what the search for a handler gives, and the tables that it leaves -/
def kx_Ft (e : Env) (S : State) (f : JFrame) (a : Addr) (h : Handler) (vm' : Vm) : Prop := ∀ (Q : Handler → Jvm.Pre) (E : Jvm.CtlPost) (d : Bool) (acts : List Action), Jvm.Sem.wp (findHandler f a) Q E e d acts S ↔ Q h d acts (S.setVm vm')
theorem kx_row {e : Env} {S : State} {f : JFrame} {a : Addr} {Q : Handler → Jvm.Pre} {E : Jvm.CtlPost} {d : Bool} {acts : List Action} {x : ExceptionTableEntry} {t : List ExceptionTableEntry} {c : ClassId} {cell : Cell} (hx : covers x f.pc = true) (h0 : x.catchType ≠ 0)
    (hl : S.vm.ClassLinks e.platform f.method.cls x.catchType c) (hcell : S.heap[a]? = some cell) (hobj : ∀ k, cell.vm ≠ .statics k) (hk : ∃ k, S.vm.classes[cell.cls]? = some k) (hc : ∃ k, S.vm.classes[c]? = some k) :
    Jvm.Sem.wp (findHandler.go f a (x :: t)) Q E e d acts S ↔ if S.vm.assignable cell.cls c = true then Q (.found x.handlerPc) d acts (S.setVm (S.vm.noted f.method.cls x.catchType (.cls c))) else Jvm.Sem.wp (findHandler.go f a t) Q E e d acts (S.setVm (S.vm.noted f.method.cls x.catchType (.cls c))) := by
  simp only [covers] at hx
  obtain ⟨ha, ht⟩ := (resolveClass_links e.toSetting hl).op (op := VmOp.resolveClass f.method.cls x.catchType) rfl
  have hal : S.vm.Alike (S.vm.noted f.method.cls x.catchType (.cls c)) := (Vm.Alike.refl S.vm).noted _ _ _
  obtain ⟨k1, hk1⟩ := hk
  obtain ⟨k2, hk2⟩ := hc
  obtain ⟨k1', hk1', -⟩ := hal.2.2 _ _ hk1
  obtain ⟨k2', hk2', -⟩ := hal.2.2 _ _ hk2
  have hfit : (S.vm.noted f.method.cls x.catchType (.cls c)).assignable cell.cls c = S.vm.assignable cell.cls c := hal.assignable _ _
  cases hb : S.vm.assignable cell.cls c with
  | true =>
    rw [hb] at hfit
    simp [findHandler.go, hx, h0, ha, ht, hcell, hobj, hk1', hk2', hfit, VmOp.dirties, VmOp.acts]
  | false =>
    rw [hb] at hfit
    simp [findHandler.go, hx, h0, ha, ht, hcell, hobj, hk1', hk2', hfit, VmOp.dirties, VmOp.acts]
variable {p : Program} {l : Launch} {e : Env} {R : Room} {s : State} {m : MethodId} {args : Array Value} {below : List Frame} {meth : Method} {c : Code} {H : Heap} {locs : List Loc} {cells slots : Nat} {Q : State → Prop} {pc : Nat} {ls : Array Slot} {rest : List Value}
theorem kx_to {T : State} {q : Addr} {hp : Nat} {vm' : Vm} (X : Stand p l e R s m args below meth c T locs cells slots) (hW : s.WarmedH vm') (hf : kx_Ft e ((T.setTop (F0 m pc ls rest)).pushFrame (.throwing q)) (F0 m pc ls rest) q (.found hp) vm') {target : State}
    (hrest : Steps p.tables e below ((T.setVm vm').setTop (F0 m hp ls [.ref q])) target) : Steps p.tables e below ((T.setTop (F0 m pc ls rest)).pushFrame (.throwing q)) target := by
  have h : At T (F0 m pc ls rest).method c below := X.here
  obtain ⟨hgo, hw⟩ := h.throwing (g := F0 m pc ls rest) q
  refine Steps.head hgo hw ?_
  have hcatch : (stepThrowing e ((T.setTop (F0 m pc ls rest)).pushFrame (.throwing q)) q (.java (F0 m pc ls rest) :: T.frames.tail)).1 = (((T.setTop (F0 m pc ls rest)).pushFrame (.throwing q)).setVm vm').setFrames (.java (F0 m hp ls [.ref q]) :: T.frames.tail) := by
    simp only [stepThrowing, searchFrame, vmDo]
    generalize hr : Jvm.Sem.go _ e false [] ((T.setTop (F0 m pc ls rest)).pushFrame (.throwing q)) = res
    obtain ⟨as, rfl, ha⟩ := Jvm.Sem.eq_ok_of hr (a := Handler.found hp) (s' := ((T.setTop (F0 m pc ls rest)).pushFrame (.throwing q)).setVm vm') (acts' := []) (by simp [hf _ _ _ _])
    rfl
  rw [stepThread_throwing (frames_entered h.top _), hcatch]
  obtain ⟨g₀, hg⟩ := Option.isSome_iff_exists.mp h.top
  obtain ⟨r, hr⟩ := State.topJava?_eq_some.mp hg
  have hr' : (T.setVm vm').frames = .java g₀ :: r := hr
  rw [State.setTop_of_frames _ hr'] at hrest
  have e1 : ∀ (U : State) (F G : List Frame), ((U.setFrames F).setVm vm').setFrames G = (U.setVm vm').setFrames G := fun U F G => by
    have h1 : (U.setFrames F).setVm vm' = (U.setVm vm').setFrames F := rfl
    rw [h1, State.setFrames_setFrames]
  rw [hr, List.tail_cons, State.pushFrame, e1, State.setTop_of_frames _ hr, e1]
  exact hrest
/-- the facts of the thrown cell and of a row of the table -/
theorem kx_link {T : State} (X : Stand p l e R s m args below meth c T locs cells slots) {own nm : String} {i : Nat} (hown : s.vm.findClass own = some m.cls) (hlink : (Cond.classLink own i nm).before args s = true) : ∃ ct, s.vm.findClass nm = some ct ∧ s.vm.ClassLinks e.platform m.cls i ct := by
  have hpl : e.platform.magicAccessors = ({} : Platform).magicAccessors := by rw [X.admits.platform]
  obtain ⟨ct, h1, h2⟩ := Cond.classLink_spec hown hlink e.platform hpl
  exact ⟨ct, h1, h2⟩
/-- caught by the first row -/
theorem kx_catch1 {own nm E : String} {ce : Cell} {q : Addr} (x : ExceptionTableEntry) (suf : List ExceptionTableEntry) (hown : s.vm.findClass own = some m.cls) (htab : c.exceptionTable.toList = x :: suf) (hx : covers x pc = true) (h0 : x.catchType ≠ 0)
    (hlink : (Cond.classLink own x.catchType nm).before args s = true) (hcast : (Cond.castable E nm).before args s = true) (hcell : H[q]? = some ce) (hv : ce.vm = .none) (hcl : s.vm.findClass E = some ce.cls)
    (kk : W p l e R s m args below meth c H locs cells slots Q (F0 m x.handlerPc ls [.ref q])) : vx_W p l e R s m args below meth c H locs cells slots Q (F0 m pc ls rest) q := by
  intro T hT X
  obtain ⟨ct, hct, hl⟩ := kx_link X hown hlink
  obtain ⟨c3, c4, hc3, hc4, hasg⟩ := Cond.castable_spec hcast
  cases Option.some.inj (hc3.symm.trans hcl)
  have e4 : ct = c4 := Option.some.inj (hct.symm.trans hc4)
  subst e4
  obtain ⟨k9, h9, -⟩ := Vm.findClass_spec hcl
  obtain ⟨k9', h9', -⟩ := X.warmed.alike.2.2 _ _ h9
  obtain ⟨dk, _, _, kt, hd, _, _, _, _, hkt, _, hopen⟩ := hl.here
  obtain ⟨kt', hkt', -⟩ := X.warmed.alike.2.2 _ _ hkt
  have hW' := X.warmed.noted hd hopen (State.rightAt_cls hl)
  have hf : kx_Ft e ((T.setTop (F0 m pc ls rest)).pushFrame (.throwing q)) (F0 m pc ls rest) q (.found x.handlerPc) (T.vm.noted m.cls x.catchType (.cls ct)) := by
    intro Q1 E1 d acts
    rw [Jvm.W.findHandler_eq (meth := meth) (code := c) X.method' X.code, htab]
    refine (kx_row (e := e) (S := ((T.setTop (F0 m pc ls rest)).pushFrame (.throwing q))) (f := F0 m pc ls rest) (a := q) (cell := ce) (c := ct) hx h0 (X.warmed.classLinks hl) (by show T.heap[q]? = some ce; rw [hT]; exact hcell) (fun k h => by rw [hv] at h; cases h) ⟨k9', h9'⟩ ⟨kt', hkt'⟩).trans ?_
    rw [if_pos (show ((T.setTop (F0 m pc ls rest)).pushFrame (.throwing q)).vm.assignable ce.cls ct = true from by show T.vm.assignable ce.cls ct = true; rw [X.warmed.alike.assignable]; exact hasg)]
    exact Iff.rfl
  obtain ⟨t, a1, b1⟩ := kk (T.setVm (T.vm.noted m.cls x.catchType (.cls ct))) hT (X.noted hW')
  exact ⟨t, kx_to X hW' hf a1, b1⟩
/-- passed by the first row, caught by the second -/
theorem kx_catch2 {own nm0 nm E : String} {ce : Cell} {q : Addr} (x0 x : ExceptionTableEntry) (suf : List ExceptionTableEntry) (hown : s.vm.findClass own = some m.cls) (htab : c.exceptionTable.toList = x0 :: x :: suf) (hx0 : covers x0 pc = true) (h00 : x0.catchType ≠ 0) (hx : covers x pc = true) (h0 : x.catchType ≠ 0)
    (hlink0 : (Cond.classLink own x0.catchType nm0).before args s = true) (hno : va_Nc E nm0 s) (hlink : (Cond.classLink own x.catchType nm).before args s = true) (hcast : (Cond.castable E nm).before args s = true) (hcell : H[q]? = some ce) (hv : ce.vm = .none) (hcl : s.vm.findClass E = some ce.cls)
    (kk : W p l e R s m args below meth c H locs cells slots Q (F0 m x.handlerPc ls [.ref q])) : vx_W p l e R s m args below meth c H locs cells slots Q (F0 m pc ls rest) q := by
  intro T hT X
  obtain ⟨ct0, hct0, hl0⟩ := kx_link X hown hlink0
  obtain ⟨ct, hct, hl⟩ := kx_link X hown hlink
  obtain ⟨c3, c4, hc3, hc4, hasg⟩ := Cond.castable_spec hcast
  cases Option.some.inj (hc3.symm.trans hcl)
  have e4 : ct = c4 := Option.some.inj (hct.symm.trans hc4)
  subst e4
  obtain ⟨a8, b8, g1, g2, g3⟩ := hno
  cases Option.some.inj (g1.symm.trans hcl)
  have e8 : ct0 = b8 := Option.some.inj (hct0.symm.trans g2)
  subst e8
  obtain ⟨k9, h9, -⟩ := Vm.findClass_spec hcl
  obtain ⟨k9', h9', -⟩ := X.warmed.alike.2.2 _ _ h9
  obtain ⟨dk0, _, _, kt0, hd0, _, _, _, _, hkt0, _, hopen0⟩ := hl0.here
  obtain ⟨kt0', hkt0', -⟩ := X.warmed.alike.2.2 _ _ hkt0
  have hW0 := X.warmed.noted hd0 hopen0 (State.rightAt_cls hl0)
  obtain ⟨k9'', h9'', -⟩ := hW0.alike.2.2 _ _ h9
  obtain ⟨dk, _, _, kt, hd, _, _, _, _, hkt, _, hopen⟩ := hl.here
  obtain ⟨kt', hkt', -⟩ := hW0.alike.2.2 _ _ hkt
  have hW' := hW0.noted hd hopen (State.rightAt_cls hl)
  have hf : kx_Ft e ((T.setTop (F0 m pc ls rest)).pushFrame (.throwing q)) (F0 m pc ls rest) q (.found x.handlerPc) ((T.vm.noted m.cls x0.catchType (.cls ct0)).noted m.cls x.catchType (.cls ct)) := by
    intro Q1 E1 d acts
    rw [Jvm.W.findHandler_eq (meth := meth) (code := c) X.method' X.code, htab]
    refine (kx_row (e := e) (S := ((T.setTop (F0 m pc ls rest)).pushFrame (.throwing q))) (f := F0 m pc ls rest) (a := q) (cell := ce) (c := ct0) hx0 h00 (X.warmed.classLinks hl0) (by show T.heap[q]? = some ce; rw [hT]; exact hcell) (fun k h => by rw [hv] at h; cases h) ⟨k9', h9'⟩ ⟨kt0', hkt0'⟩).trans ?_
    rw [if_neg (show ¬ ((T.setTop (F0 m pc ls rest)).pushFrame (.throwing q)).vm.assignable ce.cls ct0 = true from by show ¬ T.vm.assignable ce.cls ct0 = true; rw [X.warmed.alike.assignable, g3]; decide)]
    refine (kx_row (e := e) (S := (((T.setTop (F0 m pc ls rest)).pushFrame (.throwing q)).setVm (T.vm.noted m.cls x0.catchType (.cls ct0)))) (f := F0 m pc ls rest) (a := q) (cell := ce) (c := ct) hx h0 (hW0.classLinks hl) (by show T.heap[q]? = some ce; rw [hT]; exact hcell) (fun k h => by rw [hv] at h; cases h) ⟨k9'', h9''⟩ ⟨kt', hkt'⟩).trans ?_
    rw [if_pos (show (((T.setTop (F0 m pc ls rest)).pushFrame (.throwing q)).setVm (T.vm.noted m.cls x0.catchType (.cls ct0))).vm.assignable ce.cls ct = true from by show (T.vm.noted m.cls x0.catchType (.cls ct0)).assignable ce.cls ct = true; rw [hW0.alike.assignable]; exact hasg)]
    exact Iff.rfl
  obtain ⟨t, a1, b1⟩ := kk (T.setVm ((T.vm.noted m.cls x0.catchType (.cls ct0)).noted m.cls x.catchType (.cls ct))) hT (X.noted hW')
  exact ⟨t, kx_to X hW' hf a1, b1⟩
end KCT
