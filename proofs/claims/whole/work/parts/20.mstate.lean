abbrev MS : Type := (Nat → Int32) × (Nat → Int32) × (Nat → Int32) × (Nat → Int32) × (Nat → Bool) × Int32 × Int32 × Int32 × Int32 × Int32 × Int32 × Bool × Bool × Bool
def m_memory (σ : MS) : Nat → Int32 := σ.1
def m_r (σ : MS) : Nat → Int32 := σ.2.1
def m_spsr (σ : MS) : Nat → Int32 := σ.2.2.1
def m_faults (σ : MS) : Nat → Int32 := σ.2.2.2.1
def m_lines (σ : MS) : Nat → Bool := σ.2.2.2.2.1
def m_thrown (σ : MS) : Int32 := σ.2.2.2.2.2.1
def m_steps (σ : MS) : Int32 := σ.2.2.2.2.2.2.2.1
def m_here (σ : MS) : Int32 := σ.2.2.2.2.2.2.2.2.1
def m_length (σ : MS) : Int32 := σ.2.2.2.2.2.2.2.2.2.1
def m_jumps (σ : MS) : Bool := σ.2.2.2.2.2.2.2.2.2.2.2.1
def m_carry (σ : MS) : Bool := σ.2.2.2.2.2.2.2.2.2.2.2.2.1
def m_over (σ : MS) : Bool := σ.2.2.2.2.2.2.2.2.2.2.2.2.2
def t_memory (σ : MS) (v : Nat → Int32) : MS := (v, σ.2.1, σ.2.2.1, σ.2.2.2.1, σ.2.2.2.2.1, σ.2.2.2.2.2.1, σ.2.2.2.2.2.2.1, σ.2.2.2.2.2.2.2.1, σ.2.2.2.2.2.2.2.2.1, σ.2.2.2.2.2.2.2.2.2.1, σ.2.2.2.2.2.2.2.2.2.2.1, σ.2.2.2.2.2.2.2.2.2.2.2.1, σ.2.2.2.2.2.2.2.2.2.2.2.2.1, σ.2.2.2.2.2.2.2.2.2.2.2.2.2)
def t_r (σ : MS) (v : Nat → Int32) : MS := (σ.1, v, σ.2.2.1, σ.2.2.2.1, σ.2.2.2.2.1, σ.2.2.2.2.2.1, σ.2.2.2.2.2.2.1, σ.2.2.2.2.2.2.2.1, σ.2.2.2.2.2.2.2.2.1, σ.2.2.2.2.2.2.2.2.2.1, σ.2.2.2.2.2.2.2.2.2.2.1, σ.2.2.2.2.2.2.2.2.2.2.2.1, σ.2.2.2.2.2.2.2.2.2.2.2.2.1, σ.2.2.2.2.2.2.2.2.2.2.2.2.2)
def t_spsr (σ : MS) (v : Nat → Int32) : MS := (σ.1, σ.2.1, v, σ.2.2.2.1, σ.2.2.2.2.1, σ.2.2.2.2.2.1, σ.2.2.2.2.2.2.1, σ.2.2.2.2.2.2.2.1, σ.2.2.2.2.2.2.2.2.1, σ.2.2.2.2.2.2.2.2.2.1, σ.2.2.2.2.2.2.2.2.2.2.1, σ.2.2.2.2.2.2.2.2.2.2.2.1, σ.2.2.2.2.2.2.2.2.2.2.2.2.1, σ.2.2.2.2.2.2.2.2.2.2.2.2.2)
def t_faults (σ : MS) (v : Nat → Int32) : MS := (σ.1, σ.2.1, σ.2.2.1, v, σ.2.2.2.2.1, σ.2.2.2.2.2.1, σ.2.2.2.2.2.2.1, σ.2.2.2.2.2.2.2.1, σ.2.2.2.2.2.2.2.2.1, σ.2.2.2.2.2.2.2.2.2.1, σ.2.2.2.2.2.2.2.2.2.2.1, σ.2.2.2.2.2.2.2.2.2.2.2.1, σ.2.2.2.2.2.2.2.2.2.2.2.2.1, σ.2.2.2.2.2.2.2.2.2.2.2.2.2)
def t_lines (σ : MS) (v : Nat → Bool) : MS := (σ.1, σ.2.1, σ.2.2.1, σ.2.2.2.1, v, σ.2.2.2.2.2.1, σ.2.2.2.2.2.2.1, σ.2.2.2.2.2.2.2.1, σ.2.2.2.2.2.2.2.2.1, σ.2.2.2.2.2.2.2.2.2.1, σ.2.2.2.2.2.2.2.2.2.2.1, σ.2.2.2.2.2.2.2.2.2.2.2.1, σ.2.2.2.2.2.2.2.2.2.2.2.2.1, σ.2.2.2.2.2.2.2.2.2.2.2.2.2)
def t_thrown (σ : MS) (v : Int32) : MS := (σ.1, σ.2.1, σ.2.2.1, σ.2.2.2.1, σ.2.2.2.2.1, v, σ.2.2.2.2.2.2.1, σ.2.2.2.2.2.2.2.1, σ.2.2.2.2.2.2.2.2.1, σ.2.2.2.2.2.2.2.2.2.1, σ.2.2.2.2.2.2.2.2.2.2.1, σ.2.2.2.2.2.2.2.2.2.2.2.1, σ.2.2.2.2.2.2.2.2.2.2.2.2.1, σ.2.2.2.2.2.2.2.2.2.2.2.2.2)
def t_cpsr0 (σ : MS) (v : Int32) : MS := (σ.1, σ.2.1, σ.2.2.1, σ.2.2.2.1, σ.2.2.2.2.1, σ.2.2.2.2.2.1, v, σ.2.2.2.2.2.2.2.1, σ.2.2.2.2.2.2.2.2.1, σ.2.2.2.2.2.2.2.2.2.1, σ.2.2.2.2.2.2.2.2.2.2.1, σ.2.2.2.2.2.2.2.2.2.2.2.1, σ.2.2.2.2.2.2.2.2.2.2.2.2.1, σ.2.2.2.2.2.2.2.2.2.2.2.2.2)
def t_steps (σ : MS) (v : Int32) : MS := (σ.1, σ.2.1, σ.2.2.1, σ.2.2.2.1, σ.2.2.2.2.1, σ.2.2.2.2.2.1, σ.2.2.2.2.2.2.1, v, σ.2.2.2.2.2.2.2.2.1, σ.2.2.2.2.2.2.2.2.2.1, σ.2.2.2.2.2.2.2.2.2.2.1, σ.2.2.2.2.2.2.2.2.2.2.2.1, σ.2.2.2.2.2.2.2.2.2.2.2.2.1, σ.2.2.2.2.2.2.2.2.2.2.2.2.2)
def t_here (σ : MS) (v : Int32) : MS := (σ.1, σ.2.1, σ.2.2.1, σ.2.2.2.1, σ.2.2.2.2.1, σ.2.2.2.2.2.1, σ.2.2.2.2.2.2.1, σ.2.2.2.2.2.2.2.1, v, σ.2.2.2.2.2.2.2.2.2.1, σ.2.2.2.2.2.2.2.2.2.2.1, σ.2.2.2.2.2.2.2.2.2.2.2.1, σ.2.2.2.2.2.2.2.2.2.2.2.2.1, σ.2.2.2.2.2.2.2.2.2.2.2.2.2)
def t_length (σ : MS) (v : Int32) : MS := (σ.1, σ.2.1, σ.2.2.1, σ.2.2.2.1, σ.2.2.2.2.1, σ.2.2.2.2.2.1, σ.2.2.2.2.2.2.1, σ.2.2.2.2.2.2.2.1, σ.2.2.2.2.2.2.2.2.1, v, σ.2.2.2.2.2.2.2.2.2.2.1, σ.2.2.2.2.2.2.2.2.2.2.2.1, σ.2.2.2.2.2.2.2.2.2.2.2.2.1, σ.2.2.2.2.2.2.2.2.2.2.2.2.2)
def t_fault0 (σ : MS) (v : Int32) : MS := (σ.1, σ.2.1, σ.2.2.1, σ.2.2.2.1, σ.2.2.2.2.1, σ.2.2.2.2.2.1, σ.2.2.2.2.2.2.1, σ.2.2.2.2.2.2.2.1, σ.2.2.2.2.2.2.2.2.1, σ.2.2.2.2.2.2.2.2.2.1, v, σ.2.2.2.2.2.2.2.2.2.2.2.1, σ.2.2.2.2.2.2.2.2.2.2.2.2.1, σ.2.2.2.2.2.2.2.2.2.2.2.2.2)
def t_jumps (σ : MS) (v : Bool) : MS := (σ.1, σ.2.1, σ.2.2.1, σ.2.2.2.1, σ.2.2.2.2.1, σ.2.2.2.2.2.1, σ.2.2.2.2.2.2.1, σ.2.2.2.2.2.2.2.1, σ.2.2.2.2.2.2.2.2.1, σ.2.2.2.2.2.2.2.2.2.1, σ.2.2.2.2.2.2.2.2.2.2.1, v, σ.2.2.2.2.2.2.2.2.2.2.2.2.1, σ.2.2.2.2.2.2.2.2.2.2.2.2.2)
def t_carry (σ : MS) (v : Bool) : MS := (σ.1, σ.2.1, σ.2.2.1, σ.2.2.2.1, σ.2.2.2.2.1, σ.2.2.2.2.2.1, σ.2.2.2.2.2.2.1, σ.2.2.2.2.2.2.2.1, σ.2.2.2.2.2.2.2.2.1, σ.2.2.2.2.2.2.2.2.2.1, σ.2.2.2.2.2.2.2.2.2.2.1, σ.2.2.2.2.2.2.2.2.2.2.2.1, v, σ.2.2.2.2.2.2.2.2.2.2.2.2.2)
def t_over (σ : MS) (v : Bool) : MS := (σ.1, σ.2.1, σ.2.2.1, σ.2.2.2.1, σ.2.2.2.2.1, σ.2.2.2.2.2.1, σ.2.2.2.2.2.2.1, σ.2.2.2.2.2.2.2.1, σ.2.2.2.2.2.2.2.2.1, σ.2.2.2.2.2.2.2.2.2.1, σ.2.2.2.2.2.2.2.2.2.2.1, σ.2.2.2.2.2.2.2.2.2.2.2.1, σ.2.2.2.2.2.2.2.2.2.2.2.2.1, v)
/-- the reference's own list of modes -/
abbrev okM (v : Int32) : Prop := v &&& 31 = 17 ∨ v &&& 31 = 18 ∨ v &&& 31 = 19 ∨ v &&& 31 = 23 ∨ v &&& 31 = 27 ∨ v &&& 31 = 16 ∨ v &&& 31 = 31
def fixM (v : Int32) : Int32 := if okM v then v else 211
theorem fixM_ok {v : Int32} (h : okM v) : v = fixM v := (if_pos h).symm
theorem okM_fix (v : Int32) : okM (fixM v) := by
  unfold fixM
  by_cases h : okM v
  · rw [if_pos h]; exact h
  · rw [if_neg h]; decide
def fixF (v : Int32) : Int32 := if v = 0 ∨ v = 1 ∨ v = 2 ∨ v = 3 then v else (-1)
theorem fixF_in {v : Int32} (h : ¬ fixF v < 0) : vp_in (fixF v) 6 := by
  revert h
  unfold fixF
  split
  · rename_i q
    intro _
    rcases q with rfl | rfl | rfl | rfl <;> (unfold vp_in; decide)
  · intro h; exact absurd (by decide) h
def m_cpsr (σ : MS) : Int32 := fixM (σ.2.2.2.2.2.2.1)
def m_fault (σ : MS) : Int32 := fixF (σ.2.2.2.2.2.2.2.2.2.2.1)
def t_cpsr (σ : MS) (v : Int32) : MS := t_cpsr0 σ v
def t_fault (σ : MS) (v : Int32) : MS := t_fault0 σ v
def mW (G : KG) (τ : MS) : va_W := [
  (gA G 20, .inr (9, [.int (m_thrown τ), .ref (gA G 21), .ref (gA G 22), .ref (gA G 23), .int (m_cpsr τ), .ref (gA G 24), .int (m_steps τ), .ref (gA G 25), .int (m_here τ), .int (m_length τ), .int (m_fault τ), .int (b01 (m_jumps τ)), .int (b01 (m_carry τ)), .int (b01 (m_over τ))])),
  (gA G 21, .inl (G.2.1.1, 65536, .inl (m_memory τ))),
  (gA G 22, .inl (G.2.1.1, 31, .inl (m_r τ))),
  (gA G 23, .inl (G.2.1.1, 5, .inl (m_spsr τ))),
  (gA G 24, .inl (G.2.1.2.1, 2, .inl (fun j => b01 (m_lines τ j)))),
  (gA G 25, .inl (G.2.1.1, 6, .inl (m_faults τ)))]
def mZ (_ : KG) (_ : Nat → Prop) (_ : State) (_ : Heap) : Prop := True
theorem mZ_ok {G : KG} : kc_Zok (mZ G) := fun _ _ _ _ _ _ _ _ _ _ => trivial
def updz (f : Nat → Bool) (k : Nat) (x : Bool) : Nat → Bool := fun j => if j = k then x else f j
section KZ
variable {p : Program} {l : Launch} {e : Env} {R : Room} {s : State} {m : MethodId} {args : Array Value} {below : List Frame} {meth : Method} {c : Code} {H H0 : Heap} {locs : List Loc} {cells slots : Nat} {Q : State → Prop}
variable {D : va_G} {cl : List vw_C} {tys : List (ClassId × FieldType)} {ws : va_W} {A : Nat → Prop} {cc : ByteArray} {pc a : Nat} {ls : Array Slot} {rest : List Value}
theorem kc_zald (hexec : p.tables.exec = Jvm.exec) (hb : c.code = cc) (hK : va_K D cl tys s) (hP : va_P D cl ws H) (q0 t0 : Nat) {cA : ClassId} {n : Nat} {f : Nat → Bool} (ha : ws[q0]? = some (a, .inl (cA, n, .inl (fun j => b01 (f j))))) (ht : tys[t0]? = some (cA, .boolean)) {i : Int32} (hin : vp_in i n) (hdg : decode cc pc = .ok (.baload, 1))
    (kk : W p l e R s m args below meth c H locs cells slots Q (F0 m (pc + 1) ls (.int (b01 (f i.toNatClampNeg)) :: rest))) : W p l e R s m args below meth c H locs cells slots Q (F0 m pc ls (.int i :: .ref a :: rest)) :=
  va_zald hexec hb hK hP q0 t0 ha ht hin hdg kk
theorem kc_zast (hexec : p.tables.exec = Jvm.exec) (hb : c.code = cc) (hK : va_K D cl tys s) (hP : va_P D cl ws H) (hD : va_D A ws) (hS : va_S A H0 H locs) (q0 t0 : Nat) {cA : ClassId} {n : Nat} {f : Nat → Bool} (ha : ws[q0]? = some (a, .inl (cA, n, .inl (fun j => b01 (f j))))) (ht : tys[t0]? = some (cA, .boolean)) {i : Int32} {x : Bool} (hin : vp_in i n) (hdg : decode cc pc = .ok (.bastore, 1))
    (kk : ∀ (H1 : Heap) (locs1 : List Loc), va_P D cl (ws.set q0 (a, .inl (cA, n, .inl (fun j => b01 (updz f i.toNatClampNeg x j))))) H1 → va_D A (ws.set q0 (a, .inl (cA, n, .inl (fun j => b01 (updz f i.toNatClampNeg x j))))) → va_S A H0 H1 locs1 → W p l e R s m args below meth c H1 locs1 cells slots Q (F0 m (pc + 1) ls rest)) : W p l e R s m args below meth c H locs cells slots Q (F0 m pc ls (.int (b01 x) :: .int i :: .ref a :: rest)) := by
  have e : upd (fun j => b01 (f j)) i.toNatClampNeg (vp_nar .boolean (b01 x)) = (fun j => b01 (updz f i.toNatClampNeg x j)) := by
    funext j
    unfold upd updz
    by_cases h : j = i.toNatClampNeg
    · rw [if_pos h, if_pos h]; cases x <;> rfl
    · rw [if_neg h, if_neg h]
  refine va_zast hexec hb hK hP hD hS q0 t0 ha ht hin hdg (fun H1 locs1 hP1 hD1 hS1 => ?_)
  rw [e] at hP1 hD1
  exact kk H1 locs1 hP1 hD1 hS1
end KZ
theorem an7_16 (x : Int32) : vp_in (x &&& 7) 16 := by
  obtain ⟨j, hj, e⟩ := vp_in_of (pk_andIn x (m := 7) 3 (by decide) (by decide)) (by decide)
  rw [e]; exact nI_vp (by omega) (by decide)
theorem dv_in {a : Int32} (h : vp_in a 262144) : vp_in (a / 4) 65536 := by
  obtain ⟨j, hj, rfl⟩ := vp_in_of h (by decide)
  rw [show (4 : Int32) = nI 4 from rfl, pk_div (by omega) (by decide) (by decide)]
  exact nI_vp (by omega) (by decide)
/-- a register's number, or none -/
def n16 (v : Int32) : Prop := v = (-1) ∨ vp_in v 16
theorem n16_in {v : Int32} (h : n16 v) (h0 : ¬ v < 0) : vp_in v 16 := by
  rcases h with rfl | h
  · exact absurd (by decide) h0
  · exact h
theorem mWs_thrown (G : KG) (τ : MS) (v : Int32) : (mW G τ).set 0 (gA G 20, .inr (9, [.int (m_thrown τ), .ref (gA G 21), .ref (gA G 22), .ref (gA G 23), .int (m_cpsr τ), .ref (gA G 24), .int (m_steps τ), .ref (gA G 25), .int (m_here τ), .int (m_length τ), .int (m_fault τ), .int (b01 (m_jumps τ)), .int (b01 (m_carry τ)), .int (b01 (m_over τ))].set 0 (.int (v)))) = mW G (t_thrown τ v) := rfl
theorem mWs_cpsr (G : KG) (τ : MS) (v : Int32) : (mW G τ).set 0 (gA G 20, .inr (9, [.int (m_thrown τ), .ref (gA G 21), .ref (gA G 22), .ref (gA G 23), .int (m_cpsr τ), .ref (gA G 24), .int (m_steps τ), .ref (gA G 25), .int (m_here τ), .int (m_length τ), .int (m_fault τ), .int (b01 (m_jumps τ)), .int (b01 (m_carry τ)), .int (b01 (m_over τ))].set 4 (.int (fixM v)))) = mW G (t_cpsr τ v) := rfl
theorem mWs_steps (G : KG) (τ : MS) (v : Int32) : (mW G τ).set 0 (gA G 20, .inr (9, [.int (m_thrown τ), .ref (gA G 21), .ref (gA G 22), .ref (gA G 23), .int (m_cpsr τ), .ref (gA G 24), .int (m_steps τ), .ref (gA G 25), .int (m_here τ), .int (m_length τ), .int (m_fault τ), .int (b01 (m_jumps τ)), .int (b01 (m_carry τ)), .int (b01 (m_over τ))].set 6 (.int (v)))) = mW G (t_steps τ v) := rfl
theorem mWs_here (G : KG) (τ : MS) (v : Int32) : (mW G τ).set 0 (gA G 20, .inr (9, [.int (m_thrown τ), .ref (gA G 21), .ref (gA G 22), .ref (gA G 23), .int (m_cpsr τ), .ref (gA G 24), .int (m_steps τ), .ref (gA G 25), .int (m_here τ), .int (m_length τ), .int (m_fault τ), .int (b01 (m_jumps τ)), .int (b01 (m_carry τ)), .int (b01 (m_over τ))].set 8 (.int (v)))) = mW G (t_here τ v) := rfl
theorem mWs_length (G : KG) (τ : MS) (v : Int32) : (mW G τ).set 0 (gA G 20, .inr (9, [.int (m_thrown τ), .ref (gA G 21), .ref (gA G 22), .ref (gA G 23), .int (m_cpsr τ), .ref (gA G 24), .int (m_steps τ), .ref (gA G 25), .int (m_here τ), .int (m_length τ), .int (m_fault τ), .int (b01 (m_jumps τ)), .int (b01 (m_carry τ)), .int (b01 (m_over τ))].set 9 (.int (v)))) = mW G (t_length τ v) := rfl
theorem mWs_fault (G : KG) (τ : MS) (v : Int32) : (mW G τ).set 0 (gA G 20, .inr (9, [.int (m_thrown τ), .ref (gA G 21), .ref (gA G 22), .ref (gA G 23), .int (m_cpsr τ), .ref (gA G 24), .int (m_steps τ), .ref (gA G 25), .int (m_here τ), .int (m_length τ), .int (m_fault τ), .int (b01 (m_jumps τ)), .int (b01 (m_carry τ)), .int (b01 (m_over τ))].set 10 (.int (fixF v)))) = mW G (t_fault τ v) := rfl
theorem mWs_jumps (G : KG) (τ : MS) (v : Bool) : (mW G τ).set 0 (gA G 20, .inr (9, [.int (m_thrown τ), .ref (gA G 21), .ref (gA G 22), .ref (gA G 23), .int (m_cpsr τ), .ref (gA G 24), .int (m_steps τ), .ref (gA G 25), .int (m_here τ), .int (m_length τ), .int (m_fault τ), .int (b01 (m_jumps τ)), .int (b01 (m_carry τ)), .int (b01 (m_over τ))].set 11 (.int (b01 v)))) = mW G (t_jumps τ v) := rfl
theorem mWs_carry (G : KG) (τ : MS) (v : Bool) : (mW G τ).set 0 (gA G 20, .inr (9, [.int (m_thrown τ), .ref (gA G 21), .ref (gA G 22), .ref (gA G 23), .int (m_cpsr τ), .ref (gA G 24), .int (m_steps τ), .ref (gA G 25), .int (m_here τ), .int (m_length τ), .int (m_fault τ), .int (b01 (m_jumps τ)), .int (b01 (m_carry τ)), .int (b01 (m_over τ))].set 12 (.int (b01 v)))) = mW G (t_carry τ v) := rfl
theorem mWs_over (G : KG) (τ : MS) (v : Bool) : (mW G τ).set 0 (gA G 20, .inr (9, [.int (m_thrown τ), .ref (gA G 21), .ref (gA G 22), .ref (gA G 23), .int (m_cpsr τ), .ref (gA G 24), .int (m_steps τ), .ref (gA G 25), .int (m_here τ), .int (m_length τ), .int (m_fault τ), .int (b01 (m_jumps τ)), .int (b01 (m_carry τ)), .int (b01 (m_over τ))].set 13 (.int (b01 v)))) = mW G (t_over τ v) := rfl
theorem mWs_memory (G : KG) (τ : MS) (v : Nat → Int32) : (mW G τ).set 1 (gA G 21, .inl (G.2.1.1, 65536, .inl (v))) = mW G (t_memory τ v) := rfl
theorem mWs_r (G : KG) (τ : MS) (v : Nat → Int32) : (mW G τ).set 2 (gA G 22, .inl (G.2.1.1, 31, .inl (v))) = mW G (t_r τ v) := rfl
theorem mWs_spsr (G : KG) (τ : MS) (v : Nat → Int32) : (mW G τ).set 3 (gA G 23, .inl (G.2.1.1, 5, .inl (v))) = mW G (t_spsr τ v) := rfl
theorem mWs_lines (G : KG) (τ : MS) (v : Nat → Bool) : (mW G τ).set 4 (gA G 24, .inl (G.2.1.2.1, 2, .inl (fun j => b01 (v j)))) = mW G (t_lines τ v) := rfl
theorem mWs_faults (G : KG) (τ : MS) (v : Nat → Int32) : (mW G τ).set 5 (gA G 25, .inl (G.2.1.1, 6, .inl (v))) = mW G (t_faults τ v) := rfl
