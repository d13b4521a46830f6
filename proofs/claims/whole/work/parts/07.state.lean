def iu (x y : Int32) : Int32 := (x.toUInt32 >>> (y.toUInt32 &&& Int32.toUInt32 31)).toInt32
def lu (x : Int64) (y : Int32) : Int64 := (x.toUInt64 >>> (y.toInt64.toUInt64 &&& Int64.toUInt64 63)).toInt64
def lsl (x : Int64) (y : Int32) : Int64 := x <<< (y.toInt64 &&& 63)
def lsr (x : Int64) (y : Int32) : Int64 := x >>> (y.toInt64 &&& 63)
abbrev kr (k : Nat) : Room := { frames := k, cells := 0, slots := 0, locals := 39 * k }
/-- what is the same in all states: classes, array classes, addresses of objects, addresses of static tables -/
abbrev KG : Type := va_G × (ClassId × ClassId × ClassId) × (Nat → Nat) × (Nat → Nat)
abbrev gD (G : KG) : va_G := G.1
abbrev gT (G : KG) : List (ClassId × FieldType) := [(G.2.1.1, .int), (G.2.1.2.1, .boolean), (G.2.1.2.2, .long)]
abbrev gA (G : KG) : Nat → Nat := G.2.2.1
abbrev gS (G : KG) : Nat → Nat := G.2.2.2
theorem gi_S {own : String} {idx : Nat} {y : MethodName} {bytes : ByteArray} {maxL : Nat} {ret : Option FieldType} (h1 : Cond.methodLink own idx y ∈ lw_all) (h2 : Cond.static y ∈ lw_all) (h3 : Cond.initialized y.cls ∈ lw_all) (h4 : Cond.code y bytes maxL ret ∈ lw_all) : GoodIn lw_all (va_wsS own idx y (Cond.code y bytes maxL ret :: lw_all)) := lw_gc h1 (lw_gc h2 (lw_gc h3 (lw_gc h4 lw_all_good)))
theorem gi_V {own C : String} {idx : Nat} {y : MethodName} {bytes : ByteArray} {maxL : Nat} {ret : Option FieldType} (h1 : Cond.methodLink own idx y ∈ lw_all) (h2 : Cond.instanceMethod y ∈ lw_all) (h3 : Cond.selects C y y ∈ lw_all) (h4 : Cond.initialized C ∈ lw_all) (h5 : Cond.code y bytes maxL ret ∈ lw_all) : GoodIn lw_all (wsV own idx C y (Cond.code y bytes maxL ret :: lw_all)) := lw_gc h1 (lw_gc h2 (lw_gc h3 (lw_gc h4 (lw_gc h5 lw_all_good))))
section KTop
variable {p : Program} {l : Launch} {e : Env} {R : Room} {s : State} {m : MethodId} {args : Array Value} {below : List Frame} {meth : Method} {c : Code} {H : Heap} {locs : List Loc} {cells slots : Nat} {Q : State → Prop}
theorem kc_top {x y : Int32} {pc : Nat} {ls : Array Slot} {rest : List Value} (h : x = y) (k : W p l e R s m args below meth c H locs cells slots Q (F0 m pc ls (.int y :: rest))) : W p l e R s m args below meth c H locs cells slots Q (F0 m pc ls (.int x :: rest)) := h ▸ k
end KTop
theorem mdX0_isTest : yX0_isTest.cls ≠ "java/lang/invoke/MethodHandle" ∧ yX0_isTest.cls ≠ "java/lang/invoke/VarHandle" ∧ (parseMethodDescriptor yX0_isTest.desc).map (fun d => d.parameters.length) = some 1 := by decide +kernel
theorem mdX0_flags : yX0_flags.cls ≠ "java/lang/invoke/MethodHandle" ∧ yX0_flags.cls ≠ "java/lang/invoke/VarHandle" ∧ (parseMethodDescriptor yX0_flags.desc).map (fun d => d.parameters.length) = some 0 := by decide +kernel
theorem mdX0_compute : yX0_compute.cls ≠ "java/lang/invoke/MethodHandle" ∧ yX0_compute.cls ≠ "java/lang/invoke/VarHandle" ∧ (parseMethodDescriptor yX0_compute.desc).map (fun d => d.parameters.length) = some 4 := by decide +kernel
theorem mdX0_apply : yX0_apply.cls ≠ "java/lang/invoke/MethodHandle" ∧ yX0_apply.cls ≠ "java/lang/invoke/VarHandle" ∧ (parseMethodDescriptor yX0_apply.desc).map (fun d => d.parameters.length) = some 4 := by decide +kernel
theorem mdX0_flagsOfProduct : yX0_flagsOfProduct.cls ≠ "java/lang/invoke/MethodHandle" ∧ yX0_flagsOfProduct.cls ≠ "java/lang/invoke/VarHandle" ∧ (parseMethodDescriptor yX0_flagsOfProduct.desc).map (fun d => d.parameters.length) = some 1 := by decide +kernel
theorem mdX0_logic : yX0_logic.cls ≠ "java/lang/invoke/MethodHandle" ∧ yX0_logic.cls ≠ "java/lang/invoke/VarHandle" ∧ (parseMethodDescriptor yX0_logic.desc).map (fun d => d.parameters.length) = some 2 := by decide +kernel
theorem mdX0_sum : yX0_sum.cls ≠ "java/lang/invoke/MethodHandle" ∧ yX0_sum.cls ≠ "java/lang/invoke/VarHandle" ∧ (parseMethodDescriptor yX0_sum.desc).map (fun d => d.parameters.length) = some 3 := by decide +kernel
theorem mdX0_keep : yX0_keep.cls ≠ "java/lang/invoke/MethodHandle" ∧ yX0_keep.cls ≠ "java/lang/invoke/VarHandle" ∧ (parseMethodDescriptor yX0_keep.desc).map (fun d => d.parameters.length) = some 4 := by decide +kernel
theorem mdX1_perform : yX1_perform.cls ≠ "java/lang/invoke/MethodHandle" ∧ yX1_perform.cls ≠ "java/lang/invoke/VarHandle" ∧ (parseMethodDescriptor yX1_perform.desc).map (fun d => d.parameters.length) = some 1 := by decide +kernel
theorem mdX1_multiply : yX1_multiply.cls ≠ "java/lang/invoke/MethodHandle" ∧ yX1_multiply.cls ≠ "java/lang/invoke/VarHandle" ∧ (parseMethodDescriptor yX1_multiply.desc).map (fun d => d.parameters.length) = some 1 := by decide +kernel
theorem mdX1_longProduct : yX1_longProduct.cls ≠ "java/lang/invoke/MethodHandle" ∧ yX1_longProduct.cls ≠ "java/lang/invoke/VarHandle" ∧ (parseMethodDescriptor yX1_longProduct.desc).map (fun d => d.parameters.length) = some 3 := by decide +kernel
theorem mdX1_pair : yX1_pair.cls ≠ "java/lang/invoke/MethodHandle" ∧ yX1_pair.cls ≠ "java/lang/invoke/VarHandle" ∧ (parseMethodDescriptor yX1_pair.desc).map (fun d => d.parameters.length) = some 2 := by decide +kernel
theorem mdX1_swap : yX1_swap.cls ≠ "java/lang/invoke/MethodHandle" ∧ yX1_swap.cls ≠ "java/lang/invoke/VarHandle" ∧ (parseMethodDescriptor yX1_swap.desc).map (fun d => d.parameters.length) = some 1 := by decide +kernel
theorem mdX1_halves : yX1_halves.cls ≠ "java/lang/invoke/MethodHandle" ∧ yX1_halves.cls ≠ "java/lang/invoke/VarHandle" ∧ (parseMethodDescriptor yX1_halves.desc).map (fun d => d.parameters.length) = some 1 := by decide +kernel
theorem mdX1_readStatus : yX1_readStatus.cls ≠ "java/lang/invoke/MethodHandle" ∧ yX1_readStatus.cls ≠ "java/lang/invoke/VarHandle" ∧ (parseMethodDescriptor yX1_readStatus.desc).map (fun d => d.parameters.length) = some 1 := by decide +kernel
theorem mdX1_writeStatus : yX1_writeStatus.cls ≠ "java/lang/invoke/MethodHandle" ∧ yX1_writeStatus.cls ≠ "java/lang/invoke/VarHandle" ∧ (parseMethodDescriptor yX1_writeStatus.desc).map (fun d => d.parameters.length) = some 2 := by decide +kernel
theorem mdX1_data : yX1_data.cls ≠ "java/lang/invoke/MethodHandle" ∧ yX1_data.cls ≠ "java/lang/invoke/VarHandle" ∧ (parseMethodDescriptor yX1_data.desc).map (fun d => d.parameters.length) = some 1 := by decide +kernel
theorem mdX1_shiftedByRegister : yX1_shiftedByRegister.cls ≠ "java/lang/invoke/MethodHandle" ∧ yX1_shiftedByRegister.cls ≠ "java/lang/invoke/VarHandle" ∧ (parseMethodDescriptor yX1_shiftedByRegister.desc).map (fun d => d.parameters.length) = some 1 := by decide +kernel
theorem mdX1_shiftedByNumber : yX1_shiftedByNumber.cls ≠ "java/lang/invoke/MethodHandle" ∧ yX1_shiftedByNumber.cls ≠ "java/lang/invoke/VarHandle" ∧ (parseMethodDescriptor yX1_shiftedByNumber.desc).map (fun d => d.parameters.length) = some 1 := by decide +kernel
theorem mdX1_transfer : yX1_transfer.cls ≠ "java/lang/invoke/MethodHandle" ∧ yX1_transfer.cls ≠ "java/lang/invoke/VarHandle" ∧ (parseMethodDescriptor yX1_transfer.desc).map (fun d => d.parameters.length) = some 1 := by decide +kernel
theorem mdX1_branch : yX1_branch.cls ≠ "java/lang/invoke/MethodHandle" ∧ yX1_branch.cls ≠ "java/lang/invoke/VarHandle" ∧ (parseMethodDescriptor yX1_branch.desc).map (fun d => d.parameters.length) = some 1 := by decide +kernel
theorem mdX2_on : yX2_on.cls ≠ "java/lang/invoke/MethodHandle" ∧ yX2_on.cls ≠ "java/lang/invoke/VarHandle" ∧ (parseMethodDescriptor yX2_on.desc).map (fun d => d.parameters.length) = some 2 := by decide +kernel
theorem mdX2_three : yX2_three.cls ≠ "java/lang/invoke/MethodHandle" ∧ yX2_three.cls ≠ "java/lang/invoke/VarHandle" ∧ (parseMethodDescriptor yX2_three.desc).map (fun d => d.parameters.length) = some 2 := by decide +kernel
theorem mdX2_four : yX2_four.cls ≠ "java/lang/invoke/MethodHandle" ∧ yX2_four.cls ≠ "java/lang/invoke/VarHandle" ∧ (parseMethodDescriptor yX2_four.desc).map (fun d => d.parameters.length) = some 2 := by decide +kernel
theorem mdX2_five : yX2_five.cls ≠ "java/lang/invoke/MethodHandle" ∧ yX2_five.cls ≠ "java/lang/invoke/VarHandle" ∧ (parseMethodDescriptor yX2_five.desc).map (fun d => d.parameters.length) = some 2 := by decide +kernel
theorem mdX3_isKind : yX3_isKind.cls ≠ "java/lang/invoke/MethodHandle" ∧ yX3_isKind.cls ≠ "java/lang/invoke/VarHandle" ∧ (parseMethodDescriptor yX3_isKind.desc).map (fun d => d.parameters.length) = some 1 := by decide +kernel
theorem mdX3_modeOf : yX3_modeOf.cls ≠ "java/lang/invoke/MethodHandle" ∧ yX3_modeOf.cls ≠ "java/lang/invoke/VarHandle" ∧ (parseMethodDescriptor yX3_modeOf.desc).map (fun d => d.parameters.length) = some 1 := by decide +kernel
theorem mdX3_vectorOf : yX3_vectorOf.cls ≠ "java/lang/invoke/MethodHandle" ∧ yX3_vectorOf.cls ≠ "java/lang/invoke/VarHandle" ∧ (parseMethodDescriptor yX3_vectorOf.desc).map (fun d => d.parameters.length) = some 1 := by decide +kernel
theorem mdX4_holds : yX4_holds.cls ≠ "java/lang/invoke/MethodHandle" ∧ yX4_holds.cls ≠ "java/lang/invoke/VarHandle" ∧ (parseMethodDescriptor yX4_holds.desc).map (fun d => d.parameters.length) = some 1 := by decide +kernel
theorem mdX4_word : yX4_word.cls ≠ "java/lang/invoke/MethodHandle" ∧ yX4_word.cls ≠ "java/lang/invoke/VarHandle" ∧ (parseMethodDescriptor yX4_word.desc).map (fun d => d.parameters.length) = some 1 := by decide +kernel
theorem mdX4_putWord : yX4_putWord.cls ≠ "java/lang/invoke/MethodHandle" ∧ yX4_putWord.cls ≠ "java/lang/invoke/VarHandle" ∧ (parseMethodDescriptor yX4_putWord.desc).map (fun d => d.parameters.length) = some 2 := by decide +kernel
theorem mdX4_half : yX4_half.cls ≠ "java/lang/invoke/MethodHandle" ∧ yX4_half.cls ≠ "java/lang/invoke/VarHandle" ∧ (parseMethodDescriptor yX4_half.desc).map (fun d => d.parameters.length) = some 1 := by decide +kernel
theorem mdX4_load : yX4_load.cls ≠ "java/lang/invoke/MethodHandle" ∧ yX4_load.cls ≠ "java/lang/invoke/VarHandle" ∧ (parseMethodDescriptor yX4_load.desc).map (fun d => d.parameters.length) = some 2 := by decide +kernel
theorem mdX4_store : yX4_store.cls ≠ "java/lang/invoke/MethodHandle" ∧ yX4_store.cls ≠ "java/lang/invoke/VarHandle" ∧ (parseMethodDescriptor yX4_store.desc).map (fun d => d.parameters.length) = some 3 := by decide +kernel
theorem mdX5_switchIrq : yX5_switchIrq.cls ≠ "java/lang/invoke/MethodHandle" ∧ yX5_switchIrq.cls ≠ "java/lang/invoke/VarHandle" ∧ (parseMethodDescriptor yX5_switchIrq.desc).map (fun d => d.parameters.length) = some 1 := by decide +kernel
theorem mdX5_switchFiq : yX5_switchFiq.cls ≠ "java/lang/invoke/MethodHandle" ∧ yX5_switchFiq.cls ≠ "java/lang/invoke/VarHandle" ∧ (parseMethodDescriptor yX5_switchFiq.desc).map (fun d => d.parameters.length) = some 1 := by decide +kernel
theorem mdX5_steps : yX5_steps.cls ≠ "java/lang/invoke/MethodHandle" ∧ yX5_steps.cls ≠ "java/lang/invoke/VarHandle" ∧ (parseMethodDescriptor yX5_steps.desc).map (fun d => d.parameters.length) = some 0 := by decide +kernel
theorem mdX5_faultsOf : yX5_faultsOf.cls ≠ "java/lang/invoke/MethodHandle" ∧ yX5_faultsOf.cls ≠ "java/lang/invoke/VarHandle" ∧ (parseMethodDescriptor yX5_faultsOf.desc).map (fun d => d.parameters.length) = some 1 := by decide +kernel
theorem mdX5_advance : yX5_advance.cls ≠ "java/lang/invoke/MethodHandle" ∧ yX5_advance.cls ≠ "java/lang/invoke/VarHandle" ∧ (parseMethodDescriptor yX5_advance.desc).map (fun d => d.parameters.length) = some 0 := by decide +kernel
theorem mdX5_take : yX5_take.cls ≠ "java/lang/invoke/MethodHandle" ∧ yX5_take.cls ≠ "java/lang/invoke/VarHandle" ∧ (parseMethodDescriptor yX5_take.desc).map (fun d => d.parameters.length) = some 1 := by decide +kernel
theorem mdX6_bankOf : yX6_bankOf.cls ≠ "java/lang/invoke/MethodHandle" ∧ yX6_bankOf.cls ≠ "java/lang/invoke/VarHandle" ∧ (parseMethodDescriptor yX6_bankOf.desc).map (fun d => d.parameters.length) = some 1 := by decide +kernel
theorem mdX6_heldIn : yX6_heldIn.cls ≠ "java/lang/invoke/MethodHandle" ∧ yX6_heldIn.cls ≠ "java/lang/invoke/VarHandle" ∧ (parseMethodDescriptor yX6_heldIn.desc).map (fun d => d.parameters.length) = some 2 := by decide +kernel
theorem mdX6_hold : yX6_hold.cls ≠ "java/lang/invoke/MethodHandle" ∧ yX6_hold.cls ≠ "java/lang/invoke/VarHandle" ∧ (parseMethodDescriptor yX6_hold.desc).map (fun d => d.parameters.length) = some 3 := by decide +kernel
theorem mdX6_read : yX6_read.cls ≠ "java/lang/invoke/MethodHandle" ∧ yX6_read.cls ≠ "java/lang/invoke/VarHandle" ∧ (parseMethodDescriptor yX6_read.desc).map (fun d => d.parameters.length) = some 1 := by decide +kernel
theorem mdX6_readLate : yX6_readLate.cls ≠ "java/lang/invoke/MethodHandle" ∧ yX6_readLate.cls ≠ "java/lang/invoke/VarHandle" ∧ (parseMethodDescriptor yX6_readLate.desc).map (fun d => d.parameters.length) = some 1 := by decide +kernel
theorem mdX6_readLateIn : yX6_readLateIn.cls ≠ "java/lang/invoke/MethodHandle" ∧ yX6_readLateIn.cls ≠ "java/lang/invoke/VarHandle" ∧ (parseMethodDescriptor yX6_readLateIn.desc).map (fun d => d.parameters.length) = some 2 := by decide +kernel
theorem mdX6_write : yX6_write.cls ≠ "java/lang/invoke/MethodHandle" ∧ yX6_write.cls ≠ "java/lang/invoke/VarHandle" ∧ (parseMethodDescriptor yX6_write.desc).map (fun d => d.parameters.length) = some 2 := by decide +kernel
theorem mdX6_bank : yX6_bank.cls ≠ "java/lang/invoke/MethodHandle" ∧ yX6_bank.cls ≠ "java/lang/invoke/VarHandle" ∧ (parseMethodDescriptor yX6_bank.desc).map (fun d => d.parameters.length) = some 0 := by decide +kernel
theorem mdX6_next : yX6_next.cls ≠ "java/lang/invoke/MethodHandle" ∧ yX6_next.cls ≠ "java/lang/invoke/VarHandle" ∧ (parseMethodDescriptor yX6_next.desc).map (fun d => d.parameters.length) = some 0 := by decide +kernel
theorem mdX6_jump : yX6_jump.cls ≠ "java/lang/invoke/MethodHandle" ∧ yX6_jump.cls ≠ "java/lang/invoke/VarHandle" ∧ (parseMethodDescriptor yX6_jump.desc).map (fun d => d.parameters.length) = some 1 := by decide +kernel
theorem mdX6_jumpAndChangeSet : yX6_jumpAndChangeSet.cls ≠ "java/lang/invoke/MethodHandle" ∧ yX6_jumpAndChangeSet.cls ≠ "java/lang/invoke/VarHandle" ∧ (parseMethodDescriptor yX6_jumpAndChangeSet.desc).map (fun d => d.parameters.length) = some 1 := by decide +kernel
theorem mdX6_here : yX6_here.cls ≠ "java/lang/invoke/MethodHandle" ∧ yX6_here.cls ≠ "java/lang/invoke/VarHandle" ∧ (parseMethodDescriptor yX6_here.desc).map (fun d => d.parameters.length) = some 0 := by decide +kernel
theorem mdX6_behind : yX6_behind.cls ≠ "java/lang/invoke/MethodHandle" ∧ yX6_behind.cls ≠ "java/lang/invoke/VarHandle" ∧ (parseMethodDescriptor yX6_behind.desc).map (fun d => d.parameters.length) = some 0 := by decide +kernel
theorem mdX6_begin : yX6_begin.cls ≠ "java/lang/invoke/MethodHandle" ∧ yX6_begin.cls ≠ "java/lang/invoke/VarHandle" ∧ (parseMethodDescriptor yX6_begin.desc).map (fun d => d.parameters.length) = some 0 := by decide +kernel
theorem mdX6_cpsr : yX6_cpsr.cls ≠ "java/lang/invoke/MethodHandle" ∧ yX6_cpsr.cls ≠ "java/lang/invoke/VarHandle" ∧ (parseMethodDescriptor yX6_cpsr.desc).map (fun d => d.parameters.length) = some 0 := by decide +kernel
theorem mdX6_changeCpsr : yX6_changeCpsr.cls ≠ "java/lang/invoke/MethodHandle" ∧ yX6_changeCpsr.cls ≠ "java/lang/invoke/VarHandle" ∧ (parseMethodDescriptor yX6_changeCpsr.desc).map (fun d => d.parameters.length) = some 1 := by decide +kernel
theorem mdX6_mixIntoCpsr : yX6_mixIntoCpsr.cls ≠ "java/lang/invoke/MethodHandle" ∧ yX6_mixIntoCpsr.cls ≠ "java/lang/invoke/VarHandle" ∧ (parseMethodDescriptor yX6_mixIntoCpsr.desc).map (fun d => d.parameters.length) = some 2 := by decide +kernel
theorem mdX6_spsr : yX6_spsr.cls ≠ "java/lang/invoke/MethodHandle" ∧ yX6_spsr.cls ≠ "java/lang/invoke/VarHandle" ∧ (parseMethodDescriptor yX6_spsr.desc).map (fun d => d.parameters.length) = some 1 := by decide +kernel
theorem mdX6_changeSpsr : yX6_changeSpsr.cls ≠ "java/lang/invoke/MethodHandle" ∧ yX6_changeSpsr.cls ≠ "java/lang/invoke/VarHandle" ∧ (parseMethodDescriptor yX6_changeSpsr.desc).map (fun d => d.parameters.length) = some 2 := by decide +kernel
theorem mdX6_mixIntoSpsr : yX6_mixIntoSpsr.cls ≠ "java/lang/invoke/MethodHandle" ∧ yX6_mixIntoSpsr.cls ≠ "java/lang/invoke/VarHandle" ∧ (parseMethodDescriptor yX6_mixIntoSpsr.desc).map (fun d => d.parameters.length) = some 2 := by decide +kernel
theorem mdX6_spsrOrCpsr : yX6_spsrOrCpsr.cls ≠ "java/lang/invoke/MethodHandle" ∧ yX6_spsrOrCpsr.cls ≠ "java/lang/invoke/VarHandle" ∧ (parseMethodDescriptor yX6_spsrOrCpsr.desc).map (fun d => d.parameters.length) = some 0 := by decide +kernel
theorem mdX6_thumb : yX6_thumb.cls ≠ "java/lang/invoke/MethodHandle" ∧ yX6_thumb.cls ≠ "java/lang/invoke/VarHandle" ∧ (parseMethodDescriptor yX6_thumb.desc).map (fun d => d.parameters.length) = some 0 := by decide +kernel
theorem mdX6_irqAllowed : yX6_irqAllowed.cls ≠ "java/lang/invoke/MethodHandle" ∧ yX6_irqAllowed.cls ≠ "java/lang/invoke/VarHandle" ∧ (parseMethodDescriptor yX6_irqAllowed.desc).map (fun d => d.parameters.length) = some 0 := by decide +kernel
theorem mdX6_fiqAllowed : yX6_fiqAllowed.cls ≠ "java/lang/invoke/MethodHandle" ∧ yX6_fiqAllowed.cls ≠ "java/lang/invoke/VarHandle" ∧ (parseMethodDescriptor yX6_fiqAllowed.desc).map (fun d => d.parameters.length) = some 0 := by decide +kernel
theorem mdX6_carry : yX6_carry.cls ≠ "java/lang/invoke/MethodHandle" ∧ yX6_carry.cls ≠ "java/lang/invoke/VarHandle" ∧ (parseMethodDescriptor yX6_carry.desc).map (fun d => d.parameters.length) = some 0 := by decide +kernel
theorem mdX6_overflow : yX6_overflow.cls ≠ "java/lang/invoke/MethodHandle" ∧ yX6_overflow.cls ≠ "java/lang/invoke/VarHandle" ∧ (parseMethodDescriptor yX6_overflow.desc).map (fun d => d.parameters.length) = some 0 := by decide +kernel
theorem mdX6_changeFlags : yX6_changeFlags.cls ≠ "java/lang/invoke/MethodHandle" ∧ yX6_changeFlags.cls ≠ "java/lang/invoke/VarHandle" ∧ (parseMethodDescriptor yX6_changeFlags.desc).map (fun d => d.parameters.length) = some 1 := by decide +kernel
theorem mdX6_fits : yX6_fits.cls ≠ "java/lang/invoke/MethodHandle" ∧ yX6_fits.cls ≠ "java/lang/invoke/VarHandle" ∧ (parseMethodDescriptor yX6_fits.desc).map (fun d => d.parameters.length) = some 1 := by decide +kernel
theorem mdX6_enter : yX6_enter.cls ≠ "java/lang/invoke/MethodHandle" ∧ yX6_enter.cls ≠ "java/lang/invoke/VarHandle" ∧ (parseMethodDescriptor yX6_enter.desc).map (fun d => d.parameters.length) = some 1 := by decide +kernel
theorem mdX6_linkOf : yX6_linkOf.cls ≠ "java/lang/invoke/MethodHandle" ∧ yX6_linkOf.cls ≠ "java/lang/invoke/VarHandle" ∧ (parseMethodDescriptor yX6_linkOf.desc).map (fun d => d.parameters.length) = some 1 := by decide +kernel
theorem mdX7_turnRight : yX7_turnRight.cls ≠ "java/lang/invoke/MethodHandle" ∧ yX7_turnRight.cls ≠ "java/lang/invoke/VarHandle" ∧ (parseMethodDescriptor yX7_turnRight.desc).map (fun d => d.parameters.length) = some 2 := by decide +kernel
theorem mdX7_carry : yX7_carry.cls ≠ "java/lang/invoke/MethodHandle" ∧ yX7_carry.cls ≠ "java/lang/invoke/VarHandle" ∧ (parseMethodDescriptor yX7_carry.desc).map (fun d => d.parameters.length) = some 0 := by decide +kernel
theorem mdX7_shift : yX7_shift.cls ≠ "java/lang/invoke/MethodHandle" ∧ yX7_shift.cls ≠ "java/lang/invoke/VarHandle" ∧ (parseMethodDescriptor yX7_shift.desc).map (fun d => d.parameters.length) = some 4 := by decide +kernel
theorem mdX7_shiftByNumber : yX7_shiftByNumber.cls ≠ "java/lang/invoke/MethodHandle" ∧ yX7_shiftByNumber.cls ≠ "java/lang/invoke/VarHandle" ∧ (parseMethodDescriptor yX7_shiftByNumber.desc).map (fun d => d.parameters.length) = some 4 := by decide +kernel
theorem mdX7_turnedNumber : yX7_turnedNumber.cls ≠ "java/lang/invoke/MethodHandle" ∧ yX7_turnedNumber.cls ≠ "java/lang/invoke/VarHandle" ∧ (parseMethodDescriptor yX7_turnedNumber.desc).map (fun d => d.parameters.length) = some 2 := by decide +kernel
theorem mdX8_perform : yX8_perform.cls ≠ "java/lang/invoke/MethodHandle" ∧ yX8_perform.cls ≠ "java/lang/invoke/VarHandle" ∧ (parseMethodDescriptor yX8_perform.desc).map (fun d => d.parameters.length) = some 1 := by decide +kernel
theorem mdX8_shiftByNumber : yX8_shiftByNumber.cls ≠ "java/lang/invoke/MethodHandle" ∧ yX8_shiftByNumber.cls ≠ "java/lang/invoke/VarHandle" ∧ (parseMethodDescriptor yX8_shiftByNumber.desc).map (fun d => d.parameters.length) = some 1 := by decide +kernel
theorem mdX8_keepShifted : yX8_keepShifted.cls ≠ "java/lang/invoke/MethodHandle" ∧ yX8_keepShifted.cls ≠ "java/lang/invoke/VarHandle" ∧ (parseMethodDescriptor yX8_keepShifted.desc).map (fun d => d.parameters.length) = some 2 := by decide +kernel
theorem mdX8_addOrSubtract : yX8_addOrSubtract.cls ≠ "java/lang/invoke/MethodHandle" ∧ yX8_addOrSubtract.cls ≠ "java/lang/invoke/VarHandle" ∧ (parseMethodDescriptor yX8_addOrSubtract.desc).map (fun d => d.parameters.length) = some 1 := by decide +kernel
theorem mdX8_withNumber : yX8_withNumber.cls ≠ "java/lang/invoke/MethodHandle" ∧ yX8_withNumber.cls ≠ "java/lang/invoke/VarHandle" ∧ (parseMethodDescriptor yX8_withNumber.desc).map (fun d => d.parameters.length) = some 1 := by decide +kernel
theorem mdX8_ofTwoRegisters : yX8_ofTwoRegisters.cls ≠ "java/lang/invoke/MethodHandle" ∧ yX8_ofTwoRegisters.cls ≠ "java/lang/invoke/VarHandle" ∧ (parseMethodDescriptor yX8_ofTwoRegisters.desc).map (fun d => d.parameters.length) = some 1 := by decide +kernel
theorem mdX8_ofAllRegisters : yX8_ofAllRegisters.cls ≠ "java/lang/invoke/MethodHandle" ∧ yX8_ofAllRegisters.cls ≠ "java/lang/invoke/VarHandle" ∧ (parseMethodDescriptor yX8_ofAllRegisters.desc).map (fun d => d.parameters.length) = some 1 := by decide +kernel
theorem mdX8_wordOfPc : yX8_wordOfPc.cls ≠ "java/lang/invoke/MethodHandle" ∧ yX8_wordOfPc.cls ≠ "java/lang/invoke/VarHandle" ∧ (parseMethodDescriptor yX8_wordOfPc.desc).map (fun d => d.parameters.length) = some 0 := by decide +kernel
theorem mdX8_loadBesidePc : yX8_loadBesidePc.cls ≠ "java/lang/invoke/MethodHandle" ∧ yX8_loadBesidePc.cls ≠ "java/lang/invoke/VarHandle" ∧ (parseMethodDescriptor yX8_loadBesidePc.desc).map (fun d => d.parameters.length) = some 1 := by decide +kernel
theorem mdX8_byRegisterOffset : yX8_byRegisterOffset.cls ≠ "java/lang/invoke/MethodHandle" ∧ yX8_byRegisterOffset.cls ≠ "java/lang/invoke/VarHandle" ∧ (parseMethodDescriptor yX8_byRegisterOffset.desc).map (fun d => d.parameters.length) = some 1 := by decide +kernel
theorem mdX8_byNumberOffset : yX8_byNumberOffset.cls ≠ "java/lang/invoke/MethodHandle" ∧ yX8_byNumberOffset.cls ≠ "java/lang/invoke/VarHandle" ∧ (parseMethodDescriptor yX8_byNumberOffset.desc).map (fun d => d.parameters.length) = some 1 := by decide +kernel
theorem mdX8_besideSp : yX8_besideSp.cls ≠ "java/lang/invoke/MethodHandle" ∧ yX8_besideSp.cls ≠ "java/lang/invoke/VarHandle" ∧ (parseMethodDescriptor yX8_besideSp.desc).map (fun d => d.parameters.length) = some 1 := by decide +kernel
theorem mdX8_addressOf : yX8_addressOf.cls ≠ "java/lang/invoke/MethodHandle" ∧ yX8_addressOf.cls ≠ "java/lang/invoke/VarHandle" ∧ (parseMethodDescriptor yX8_addressOf.desc).map (fun d => d.parameters.length) = some 1 := by decide +kernel
theorem mdX8_stack : yX8_stack.cls ≠ "java/lang/invoke/MethodHandle" ∧ yX8_stack.cls ≠ "java/lang/invoke/VarHandle" ∧ (parseMethodDescriptor yX8_stack.desc).map (fun d => d.parameters.length) = some 1 := by decide +kernel
theorem mdX8_many : yX8_many.cls ≠ "java/lang/invoke/MethodHandle" ∧ yX8_many.cls ≠ "java/lang/invoke/VarHandle" ∧ (parseMethodDescriptor yX8_many.desc).map (fun d => d.parameters.length) = some 1 := by decide +kernel
theorem mdX8_branchByCondition : yX8_branchByCondition.cls ≠ "java/lang/invoke/MethodHandle" ∧ yX8_branchByCondition.cls ≠ "java/lang/invoke/VarHandle" ∧ (parseMethodDescriptor yX8_branchByCondition.desc).map (fun d => d.parameters.length) = some 1 := by decide +kernel
theorem mdX8_branch : yX8_branch.cls ≠ "java/lang/invoke/MethodHandle" ∧ yX8_branch.cls ≠ "java/lang/invoke/VarHandle" ∧ (parseMethodDescriptor yX8_branch.desc).map (fun d => d.parameters.length) = some 1 := by decide +kernel
theorem mdX9_indexed : yX9_indexed.cls ≠ "java/lang/invoke/MethodHandle" ∧ yX9_indexed.cls ≠ "java/lang/invoke/VarHandle" ∧ (parseMethodDescriptor yX9_indexed.desc).map (fun d => d.parameters.length) = some 3 := by decide +kernel
theorem mdX9_plain : yX9_plain.cls ≠ "java/lang/invoke/MethodHandle" ∧ yX9_plain.cls ≠ "java/lang/invoke/VarHandle" ∧ (parseMethodDescriptor yX9_plain.desc).map (fun d => d.parameters.length) = some 4 := by decide +kernel
theorem mdX9_swap : yX9_swap.cls ≠ "java/lang/invoke/MethodHandle" ∧ yX9_swap.cls ≠ "java/lang/invoke/VarHandle" ∧ (parseMethodDescriptor yX9_swap.desc).map (fun d => d.parameters.length) = some 4 := by decide +kernel
theorem mdX9_many : yX9_many.cls ≠ "java/lang/invoke/MethodHandle" ∧ yX9_many.cls ≠ "java/lang/invoke/VarHandle" ∧ (parseMethodDescriptor yX9_many.desc).map (fun d => d.parameters.length) = some 1 := by decide +kernel
theorem mdX9_storeMany : yX9_storeMany.cls ≠ "java/lang/invoke/MethodHandle" ∧ yX9_storeMany.cls ≠ "java/lang/invoke/VarHandle" ∧ (parseMethodDescriptor yX9_storeMany.desc).map (fun d => d.parameters.length) = some 3 := by decide +kernel
theorem mdX9_loadMany : yX9_loadMany.cls ≠ "java/lang/invoke/MethodHandle" ∧ yX9_loadMany.cls ≠ "java/lang/invoke/VarHandle" ∧ (parseMethodDescriptor yX9_loadMany.desc).map (fun d => d.parameters.length) = some 4 := by decide +kernel
theorem mdX10_poke : yX10_poke.cls ≠ "java/lang/invoke/MethodHandle" ∧ yX10_poke.cls ≠ "java/lang/invoke/VarHandle" ∧ (parseMethodDescriptor yX10_poke.desc).map (fun d => d.parameters.length) = some 2 := by decide +kernel
theorem mdX10_peek : yX10_peek.cls ≠ "java/lang/invoke/MethodHandle" ∧ yX10_peek.cls ≠ "java/lang/invoke/VarHandle" ∧ (parseMethodDescriptor yX10_peek.desc).map (fun d => d.parameters.length) = some 1 := by decide +kernel
theorem mdX10_set : yX10_set.cls ≠ "java/lang/invoke/MethodHandle" ∧ yX10_set.cls ≠ "java/lang/invoke/VarHandle" ∧ (parseMethodDescriptor yX10_set.desc).map (fun d => d.parameters.length) = some 3 := by decide +kernel
theorem mdX10_get : yX10_get.cls ≠ "java/lang/invoke/MethodHandle" ∧ yX10_get.cls ≠ "java/lang/invoke/VarHandle" ∧ (parseMethodDescriptor yX10_get.desc).map (fun d => d.parameters.length) = some 2 := by decide +kernel
theorem mdX10_status : yX10_status.cls ≠ "java/lang/invoke/MethodHandle" ∧ yX10_status.cls ≠ "java/lang/invoke/VarHandle" ∧ (parseMethodDescriptor yX10_status.desc).map (fun d => d.parameters.length) = some 1 := by decide +kernel
theorem mdX10_saved : yX10_saved.cls ≠ "java/lang/invoke/MethodHandle" ∧ yX10_saved.cls ≠ "java/lang/invoke/VarHandle" ∧ (parseMethodDescriptor yX10_saved.desc).map (fun d => d.parameters.length) = some 2 := by decide +kernel
theorem mdX10_line : yX10_line.cls ≠ "java/lang/invoke/MethodHandle" ∧ yX10_line.cls ≠ "java/lang/invoke/VarHandle" ∧ (parseMethodDescriptor yX10_line.desc).map (fun d => d.parameters.length) = some 2 := by decide +kernel
theorem mdX10_step : yX10_step.cls ≠ "java/lang/invoke/MethodHandle" ∧ yX10_step.cls ≠ "java/lang/invoke/VarHandle" ∧ (parseMethodDescriptor yX10_step.desc).map (fun d => d.parameters.length) = some 1 := by decide +kernel
theorem mdX10_count : yX10_count.cls ≠ "java/lang/invoke/MethodHandle" ∧ yX10_count.cls ≠ "java/lang/invoke/VarHandle" ∧ (parseMethodDescriptor yX10_count.desc).map (fun d => d.parameters.length) = some 1 := by decide +kernel
theorem mdX10_refuseAddress : yX10_refuseAddress.cls ≠ "java/lang/invoke/MethodHandle" ∧ yX10_refuseAddress.cls ≠ "java/lang/invoke/VarHandle" ∧ (parseMethodDescriptor yX10_refuseAddress.desc).map (fun d => d.parameters.length) = some 1 := by decide +kernel
theorem mdX10_refuseRegister : yX10_refuseRegister.cls ≠ "java/lang/invoke/MethodHandle" ∧ yX10_refuseRegister.cls ≠ "java/lang/invoke/VarHandle" ∧ (parseMethodDescriptor yX10_refuseRegister.desc).map (fun d => d.parameters.length) = some 2 := by decide +kernel
theorem mdX11_thrown : yX11_thrown.cls ≠ "java/lang/invoke/MethodHandle" ∧ yX11_thrown.cls ≠ "java/lang/invoke/VarHandle" ∧ (parseMethodDescriptor yX11_thrown.desc).map (fun d => d.parameters.length) = some 0 := by decide +kernel
theorem mdX11_fail : yX11_fail.cls ≠ "java/lang/invoke/MethodHandle" ∧ yX11_fail.cls ≠ "java/lang/invoke/VarHandle" ∧ (parseMethodDescriptor yX11_fail.desc).map (fun d => d.parameters.length) = some 1 := by decide +kernel
theorem mdX11_within : yX11_within.cls ≠ "java/lang/invoke/MethodHandle" ∧ yX11_within.cls ≠ "java/lang/invoke/VarHandle" ∧ (parseMethodDescriptor yX11_within.desc).map (fun d => d.parameters.length) = some 3 := by decide +kernel
theorem mdX11_bank : yX11_bank.cls ≠ "java/lang/invoke/MethodHandle" ∧ yX11_bank.cls ≠ "java/lang/invoke/VarHandle" ∧ (parseMethodDescriptor yX11_bank.desc).map (fun d => d.parameters.length) = some 1 := by decide +kernel
theorem mdX11_placeOf : yX11_placeOf.cls ≠ "java/lang/invoke/MethodHandle" ∧ yX11_placeOf.cls ≠ "java/lang/invoke/VarHandle" ∧ (parseMethodDescriptor yX11_placeOf.desc).map (fun d => d.parameters.length) = some 2 := by decide +kernel
theorem mdX11_mode : yX11_mode.cls ≠ "java/lang/invoke/MethodHandle" ∧ yX11_mode.cls ≠ "java/lang/invoke/VarHandle" ∧ (parseMethodDescriptor yX11_mode.desc).map (fun d => d.parameters.length) = some 0 := by decide +kernel
theorem mdX11_isThumb : yX11_isThumb.cls ≠ "java/lang/invoke/MethodHandle" ∧ yX11_isThumb.cls ≠ "java/lang/invoke/VarHandle" ∧ (parseMethodDescriptor yX11_isThumb.desc).map (fun d => d.parameters.length) = some 0 := by decide +kernel
theorem mdX11_at : yX11_at.cls ≠ "java/lang/invoke/MethodHandle" ∧ yX11_at.cls ≠ "java/lang/invoke/VarHandle" ∧ (parseMethodDescriptor yX11_at.desc).map (fun d => d.parameters.length) = some 1 := by decide +kernel
theorem mdX11_operand : yX11_operand.cls ≠ "java/lang/invoke/MethodHandle" ∧ yX11_operand.cls ≠ "java/lang/invoke/VarHandle" ∧ (parseMethodDescriptor yX11_operand.desc).map (fun d => d.parameters.length) = some 2 := by decide +kernel
theorem mdX11_value : yX11_value.cls ≠ "java/lang/invoke/MethodHandle" ∧ yX11_value.cls ≠ "java/lang/invoke/VarHandle" ∧ (parseMethodDescriptor yX11_value.desc).map (fun d => d.parameters.length) = some 1 := by decide +kernel
theorem mdX11_trimmed : yX11_trimmed.cls ≠ "java/lang/invoke/MethodHandle" ∧ yX11_trimmed.cls ≠ "java/lang/invoke/VarHandle" ∧ (parseMethodDescriptor yX11_trimmed.desc).map (fun d => d.parameters.length) = some 1 := by decide +kernel
theorem mdX11_put : yX11_put.cls ≠ "java/lang/invoke/MethodHandle" ∧ yX11_put.cls ≠ "java/lang/invoke/VarHandle" ∧ (parseMethodDescriptor yX11_put.desc).map (fun d => d.parameters.length) = some 2 := by decide +kernel
theorem mdX11_putStatus : yX11_putStatus.cls ≠ "java/lang/invoke/MethodHandle" ∧ yX11_putStatus.cls ≠ "java/lang/invoke/VarHandle" ∧ (parseMethodDescriptor yX11_putStatus.desc).map (fun d => d.parameters.length) = some 1 := by decide +kernel
theorem mdX11_hasSaved : yX11_hasSaved.cls ≠ "java/lang/invoke/MethodHandle" ∧ yX11_hasSaved.cls ≠ "java/lang/invoke/VarHandle" ∧ (parseMethodDescriptor yX11_hasSaved.desc).map (fun d => d.parameters.length) = some 0 := by decide +kernel
theorem mdX11_kept : yX11_kept.cls ≠ "java/lang/invoke/MethodHandle" ∧ yX11_kept.cls ≠ "java/lang/invoke/VarHandle" ∧ (parseMethodDescriptor yX11_kept.desc).map (fun d => d.parameters.length) = some 0 := by decide +kernel
theorem mdX11_is : yX11_is.cls ≠ "java/lang/invoke/MethodHandle" ∧ yX11_is.cls ≠ "java/lang/invoke/VarHandle" ∧ (parseMethodDescriptor yX11_is.desc).map (fun d => d.parameters.length) = some 1 := by decide +kernel
theorem mdX11_setFlags : yX11_setFlags.cls ≠ "java/lang/invoke/MethodHandle" ∧ yX11_setFlags.cls ≠ "java/lang/invoke/VarHandle" ∧ (parseMethodDescriptor yX11_setFlags.desc).map (fun d => d.parameters.length) = some 1 := by decide +kernel
theorem mdX11_setCarry : yX11_setCarry.cls ≠ "java/lang/invoke/MethodHandle" ∧ yX11_setCarry.cls ≠ "java/lang/invoke/VarHandle" ∧ (parseMethodDescriptor yX11_setCarry.desc).map (fun d => d.parameters.length) = some 1 := by decide +kernel
theorem mdX11_setOver : yX11_setOver.cls ≠ "java/lang/invoke/MethodHandle" ∧ yX11_setOver.cls ≠ "java/lang/invoke/VarHandle" ∧ (parseMethodDescriptor yX11_setOver.desc).map (fun d => d.parameters.length) = some 1 := by decide +kernel
theorem mdX11_poke : yX11_poke.cls ≠ "java/lang/invoke/MethodHandle" ∧ yX11_poke.cls ≠ "java/lang/invoke/VarHandle" ∧ (parseMethodDescriptor yX11_poke.desc).map (fun d => d.parameters.length) = some 2 := by decide +kernel
theorem mdX11_peek : yX11_peek.cls ≠ "java/lang/invoke/MethodHandle" ∧ yX11_peek.cls ≠ "java/lang/invoke/VarHandle" ∧ (parseMethodDescriptor yX11_peek.desc).map (fun d => d.parameters.length) = some 1 := by decide +kernel
theorem mdX11_set : yX11_set.cls ≠ "java/lang/invoke/MethodHandle" ∧ yX11_set.cls ≠ "java/lang/invoke/VarHandle" ∧ (parseMethodDescriptor yX11_set.desc).map (fun d => d.parameters.length) = some 3 := by decide +kernel
theorem mdX11_get : yX11_get.cls ≠ "java/lang/invoke/MethodHandle" ∧ yX11_get.cls ≠ "java/lang/invoke/VarHandle" ∧ (parseMethodDescriptor yX11_get.desc).map (fun d => d.parameters.length) = some 2 := by decide +kernel
theorem mdX11_status : yX11_status.cls ≠ "java/lang/invoke/MethodHandle" ∧ yX11_status.cls ≠ "java/lang/invoke/VarHandle" ∧ (parseMethodDescriptor yX11_status.desc).map (fun d => d.parameters.length) = some 1 := by decide +kernel
theorem mdX11_saved : yX11_saved.cls ≠ "java/lang/invoke/MethodHandle" ∧ yX11_saved.cls ≠ "java/lang/invoke/VarHandle" ∧ (parseMethodDescriptor yX11_saved.desc).map (fun d => d.parameters.length) = some 2 := by decide +kernel
theorem mdX11_line : yX11_line.cls ≠ "java/lang/invoke/MethodHandle" ∧ yX11_line.cls ≠ "java/lang/invoke/VarHandle" ∧ (parseMethodDescriptor yX11_line.desc).map (fun d => d.parameters.length) = some 2 := by decide +kernel
theorem mdX11_enter : yX11_enter.cls ≠ "java/lang/invoke/MethodHandle" ∧ yX11_enter.cls ≠ "java/lang/invoke/VarHandle" ∧ (parseMethodDescriptor yX11_enter.desc).map (fun d => d.parameters.length) = some 2 := by decide +kernel
theorem mdX11_go : yX11_go.cls ≠ "java/lang/invoke/MethodHandle" ∧ yX11_go.cls ≠ "java/lang/invoke/VarHandle" ∧ (parseMethodDescriptor yX11_go.desc).map (fun d => d.parameters.length) = some 0 := by decide +kernel
theorem mdX11_step : yX11_step.cls ≠ "java/lang/invoke/MethodHandle" ∧ yX11_step.cls ≠ "java/lang/invoke/VarHandle" ∧ (parseMethodDescriptor yX11_step.desc).map (fun d => d.parameters.length) = some 1 := by decide +kernel
theorem mdX11_undefined : yX11_undefined.cls ≠ "java/lang/invoke/MethodHandle" ∧ yX11_undefined.cls ≠ "java/lang/invoke/VarHandle" ∧ (parseMethodDescriptor yX11_undefined.desc).map (fun d => d.parameters.length) = some 0 := by decide +kernel
theorem mdX11_isThere : yX11_isThere.cls ≠ "java/lang/invoke/MethodHandle" ∧ yX11_isThere.cls ≠ "java/lang/invoke/VarHandle" ∧ (parseMethodDescriptor yX11_isThere.desc).map (fun d => d.parameters.length) = some 1 := by decide +kernel
theorem mdX11_byteAt : yX11_byteAt.cls ≠ "java/lang/invoke/MethodHandle" ∧ yX11_byteAt.cls ≠ "java/lang/invoke/VarHandle" ∧ (parseMethodDescriptor yX11_byteAt.desc).map (fun d => d.parameters.length) = some 1 := by decide +kernel
theorem mdX11_halfAt : yX11_halfAt.cls ≠ "java/lang/invoke/MethodHandle" ∧ yX11_halfAt.cls ≠ "java/lang/invoke/VarHandle" ∧ (parseMethodDescriptor yX11_halfAt.desc).map (fun d => d.parameters.length) = some 1 := by decide +kernel
theorem mdX11_wordAt : yX11_wordAt.cls ≠ "java/lang/invoke/MethodHandle" ∧ yX11_wordAt.cls ≠ "java/lang/invoke/VarHandle" ∧ (parseMethodDescriptor yX11_wordAt.desc).map (fun d => d.parameters.length) = some 1 := by decide +kernel
theorem mdX11_storeAt : yX11_storeAt.cls ≠ "java/lang/invoke/MethodHandle" ∧ yX11_storeAt.cls ≠ "java/lang/invoke/VarHandle" ∧ (parseMethodDescriptor yX11_storeAt.desc).map (fun d => d.parameters.length) = some 3 := by decide +kernel
theorem mdX11_loaded : yX11_loaded.cls ≠ "java/lang/invoke/MethodHandle" ∧ yX11_loaded.cls ≠ "java/lang/invoke/VarHandle" ∧ (parseMethodDescriptor yX11_loaded.desc).map (fun d => d.parameters.length) = some 2 := by decide +kernel
theorem mdX11_transfer : yX11_transfer.cls ≠ "java/lang/invoke/MethodHandle" ∧ yX11_transfer.cls ≠ "java/lang/invoke/VarHandle" ∧ (parseMethodDescriptor yX11_transfer.desc).map (fun d => d.parameters.length) = some 6 := by decide +kernel
theorem mdX11_shift : yX11_shift.cls ≠ "java/lang/invoke/MethodHandle" ∧ yX11_shift.cls ≠ "java/lang/invoke/VarHandle" ∧ (parseMethodDescriptor yX11_shift.desc).map (fun d => d.parameters.length) = some 3 := by decide +kernel
theorem mdX11_shiftBy : yX11_shiftBy.cls ≠ "java/lang/invoke/MethodHandle" ∧ yX11_shiftBy.cls ≠ "java/lang/invoke/VarHandle" ∧ (parseMethodDescriptor yX11_shiftBy.desc).map (fun d => d.parameters.length) = some 3 := by decide +kernel
theorem mdX11_sum : yX11_sum.cls ≠ "java/lang/invoke/MethodHandle" ∧ yX11_sum.cls ≠ "java/lang/invoke/VarHandle" ∧ (parseMethodDescriptor yX11_sum.desc).map (fun d => d.parameters.length) = some 3 := by decide +kernel
theorem mdX11_carryIn : yX11_carryIn.cls ≠ "java/lang/invoke/MethodHandle" ∧ yX11_carryIn.cls ≠ "java/lang/invoke/VarHandle" ∧ (parseMethodDescriptor yX11_carryIn.desc).map (fun d => d.parameters.length) = some 0 := by decide +kernel
theorem mdX11_operate : yX11_operate.cls ≠ "java/lang/invoke/MethodHandle" ∧ yX11_operate.cls ≠ "java/lang/invoke/VarHandle" ∧ (parseMethodDescriptor yX11_operate.desc).map (fun d => d.parameters.length) = some 3 := by decide +kernel
theorem mdX11_isSum : yX11_isSum.cls ≠ "java/lang/invoke/MethodHandle" ∧ yX11_isSum.cls ≠ "java/lang/invoke/VarHandle" ∧ (parseMethodDescriptor yX11_isSum.desc).map (fun d => d.parameters.length) = some 1 := by decide +kernel
theorem mdX11_finish : yX11_finish.cls ≠ "java/lang/invoke/MethodHandle" ∧ yX11_finish.cls ≠ "java/lang/invoke/VarHandle" ∧ (parseMethodDescriptor yX11_finish.desc).map (fun d => d.parameters.length) = some 5 := by decide +kernel
theorem mdX11_data : yX11_data.cls ≠ "java/lang/invoke/MethodHandle" ∧ yX11_data.cls ≠ "java/lang/invoke/VarHandle" ∧ (parseMethodDescriptor yX11_data.desc).map (fun d => d.parameters.length) = some 1 := by decide +kernel
theorem mdX11_turnedNumber : yX11_turnedNumber.cls ≠ "java/lang/invoke/MethodHandle" ∧ yX11_turnedNumber.cls ≠ "java/lang/invoke/VarHandle" ∧ (parseMethodDescriptor yX11_turnedNumber.desc).map (fun d => d.parameters.length) = some 1 := by decide +kernel
theorem mdX11_isSo : yX11_isSo.cls ≠ "java/lang/invoke/MethodHandle" ∧ yX11_isSo.cls ≠ "java/lang/invoke/VarHandle" ∧ (parseMethodDescriptor yX11_isSo.desc).map (fun d => d.parameters.length) = some 1 := by decide +kernel
theorem mdX11_arm : yX11_arm.cls ≠ "java/lang/invoke/MethodHandle" ∧ yX11_arm.cls ≠ "java/lang/invoke/VarHandle" ∧ (parseMethodDescriptor yX11_arm.desc).map (fun d => d.parameters.length) = some 1 := by decide +kernel
theorem mdX11_exchange : yX11_exchange.cls ≠ "java/lang/invoke/MethodHandle" ∧ yX11_exchange.cls ≠ "java/lang/invoke/VarHandle" ∧ (parseMethodDescriptor yX11_exchange.desc).map (fun d => d.parameters.length) = some 1 := by decide +kernel
theorem mdX11_branch : yX11_branch.cls ≠ "java/lang/invoke/MethodHandle" ∧ yX11_branch.cls ≠ "java/lang/invoke/VarHandle" ∧ (parseMethodDescriptor yX11_branch.desc).map (fun d => d.parameters.length) = some 1 := by decide +kernel
theorem mdX11_multiply : yX11_multiply.cls ≠ "java/lang/invoke/MethodHandle" ∧ yX11_multiply.cls ≠ "java/lang/invoke/VarHandle" ∧ (parseMethodDescriptor yX11_multiply.desc).map (fun d => d.parameters.length) = some 1 := by decide +kernel
theorem mdX11_swap : yX11_swap.cls ≠ "java/lang/invoke/MethodHandle" ∧ yX11_swap.cls ≠ "java/lang/invoke/VarHandle" ∧ (parseMethodDescriptor yX11_swap.desc).map (fun d => d.parameters.length) = some 1 := by decide +kernel
theorem mdX11_indexed : yX11_indexed.cls ≠ "java/lang/invoke/MethodHandle" ∧ yX11_indexed.cls ≠ "java/lang/invoke/VarHandle" ∧ (parseMethodDescriptor yX11_indexed.desc).map (fun d => d.parameters.length) = some 3 := by decide +kernel
theorem mdX11_halves : yX11_halves.cls ≠ "java/lang/invoke/MethodHandle" ∧ yX11_halves.cls ≠ "java/lang/invoke/VarHandle" ∧ (parseMethodDescriptor yX11_halves.desc).map (fun d => d.parameters.length) = some 1 := by decide +kernel
theorem mdX11_single : yX11_single.cls ≠ "java/lang/invoke/MethodHandle" ∧ yX11_single.cls ≠ "java/lang/invoke/VarHandle" ∧ (parseMethodDescriptor yX11_single.desc).map (fun d => d.parameters.length) = some 1 := by decide +kernel
theorem mdX11_isStatus : yX11_isStatus.cls ≠ "java/lang/invoke/MethodHandle" ∧ yX11_isStatus.cls ≠ "java/lang/invoke/VarHandle" ∧ (parseMethodDescriptor yX11_isStatus.desc).map (fun d => d.parameters.length) = some 1 := by decide +kernel
theorem mdX11_toStatus : yX11_toStatus.cls ≠ "java/lang/invoke/MethodHandle" ∧ yX11_toStatus.cls ≠ "java/lang/invoke/VarHandle" ∧ (parseMethodDescriptor yX11_toStatus.desc).map (fun d => d.parameters.length) = some 1 := by decide +kernel
theorem mdX11_countOf : yX11_countOf.cls ≠ "java/lang/invoke/MethodHandle" ∧ yX11_countOf.cls ≠ "java/lang/invoke/VarHandle" ∧ (parseMethodDescriptor yX11_countOf.desc).map (fun d => d.parameters.length) = some 1 := by decide +kernel
theorem mdX11_many : yX11_many.cls ≠ "java/lang/invoke/MethodHandle" ∧ yX11_many.cls ≠ "java/lang/invoke/VarHandle" ∧ (parseMethodDescriptor yX11_many.desc).map (fun d => d.parameters.length) = some 7 := by decide +kernel
theorem mdX11_nth : yX11_nth.cls ≠ "java/lang/invoke/MethodHandle" ∧ yX11_nth.cls ≠ "java/lang/invoke/VarHandle" ∧ (parseMethodDescriptor yX11_nth.desc).map (fun d => d.parameters.length) = some 3 := by decide +kernel
theorem mdX11_loadAll : yX11_loadAll.cls ≠ "java/lang/invoke/MethodHandle" ∧ yX11_loadAll.cls ≠ "java/lang/invoke/VarHandle" ∧ (parseMethodDescriptor yX11_loadAll.desc).map (fun d => d.parameters.length) = some 4 := by decide +kernel
theorem mdX11_thumb : yX11_thumb.cls ≠ "java/lang/invoke/MethodHandle" ∧ yX11_thumb.cls ≠ "java/lang/invoke/VarHandle" ∧ (parseMethodDescriptor yX11_thumb.desc).map (fun d => d.parameters.length) = some 1 := by decide +kernel
theorem mdX11_early : yX11_early.cls ≠ "java/lang/invoke/MethodHandle" ∧ yX11_early.cls ≠ "java/lang/invoke/VarHandle" ∧ (parseMethodDescriptor yX11_early.desc).map (fun d => d.parameters.length) = some 5 := by decide +kernel
theorem mdX11_numbers : yX11_numbers.cls ≠ "java/lang/invoke/MethodHandle" ∧ yX11_numbers.cls ≠ "java/lang/invoke/VarHandle" ∧ (parseMethodDescriptor yX11_numbers.desc).map (fun d => d.parameters.length) = some 3 := by decide +kernel
theorem mdX11_operations : yX11_operations.cls ≠ "java/lang/invoke/MethodHandle" ∧ yX11_operations.cls ≠ "java/lang/invoke/VarHandle" ∧ (parseMethodDescriptor yX11_operations.desc).map (fun d => d.parameters.length) = some 3 := by decide +kernel
theorem mdX11_highOnes : yX11_highOnes.cls ≠ "java/lang/invoke/MethodHandle" ∧ yX11_highOnes.cls ≠ "java/lang/invoke/VarHandle" ∧ (parseMethodDescriptor yX11_highOnes.desc).map (fun d => d.parameters.length) = some 1 := by decide +kernel
theorem mdX11_byRegisters : yX11_byRegisters.cls ≠ "java/lang/invoke/MethodHandle" ∧ yX11_byRegisters.cls ≠ "java/lang/invoke/VarHandle" ∧ (parseMethodDescriptor yX11_byRegisters.desc).map (fun d => d.parameters.length) = some 3 := by decide +kernel
theorem mdX11_stack : yX11_stack.cls ≠ "java/lang/invoke/MethodHandle" ∧ yX11_stack.cls ≠ "java/lang/invoke/VarHandle" ∧ (parseMethodDescriptor yX11_stack.desc).map (fun d => d.parameters.length) = some 1 := by decide +kernel
theorem mdX11_conditional : yX11_conditional.cls ≠ "java/lang/invoke/MethodHandle" ∧ yX11_conditional.cls ≠ "java/lang/invoke/VarHandle" ∧ (parseMethodDescriptor yX11_conditional.desc).map (fun d => d.parameters.length) = some 2 := by decide +kernel
theorem mdX11_far : yX11_far.cls ≠ "java/lang/invoke/MethodHandle" ∧ yX11_far.cls ≠ "java/lang/invoke/VarHandle" ∧ (parseMethodDescriptor yX11_far.desc).map (fun d => d.parameters.length) = some 1 := by decide +kernel
theorem mdX11_count : yX11_count.cls ≠ "java/lang/invoke/MethodHandle" ∧ yX11_count.cls ≠ "java/lang/invoke/VarHandle" ∧ (parseMethodDescriptor yX11_count.desc).map (fun d => d.parameters.length) = some 1 := by decide +kernel
theorem mdJ6_bitCount_0f7a4 : yJ6_bitCount_0f7a4.cls ≠ "java/lang/invoke/MethodHandle" ∧ yJ6_bitCount_0f7a4.cls ≠ "java/lang/invoke/VarHandle" ∧ (parseMethodDescriptor yJ6_bitCount_0f7a4.desc).map (fun d => d.parameters.length) = some 1 := by decide +kernel
/-! the class: its state, its cells -/
abbrev CS : Type := (Nat → Int32) × (Nat → Int32) × (Nat → Int32) × (Nat → Int32) × Int32 × Int32 × Int32 × Int32 × Int32 × Nat × Bool × Bool
def c_words (σ : CS) : Nat → Int32 := σ.1
def c_held (σ : CS) : Nat → Int32 := σ.2.1
def c_spsrs (σ : CS) : Nat → Int32 := σ.2.2.1
def c_faults (σ : CS) : Nat → Int32 := σ.2.2.2.1
def c_cpsr (σ : CS) : Int32 := σ.2.2.2.2.1
def c_here (σ : CS) : Int32 := σ.2.2.2.2.2.1
def c_carry (σ : CS) : Int32 := σ.2.2.2.2.2.2.1
def c_flags (σ : CS) : Int32 := σ.2.2.2.2.2.2.2.1
def c_steps (σ : CS) : Int32 := σ.2.2.2.2.2.2.2.2.1
def c_irq (σ : CS) : Bool := σ.2.2.2.2.2.2.2.2.2.2.1
def c_fiq (σ : CS) : Bool := σ.2.2.2.2.2.2.2.2.2.2.2
def s_words (σ : CS) (v : Nat → Int32) : CS := (v, σ.2.1, σ.2.2.1, σ.2.2.2.1, σ.2.2.2.2.1, σ.2.2.2.2.2.1, σ.2.2.2.2.2.2.1, σ.2.2.2.2.2.2.2.1, σ.2.2.2.2.2.2.2.2.1, σ.2.2.2.2.2.2.2.2.2.1, σ.2.2.2.2.2.2.2.2.2.2.1, σ.2.2.2.2.2.2.2.2.2.2.2)
def s_held (σ : CS) (v : Nat → Int32) : CS := (σ.1, v, σ.2.2.1, σ.2.2.2.1, σ.2.2.2.2.1, σ.2.2.2.2.2.1, σ.2.2.2.2.2.2.1, σ.2.2.2.2.2.2.2.1, σ.2.2.2.2.2.2.2.2.1, σ.2.2.2.2.2.2.2.2.2.1, σ.2.2.2.2.2.2.2.2.2.2.1, σ.2.2.2.2.2.2.2.2.2.2.2)
def s_spsrs (σ : CS) (v : Nat → Int32) : CS := (σ.1, σ.2.1, v, σ.2.2.2.1, σ.2.2.2.2.1, σ.2.2.2.2.2.1, σ.2.2.2.2.2.2.1, σ.2.2.2.2.2.2.2.1, σ.2.2.2.2.2.2.2.2.1, σ.2.2.2.2.2.2.2.2.2.1, σ.2.2.2.2.2.2.2.2.2.2.1, σ.2.2.2.2.2.2.2.2.2.2.2)
def s_faults (σ : CS) (v : Nat → Int32) : CS := (σ.1, σ.2.1, σ.2.2.1, v, σ.2.2.2.2.1, σ.2.2.2.2.2.1, σ.2.2.2.2.2.2.1, σ.2.2.2.2.2.2.2.1, σ.2.2.2.2.2.2.2.2.1, σ.2.2.2.2.2.2.2.2.2.1, σ.2.2.2.2.2.2.2.2.2.2.1, σ.2.2.2.2.2.2.2.2.2.2.2)
def s_cpsr (σ : CS) (v : Int32) : CS := (σ.1, σ.2.1, σ.2.2.1, σ.2.2.2.1, v, σ.2.2.2.2.2.1, σ.2.2.2.2.2.2.1, σ.2.2.2.2.2.2.2.1, σ.2.2.2.2.2.2.2.2.1, σ.2.2.2.2.2.2.2.2.2.1, σ.2.2.2.2.2.2.2.2.2.2.1, σ.2.2.2.2.2.2.2.2.2.2.2)
def s_here (σ : CS) (v : Int32) : CS := (σ.1, σ.2.1, σ.2.2.1, σ.2.2.2.1, σ.2.2.2.2.1, v, σ.2.2.2.2.2.2.1, σ.2.2.2.2.2.2.2.1, σ.2.2.2.2.2.2.2.2.1, σ.2.2.2.2.2.2.2.2.2.1, σ.2.2.2.2.2.2.2.2.2.2.1, σ.2.2.2.2.2.2.2.2.2.2.2)
def s_carry (σ : CS) (v : Int32) : CS := (σ.1, σ.2.1, σ.2.2.1, σ.2.2.2.1, σ.2.2.2.2.1, σ.2.2.2.2.2.1, v, σ.2.2.2.2.2.2.2.1, σ.2.2.2.2.2.2.2.2.1, σ.2.2.2.2.2.2.2.2.2.1, σ.2.2.2.2.2.2.2.2.2.2.1, σ.2.2.2.2.2.2.2.2.2.2.2)
def s_flags (σ : CS) (v : Int32) : CS := (σ.1, σ.2.1, σ.2.2.1, σ.2.2.2.1, σ.2.2.2.2.1, σ.2.2.2.2.2.1, σ.2.2.2.2.2.2.1, v, σ.2.2.2.2.2.2.2.2.1, σ.2.2.2.2.2.2.2.2.2.1, σ.2.2.2.2.2.2.2.2.2.2.1, σ.2.2.2.2.2.2.2.2.2.2.2)
def s_steps (σ : CS) (v : Int32) : CS := (σ.1, σ.2.1, σ.2.2.1, σ.2.2.2.1, σ.2.2.2.2.1, σ.2.2.2.2.2.1, σ.2.2.2.2.2.2.1, σ.2.2.2.2.2.2.2.1, v, σ.2.2.2.2.2.2.2.2.2.1, σ.2.2.2.2.2.2.2.2.2.2.1, σ.2.2.2.2.2.2.2.2.2.2.2)
def s_bank (σ : CS) (v : Nat) : CS := (σ.1, σ.2.1, σ.2.2.1, σ.2.2.2.1, σ.2.2.2.2.1, σ.2.2.2.2.2.1, σ.2.2.2.2.2.2.1, σ.2.2.2.2.2.2.2.1, σ.2.2.2.2.2.2.2.2.1, v, σ.2.2.2.2.2.2.2.2.2.2.1, σ.2.2.2.2.2.2.2.2.2.2.2)
def s_irq (σ : CS) (v : Bool) : CS := (σ.1, σ.2.1, σ.2.2.1, σ.2.2.2.1, σ.2.2.2.2.1, σ.2.2.2.2.2.1, σ.2.2.2.2.2.2.1, σ.2.2.2.2.2.2.2.1, σ.2.2.2.2.2.2.2.2.1, σ.2.2.2.2.2.2.2.2.2.1, v, σ.2.2.2.2.2.2.2.2.2.2.2)
def s_fiq (σ : CS) (v : Bool) : CS := (σ.1, σ.2.1, σ.2.2.1, σ.2.2.2.1, σ.2.2.2.2.1, σ.2.2.2.2.2.1, σ.2.2.2.2.2.2.1, σ.2.2.2.2.2.2.2.1, σ.2.2.2.2.2.2.2.2.1, σ.2.2.2.2.2.2.2.2.2.1, σ.2.2.2.2.2.2.2.2.2.2.1, v)
def c_bank (σ : CS) : Int32 := nI (σ.2.2.2.2.2.2.2.2.2.1 % 6)
def tPL (j : Nat) : Int32 := ([0, 1, 2, 3, 4, 5, 6, 7, 8, 9, 10, 11, 12, 13, 14, 15, 0, 1, 2, 3, 4, 5, 6, 7, 16, 17, 18, 19, 20, 21, 22, 15, 0, 1, 2, 3, 4, 5, 6, 7, 8, 9, 10, 11, 12, 23, 24, 15, 0, 1, 2, 3, 4, 5, 6, 7, 8, 9, 10, 11, 12, 25, 26, 15, 0, 1, 2, 3, 4, 5, 6, 7, 8, 9, 10, 11, 12, 27, 28, 15, 0, 1, 2, 3, 4, 5, 6, 7, 8, 9, 10, 11, 12, 29, 30, 15] : List Int32).getD j 0
def tMO (j : Nat) : Int32 := ([27, 19, 23, 23, 18, 17] : List Int32).getD j 0
def tVE (j : Nat) : Int32 := ([4, 8, 12, 16, 24, 28] : List Int32).getD j 0
def tKI (j : Nat) : Int32 := ([0, 2, 1, 3, 0, 2, 1, 4] : List Int32).getD j 0
def cW (G : KG) (σ : CS) : va_W := [
  (gA G 0, .inr (8, [.ref (gA G 1), .ref (gA G 3), .ref (gA G 6)])),
  (gA G 1, .inr (2, [.ref (gA G 2)])),
  (gA G 2, .inl (G.2.1.1, 65536, .inl (c_words σ))),
  (gA G 3, .inr (4, [.ref (gA G 4), .ref (gA G 5), .int (c_cpsr σ), .int (c_bank σ), .int (c_here σ)])),
  (gA G 4, .inl (G.2.1.1, 31, .inl (c_held σ))),
  (gA G 5, .inl (G.2.1.1, 6, .inl (c_spsrs σ))),
  (gA G 6, .inr (3, [.ref (gA G 1), .ref (gA G 3), .ref (gA G 7), .ref (gA G 8), .ref (gA G 9), .int (c_steps σ), .int (b01 (c_irq σ)), .int (b01 (c_fiq σ))])),
  (gA G 7, .inr (1, [.ref (gA G 3), .ref (gA G 10), .ref (gA G 11), .ref (gA G 12)])),
  (gA G 8, .inr (6, [.ref (gA G 3), .ref (gA G 10), .ref (gA G 11), .ref (gA G 12)])),
  (gA G 9, .inl (G.2.1.1, 6, .inl (c_faults σ))),
  (gA G 10, .inr (5, [.int (c_carry σ)])),
  (gA G 11, .inr (0, [.ref (gA G 3), .int (c_flags σ)])),
  (gA G 12, .inr (7, [.ref (gA G 1), .ref (gA G 3)]))]
def zTab (C n : String) (t N : Nat) (f : Nat → Int32) (A : Nat → Prop) (U : State) (H : Heap) : Prop := va_Z C n "[I" (.ref t) A U H ∧ va_T .int t N (fun j => .int (f j)) A U H
theorem zTab.go {C n : String} {t N : Nat} {f : Nat → Int32} {A A' : Nat → Prop} {U U' : State} {H H' : Heap} (h : zTab C n t N f A U H) (hW : U.WarmedH U'.vm) (hq : ∀ q : Nat, q < H.size → ¬ A q → H'[q]? = H[q]?) (hA : ∀ q, A' q → A q) : zTab C n t N f A' U' H' :=
  ⟨((h.1.kept hq).narrow hA).moved hW.alike, ((h.2.kept hq).narrow hA).moved hW.alike⟩
/-- what statics hold: the four tables; the two of Throwable; the eight texts -/
def cZ (G : KG) (A : Nat → Prop) (U : State) (H : Heap) : Prop :=
  (zTab RX6 "PLACES" (gS G 0) 96 tPL A U H ∧ zTab RX3 "MODES" (gS G 1) 6 tMO A U H ∧ zTab RX3 "VECTORS" (gS G 2) 6 tVE A U H ∧ zTab RX8 "KINDS_BY_REGISTER" (gS G 3) 8 tKI A U H) ∧
  (vx_Zq Jvm.Bundle.tN "UNASSIGNED_STACK" Jvm.Bundle.steD A U H ∧ vx_Zq Jvm.Bundle.tN "SUPPRESSED_SENTINEL" Jvm.Bundle.listD A U H) ∧
  (vk_R RX10 73 "the mode has no SPSR" (gS G 4) U ∧ vk_R RX10 86 "there is no such line" (gS G 5) U ∧ vk_R RX10 96 "not a number of steps" (gS G 6) U ∧ vk_R RX10 104 "nothing of that number is counted" (gS G 7) U ∧
   vk_R RX10 112 "4 does not divide the address" (gS G 8) U ∧ vk_R RX10 118 "there is no memory" (gS G 9) U ∧ vk_R RX10 120 "there is no such mode" (gS G 10) U ∧ vk_R RX10 122 "there is no such register" (gS G 11) U)
theorem cZ_ok {G : KG} : kc_Zok (cZ G) := by
  intro A A' U U' H H' h hW hq hA
  obtain ⟨⟨t1, t2, t3, t4⟩, ⟨z1, z2⟩, r1, r2, r3, r4, r5, r6, r7, r8⟩ := h
  exact ⟨⟨t1.go hW hq hA, t2.go hW hq hA, t3.go hW hq hA, t4.go hW hq hA⟩, ⟨((z1.kept hq).narrow hA).moved hW.alike, ((z2.kept hq).narrow hA).moved hW.alike⟩,
    r1.warm hW, r2.warm hW, r3.warm hW, r4.warm hW, r5.warm hW, r6.warm hW, r7.warm hW, r8.warm hW⟩
theorem nI_vp {k N : Nat} (h : k < N) (hN : N < 2 ^ 31) : vp_in (nI k) N := vp_in_nI h hN
theorem c_bank_in (σ : CS) : vp_in (c_bank σ) 6 := nI_vp (Nat.mod_lt _ (by decide)) (by decide)
theorem bk_put {v : Int32} (h : vp_in v 6) : v = nI (v.toNatClampNeg % 6) := by
  obtain ⟨j, hj, rfl⟩ := vp_in_of h (by decide)
  rw [nI_clamp (by omega), Nat.mod_eq_of_lt hj]
theorem pl_in {b i : Int32} (hb : vp_in b 6) (hi : vp_in i 16) : vp_in (16 * b + i) 96 := by
  obtain ⟨j, hj, rfl⟩ := vp_in_of hb (by decide)
  obtain ⟨k, hk, rfl⟩ := vp_in_of hi (by decide)
  have e : (16 : Int32) * nI j + nI k = nI (16 * j + k) := by rw [show (16 : Int32) = nI 16 from rfl, pk_mul, nI_add]
  rw [e]
  exact nI_vp (by omega) (by decide)
theorem pl_held (j : Nat) : vp_in (tPL j) 31 := by
  by_cases h : j < 96
  · have q : ∀ j, j < 96 → ¬ (tPL j < 0 ∨ 31 ≤ (tPL j).toNatClampNeg) := by decide +kernel
    exact q j h
  · have e : tPL j = 0 := by
      unfold tPL
      rw [List.getD_eq_getElem?_getD, List.getElem?_eq_none (show 96 ≤ j by omega)]
      rfl
    rw [e]
    exact nI_vp (k := 0) (by decide) (by decide)
theorem wd_in (a : Int32) : vp_in (iu (a &&& 262143) 2) 65536 := by
  rw [pk_and a 18 (by decide)]
  unfold iu
  rw [pk_ushrN (n := a.toBitVec.toNat % 2 ^ 18) (by omega) 2 2 (by decide)]
  exact nI_vp (by omega) (by decide)
/-! counted loops: i goes up to lim; n is more than what is left -/
def lpI (lim n : Nat) (i : Int32) : Prop := ∃ j : Nat, i = nI j ∧ j ≤ lim ∧ lim < j + n ∧ lim < 2 ^ 30
theorem lpI_start (lim : Nat) (h : lim < 2 ^ 30 := by decide) : lpI lim (lim + 1) 0 := ⟨0, rfl, Nat.zero_le _, by omega, h⟩
theorem lpI_0 {lim : Nat} {i : Int32} : ¬ lpI lim 0 i := fun ⟨j, _, h1, h2, _⟩ => by omega
theorem lpI_s {lim n : Nat} {i : Int32} (h : lpI lim (n + 1) i) (hc : ¬ nI lim ≤ i) : lpI lim n (i + 1) := by
  obtain ⟨j, rfl, h1, h2, h3⟩ := h
  have : j < lim := Nat.not_le.mp fun q => hc (nI_le q (by omega))
  exact ⟨j + 1, nI_1 j, by omega, by omega, h3⟩
theorem lpI_in {lim n N : Nat} {i : Int32} (h : lpI lim n i) (hc : ¬ nI lim ≤ i) (hN : lim ≤ N) : vp_in i N := by
  obtain ⟨j, rfl, h1, h2, h3⟩ := h
  have hj : j < lim := Nat.not_le.mp fun q => hc (nI_le q (by omega))
  rw [vp_in_iff, nI_toInt (by omega)]
  omega
theorem lp_c1 {i : Int32} (h : ¬ (15 : Int32) < i) : ¬ nI 16 ≤ i := fun q => h (by
  rw [Int32.lt_iff_toInt_lt]
  rw [Int32.le_iff_toInt_le] at q
  have e1 : (nI 16).toInt = 16 := by decide
  have e2 : (15 : Int32).toInt = 15 := by decide
  rw [e1] at q
  rw [e2]
  omega)
theorem lp_c2 {i : Int32} (h : ¬ (15 : Int32) ≤ i) : ¬ nI 15 ≤ i := h
theorem kP_eq {D : va_G} {cl : List vw_C} {ws ws' : va_W} {H : Heap} (e : ws = ws') (h : va_P D cl ws H) : va_P D cl ws' H := e ▸ h
theorem kD_eq {A : Nat → Prop} {ws ws' : va_W} (e : ws = ws') (h : va_D A ws) : va_D A ws' := e ▸ h
theorem cWs_words (G : KG) (σ : CS) (v : Nat → Int32) : (cW G σ).set 2 (gA G 2, .inl (G.2.1.1, 65536, .inl (v))) = cW G (s_words σ v) := rfl
theorem cWs_cpsr (G : KG) (σ : CS) (v : Int32) : (cW G σ).set 3 (gA G 3, .inr (4, [.ref (gA G 4), .ref (gA G 5), .int (c_cpsr σ), .int (c_bank σ), .int (c_here σ)].set 2 (.int (v)))) = cW G (s_cpsr σ v) := rfl
theorem cWs_bank (G : KG) (σ : CS) (v : Nat) : (cW G σ).set 3 (gA G 3, .inr (4, [.ref (gA G 4), .ref (gA G 5), .int (c_cpsr σ), .int (c_bank σ), .int (c_here σ)].set 3 (.int (nI (v % 6))))) = cW G (s_bank σ v) := rfl
theorem cWs_here (G : KG) (σ : CS) (v : Int32) : (cW G σ).set 3 (gA G 3, .inr (4, [.ref (gA G 4), .ref (gA G 5), .int (c_cpsr σ), .int (c_bank σ), .int (c_here σ)].set 4 (.int (v)))) = cW G (s_here σ v) := rfl
theorem cWs_held (G : KG) (σ : CS) (v : Nat → Int32) : (cW G σ).set 4 (gA G 4, .inl (G.2.1.1, 31, .inl (v))) = cW G (s_held σ v) := rfl
theorem cWs_spsrs (G : KG) (σ : CS) (v : Nat → Int32) : (cW G σ).set 5 (gA G 5, .inl (G.2.1.1, 6, .inl (v))) = cW G (s_spsrs σ v) := rfl
theorem cWs_steps (G : KG) (σ : CS) (v : Int32) : (cW G σ).set 6 (gA G 6, .inr (3, [.ref (gA G 1), .ref (gA G 3), .ref (gA G 7), .ref (gA G 8), .ref (gA G 9), .int (c_steps σ), .int (b01 (c_irq σ)), .int (b01 (c_fiq σ))].set 5 (.int (v)))) = cW G (s_steps σ v) := rfl
theorem cWs_irq (G : KG) (σ : CS) (v : Bool) : (cW G σ).set 6 (gA G 6, .inr (3, [.ref (gA G 1), .ref (gA G 3), .ref (gA G 7), .ref (gA G 8), .ref (gA G 9), .int (c_steps σ), .int (b01 (c_irq σ)), .int (b01 (c_fiq σ))].set 6 (.int (b01 v)))) = cW G (s_irq σ v) := rfl
theorem cWs_fiq (G : KG) (σ : CS) (v : Bool) : (cW G σ).set 6 (gA G 6, .inr (3, [.ref (gA G 1), .ref (gA G 3), .ref (gA G 7), .ref (gA G 8), .ref (gA G 9), .int (c_steps σ), .int (b01 (c_irq σ)), .int (b01 (c_fiq σ))].set 7 (.int (b01 v)))) = cW G (s_fiq σ v) := rfl
theorem cWs_faults (G : KG) (σ : CS) (v : Nat → Int32) : (cW G σ).set 9 (gA G 9, .inl (G.2.1.1, 6, .inl (v))) = cW G (s_faults σ v) := rfl
theorem cWs_carry (G : KG) (σ : CS) (v : Int32) : (cW G σ).set 10 (gA G 10, .inr (5, [.int (c_carry σ)].set 0 (.int (v)))) = cW G (s_carry σ v) := rfl
theorem cWs_flags (G : KG) (σ : CS) (v : Int32) : (cW G σ).set 11 (gA G 11, .inr (0, [.ref (gA G 3), .int (c_flags σ)].set 1 (.int (v)))) = cW G (s_flags σ v) := rfl
