/-! the start: classes, array classes, statics, texts -/
theorem st_at {args : Array Value} {s : State} (h : (Jvm.Cond.and given_1 narrow_1).before args s = true) {i : Nat} {w : Cond} (hi : (flatC (Jvm.Cond.and given_1 narrow_1))[i]? = some w) : w.before args s = true := flat_of_before _ h w (List.mem_of_getElem? hi)
theorem st_tab {args : Array Value} {s : State} {C n : String} {N : Nat} {f : Nat → Int32} {A : Nat → Prop} (hN : N < 2 ^ 31) (hl : (Cond.laysStatic C n "[I").before args s = true) (hini : (Cond.initialized C).before args s = true)
    (harr : (Cond.arrayOf (.static C n "[I") .int).before args s = true) (hlen : (Cond.eq (.length (.static C n "[I")) (.int (Int32.ofNat N))).before args s = true)
    (hel : ∀ j, j < N → (Cond.eq (.elem (.static C n "[I") (.int (Int32.ofNat j))) (.int (f j))).before args s = true) (hA : ∀ a : Nat, a < s.heap.size → ¬ A a) : ∃ t : Nat, zTab C n t N f A s s.heap := by
  obtain ⟨t, ht, hT⟩ := va_Tof (f := fun j => .int (f j)) hN harr (va_eqt hlen) (fun j hj => va_eqt (hel j hj)) hA
  exact ⟨t, va_Zof hl hini ht hA, hT⟩
theorem st_arr {args : Array Value} {s : State} {ty : FieldType} (h : (Cond.arrayClass ty).before args s = true) (hq : ∀ cA, s.vm.findClass ("[" ++ ty.toString) = some cA → va_RA s cA ty) : ∃ c : ClassId, ArrOfT s c ty ∧ va_RA s c ty := by
  obtain ⟨c, k, comp, h1, h2, h3⟩ := Cond.arrayClass_spec h
  exact ⟨c, fun n z => ⟨fun k h => (by cases h), k, h2, comp, h3⟩, hq c h1⟩
theorem st_txt {args : Array Value} {s : State} {own tx : String} {k : Nat} {c : ClassId} (hc : s.vm.findClass own = some c) (h : (Cond.stringRef own k tx).before args s = true) : ∃ a : Nat, vk_R own k tx a s := by
  obtain ⟨-, -, -, a, -, -, -, -, -, hev⟩ := Cond.stringRef_spec hc h
  exact ⟨a, vk_R.of (A := args) h hev⟩
set_option maxRecDepth 20000 in
set_option maxHeartbeats 4000000 in
theorem st_el0 : ∀ j, j < 96 → (flatC (Jvm.Cond.and given_1 narrow_1))[9 + j]? = some (Cond.eq (.elem (.static RX6 "PLACES" "[I") (.int (Int32.ofNat j))) (.int (tPL j))) := by decide +kernel
set_option maxRecDepth 20000 in
theorem st_ar0 : (flatC (Jvm.Cond.and given_1 narrow_1))[7]? = some (Cond.arrayOf (.static RX6 "PLACES" "[I") .int) := by decide +kernel
set_option maxRecDepth 20000 in
theorem st_le0 : (flatC (Jvm.Cond.and given_1 narrow_1))[8]? = some (Cond.eq (.length (.static RX6 "PLACES" "[I")) (.int (Int32.ofNat 96))) := by decide +kernel
set_option maxRecDepth 20000 in
theorem st_ls0 : Cond.laysStatic RX6 "PLACES" "[I" ∈ lw_tbl := by decide +kernel
set_option maxRecDepth 20000 in
set_option maxHeartbeats 4000000 in
theorem st_el1 : ∀ j, j < 6 → (flatC (Jvm.Cond.and given_1 narrow_1))[119 + j]? = some (Cond.eq (.elem (.static RX3 "MODES" "[I") (.int (Int32.ofNat j))) (.int (tMO j))) := by decide +kernel
set_option maxRecDepth 20000 in
theorem st_ar1 : (flatC (Jvm.Cond.and given_1 narrow_1))[117]? = some (Cond.arrayOf (.static RX3 "MODES" "[I") .int) := by decide +kernel
set_option maxRecDepth 20000 in
theorem st_le1 : (flatC (Jvm.Cond.and given_1 narrow_1))[118]? = some (Cond.eq (.length (.static RX3 "MODES" "[I")) (.int (Int32.ofNat 6))) := by decide +kernel
set_option maxRecDepth 20000 in
theorem st_ls1 : Cond.laysStatic RX3 "MODES" "[I" ∈ lw_tbl := by decide +kernel
set_option maxRecDepth 20000 in
set_option maxHeartbeats 4000000 in
theorem st_el2 : ∀ j, j < 6 → (flatC (Jvm.Cond.and given_1 narrow_1))[128 + j]? = some (Cond.eq (.elem (.static RX3 "VECTORS" "[I") (.int (Int32.ofNat j))) (.int (tVE j))) := by decide +kernel
set_option maxRecDepth 20000 in
theorem st_ar2 : (flatC (Jvm.Cond.and given_1 narrow_1))[126]? = some (Cond.arrayOf (.static RX3 "VECTORS" "[I") .int) := by decide +kernel
set_option maxRecDepth 20000 in
theorem st_le2 : (flatC (Jvm.Cond.and given_1 narrow_1))[127]? = some (Cond.eq (.length (.static RX3 "VECTORS" "[I")) (.int (Int32.ofNat 6))) := by decide +kernel
set_option maxRecDepth 20000 in
theorem st_ls2 : Cond.laysStatic RX3 "VECTORS" "[I" ∈ lw_tbl := by decide +kernel
set_option maxRecDepth 20000 in
set_option maxHeartbeats 4000000 in
theorem st_el3 : ∀ j, j < 8 → (flatC (Jvm.Cond.and given_1 narrow_1))[108 + j]? = some (Cond.eq (.elem (.static RX8 "KINDS_BY_REGISTER" "[I") (.int (Int32.ofNat j))) (.int (tKI j))) := by decide +kernel
set_option maxRecDepth 20000 in
theorem st_ar3 : (flatC (Jvm.Cond.and given_1 narrow_1))[106]? = some (Cond.arrayOf (.static RX8 "KINDS_BY_REGISTER" "[I") .int) := by decide +kernel
set_option maxRecDepth 20000 in
theorem st_le3 : (flatC (Jvm.Cond.and given_1 narrow_1))[107]? = some (Cond.eq (.length (.static RX8 "KINDS_BY_REGISTER" "[I")) (.int (Int32.ofNat 8))) := by decide +kernel
set_option maxRecDepth 20000 in
theorem st_ls3 : Cond.laysStatic RX8 "KINDS_BY_REGISTER" "[I" ∈ lw_tbl := by decide +kernel
set_option maxRecDepth 20000 in
theorem st_rf0 : (flatC (Jvm.Cond.and given_1 narrow_1))[4]? = some (Cond.isRef (.static Jvm.Bundle.tN "UNASSIGNED_STACK" Jvm.Bundle.steD)) := by decide +kernel
set_option maxRecDepth 20000 in
theorem st_lr0 : Cond.laysStatic Jvm.Bundle.tN "UNASSIGNED_STACK" Jvm.Bundle.steD ∈ lw_tbl := by decide +kernel
set_option maxRecDepth 20000 in
theorem st_rf1 : (flatC (Jvm.Cond.and given_1 narrow_1))[5]? = some (Cond.isRef (.static Jvm.Bundle.tN "SUPPRESSED_SENTINEL" Jvm.Bundle.listD)) := by decide +kernel
set_option maxRecDepth 20000 in
theorem st_lr1 : Cond.laysStatic Jvm.Bundle.tN "SUPPRESSED_SENTINEL" Jvm.Bundle.listD ∈ lw_tbl := by decide +kernel
set_option maxRecDepth 20000 in
theorem st_ini : Cond.initialized Jvm.Bundle.tN ∈ lw_tbl := by decide +kernel
set_option maxRecDepth 20000 in
theorem st_nc : (flatC (Jvm.Cond.and given_1 narrow_1))[144]? = some (Cond.not (.castable eIO eIA)) := by decide +kernel
set_option maxRecDepth 20000 in
theorem st_s73 : Cond.stringRef RX10 73 "the mode has no SPSR" ∈ lw_tbl := by decide +kernel
set_option maxRecDepth 20000 in
theorem st_s86 : Cond.stringRef RX10 86 "there is no such line" ∈ lw_tbl := by decide +kernel
set_option maxRecDepth 20000 in
theorem st_s96 : Cond.stringRef RX10 96 "not a number of steps" ∈ lw_tbl := by decide +kernel
set_option maxRecDepth 20000 in
theorem st_s104 : Cond.stringRef RX10 104 "nothing of that number is counted" ∈ lw_tbl := by decide +kernel
set_option maxRecDepth 20000 in
theorem st_s112 : Cond.stringRef RX10 112 "4 does not divide the address" ∈ lw_tbl := by decide +kernel
set_option maxRecDepth 20000 in
theorem st_s118 : Cond.stringRef RX10 118 "there is no memory" ∈ lw_tbl := by decide +kernel
set_option maxRecDepth 20000 in
theorem st_s120 : Cond.stringRef RX10 120 "there is no such mode" ∈ lw_tbl := by decide +kernel
set_option maxRecDepth 20000 in
theorem st_s122 : Cond.stringRef RX10 122 "there is no such register" ∈ lw_tbl := by decide +kernel
set_option maxRecDepth 20000 in
theorem st_xB : ∀ w ∈ xB, w ∈ lw_tbl := by decide +kernel
theorem st_fc {s : State} {C : String} {T : u_T} {N : Nat} {cC : ClassId} {iS : Nat → Nat} (h : u_Kn s C T N cC iS) : s.vm.findClass C = some cC := h.2.1
set_option maxRecDepth 20000 in
set_option maxHeartbeats 4000000 in
theorem st_all {b : Nat} {s : State} (hts : ∀ w ∈ lw_tbl, w.before #[Value.ref b] s = true) (hgv : (Jvm.Cond.and given_1 narrow_1).before #[Value.ref b] s = true) : ∃ (D : va_G) (T : ClassId × ClassId × ClassId) (S : Nat → Nat), va_K D vwCl [(T.1, .int), (T.2.1, .boolean), (T.2.2, .long)] s ∧ ∀ a : Nat → Nat, cZX (D, T, a, S) (fun q : Nat => s.heap.size ≤ q) s s.heap := by
  have hta : ∀ w ∈ lw_all, w.before #[Value.ref b] s = true := fun w h => hts w (List.mem_filter.mp h).1
  have hA : ∀ a : Nat, a < s.heap.size → ¬ (fun q : Nat => s.heap.size ≤ q) a := fun a h => Nat.not_le.mpr h
  obtain ⟨c0, i0, hk0⟩ := u_known (C := RX0) (T := TX0) (N := 2) (n := 2) hta ku_0 (hta _ kw_51)
  obtain ⟨c1, i1, hk1⟩ := u_known (C := RX1) (T := TX1) (N := 4) (n := 4) hta ku_1 (hta _ kw_57)
  obtain ⟨c2, i2, hk2⟩ := u_known (C := RX4) (T := TX4) (N := 1) (n := 1) hta ku_4 (hta _ kw_14)
  obtain ⟨c3, i3, hk3⟩ := u_known (C := RX5) (T := TX5) (N := 8) (n := 8) hta ku_5 (hta _ kw_22)
  obtain ⟨c4, i4, hk4⟩ := u_known (C := RX6) (T := TX6) (N := 5) (n := 5) hta ku_6 (hta _ kw_18)
  obtain ⟨c5, i5, hk5⟩ := u_known (C := RX7) (T := TX7) (N := 1) (n := 1) hta ku_7 (hta _ kw_48)
  obtain ⟨c6, i6, hk6⟩ := u_known (C := RX8) (T := TX8) (N := 4) (n := 4) hta ku_8 (hta _ kw_61)
  obtain ⟨c7, i7, hk7⟩ := u_known (C := RX9) (T := TX9) (N := 2) (n := 2) hta ku_9 (hta _ kw_54)
  obtain ⟨c8, i8, hk8⟩ := u_known (C := RX10) (T := TX10) (N := 3) (n := 3) hta ku_10 (hta _ kw_1)
  obtain ⟨c9, i9, hk9⟩ := u_known (C := RX11) (T := TX11) (N := 14) (n := 14) hta ku_11 (hta _ kw_4)
  obtain ⟨d0, ha0, hr0⟩ := st_arr (ty := .int) (hta _ kw_30) (fun _ h => h)
  obtain ⟨d1, ha1, hr1⟩ := st_arr (ty := .boolean) (hta _ kw_110) (fun _ h => h)
  obtain ⟨d2, ha2, hr2⟩ := st_arr (ty := .long) (hta _ kw_6) (fun _ h => h)
  obtain ⟨t0, ht0⟩ := st_tab (C := RX6) (n := "PLACES") (N := 96) (f := tPL) (by decide) (hts _ st_ls0) (hta _ kw_19) (st_at hgv st_ar0) (st_at hgv st_le0) (fun j hj => st_at hgv (st_el0 j hj)) hA
  obtain ⟨t1, ht1⟩ := st_tab (C := RX3) (n := "MODES") (N := 6) (f := tMO) (by decide) (hts _ st_ls1) (hta _ kw_696) (st_at hgv st_ar1) (st_at hgv st_le1) (fun j hj => st_at hgv (st_el1 j hj)) hA
  obtain ⟨t2, ht2⟩ := st_tab (C := RX3) (n := "VECTORS") (N := 6) (f := tVE) (by decide) (hts _ st_ls2) (hta _ kw_696) (st_at hgv st_ar2) (st_at hgv st_le2) (fun j hj => st_at hgv (st_el2 j hj)) hA
  obtain ⟨t3, ht3⟩ := st_tab (C := RX8) (n := "KINDS_BY_REGISTER") (N := 8) (f := tKI) (by decide) (hts _ st_ls3) (hta _ kw_62) (st_at hgv st_ar3) (st_at hgv st_le3) (fun j hj => st_at hgv (st_el3 j hj)) hA
  obtain ⟨s0, hs0⟩ := st_txt (st_fc hk8) (hts _ st_s73)
  obtain ⟨s1, hs1⟩ := st_txt (st_fc hk8) (hts _ st_s86)
  obtain ⟨s2, hs2⟩ := st_txt (st_fc hk8) (hts _ st_s96)
  obtain ⟨s3, hs3⟩ := st_txt (st_fc hk8) (hts _ st_s104)
  obtain ⟨s4, hs4⟩ := st_txt (st_fc hk8) (hts _ st_s112)
  obtain ⟨s5, hs5⟩ := st_txt (st_fc hk8) (hts _ st_s118)
  obtain ⟨s6, hs6⟩ := st_txt (st_fc hk8) (hts _ st_s120)
  obtain ⟨s7, hs7⟩ := st_txt (st_fc hk8) (hts _ st_s122)
  refine ⟨(fun k => match k with | 0 => c0 | 1 => c1 | 2 => c2 | 3 => c3 | 4 => c4 | 5 => c5 | 6 => c6 | 7 => c7 | 8 => c8 | _ => c9, fun k => match k with | 0 => i0 | 1 => i1 | 2 => i2 | 3 => i3 | 4 => i4 | 5 => i5 | 6 => i6 | 7 => i7 | 8 => i8 | _ => i9), (d0, d1, d2), fun k => match k with | 0 => t0 | 1 => t1 | 2 => t2 | 3 => t3 | 4 => s0 | 5 => s1 | 6 => s2 | 7 => s3 | 8 => s4 | 9 => s5 | 10 => s6 | _ => s7, ⟨?_, ?_⟩, ?_⟩
  · intro k q hq
    match k, hq with
    | 0, hq => cases hq; exact hk0
    | 1, hq => cases hq; exact hk1
    | 2, hq => cases hq; exact hk2
    | 3, hq => cases hq; exact hk3
    | 4, hq => cases hq; exact hk4
    | 5, hq => cases hq; exact hk5
    | 6, hq => cases hq; exact hk6
    | 7, hq => cases hq; exact hk7
    | 8, hq => cases hq; exact hk8
    | 9, hq => cases hq; exact hk9
    | k + 10, hq => exact absurd hq (by rw [List.getElem?_eq_none (Nat.le_add_left 10 k)]; exact fun h => by cases h)
  · intro k q hq
    match k, hq with
    | 0, hq => cases hq; exact ⟨ha0, hr0⟩
    | 1, hq => cases hq; exact ⟨ha1, hr1⟩
    | 2, hq => cases hq; exact ⟨ha2, hr2⟩
    | k + 3, hq => exact absurd hq (by rw [List.getElem?_eq_none (Nat.le_add_left 3 k)]; exact fun h => by cases h)
  · intro a
    refine ⟨⟨⟨ht0, ht1, ht2, ht3⟩, ⟨vx_Zqof (hts _ st_lr0) (hts _ st_ini) (st_at hgv st_rf0) hA, vx_Zqof (hts _ st_lr1) (hts _ st_ini) (st_at hgv st_rf1) hA⟩, hs0, hs1, hs2, hs3, hs4, hs5, hs6, hs7⟩, fun w hw => va_tabs (xB_ot w hw) rfl (hts _ (st_xB w hw)), va_Nc.of (st_at hgv st_nc)⟩
