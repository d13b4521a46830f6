/-! the law: its world, the contracts in it, call rows that make cells -/
abbrev wLaw (G : KG) : MS × ((Nat → Int64) × CS) → va_W := fun z => mW G z.1 ++ lW G z.2
section LC
variable {l : Launch} {y : MethodName} {ws : List Cond} {rm : Room} {av : List Value} {G : KG}
theorem lc_w {mc ms : Nat} {z : (Nat → Int64) × CS} {q : Int32 × ((Nat → Int64) × CS)} (h : KM mc ms l y ws rm (gD G) vwCl (gT G) (cZX G) (lW G) av z q) (τ : MS) : KM mc ms l y ws rm (gD G) vwCl (gT G) (cZX G) (wLaw G) av (τ, z) (q.1, (τ, q.2)) :=
  KM_frame (mW G) τ cZX_ok h
theorem lc_m {τ : MS} {q : Int32 × MS} (h : KB l y ws rm (gD G) vwCl (gT G) (mZ G) (mW G) av τ q) (z : (Nat → Int64) × CS) : KB l y ws rm (gD G) vwCl (gT G) (cZX G) (wLaw G) av (τ, z) (q.1, (q.2, z)) := by
  have h0 : KM 0 0 l y ws rm (gD G) vwCl (gT G) (cZX G) (mW G) av τ q := KM_Z (Z := mZ G) (fun _ _ _ _ => trivial) h
  have h1 := KM_frame (lW G) z cZX_ok h0
  exact KM_perm (w2 := wLaw G) (fun z : ((Nat → Int64) × CS) × MS => (z.2, z.1)) (fun z => List.perm_append_comm) cZX_ok h1
theorem lc_mv {τ q : MS} (h : KV l y ws rm (gD G) vwCl (gT G) (mZ G) (mW G) av τ q) (z : (Nat → Int64) × CS) : KV l y ws rm (gD G) vwCl (gT G) (cZX G) (wLaw G) av (τ, z) (q, z) := by
  have h0 : KV l y ws rm (gD G) vwCl (gT G) (cZX G) (mW G) av τ q := KV_Z (Z := mZ G) (fun _ _ _ _ => trivial) h
  have h1 := KV_frame (lW G) z cZX_ok h0
  exact KV_perm (w2 := wLaw G) (fun z : ((Nat → Int64) × CS) × MS => (z.2, z.1)) (fun z => List.perm_append_comm) cZX_ok h1
theorem lc_s {σ : CS} {q : Int32 × CS} (h : KB l y ws rm (gD G) vwCl (gT G) (cZ G) (cW G) av σ q) (o : Nat → Int64) (τ : MS) : KB l y ws rm (gD G) vwCl (gT G) (cZX G) (wLaw G) av (τ, (o, σ)) (q.1, (τ, (o, q.2))) := by
  have h0 : KM 0 0 l y ws rm (gD G) vwCl (gT G) (cZX G) (cW G) av σ q := KM_Z (Z := cZ G) (fun _ _ _ h => h.1) h
  have h1 : KM 0 0 l y ws rm (gD G) vwCl (gT G) (cZX G) (lW G) av (o, σ) (q.1, (o, q.2)) := KM_frame (oW G) o cZX_ok h0
  exact lc_w h1 τ
end LC
section LR
variable {p : Program} {l : Launch} {e : Env} {R : Room} {s : State} {m : MethodId} {args : Array Value} {below : List Frame} {meth : Method} {c : Code} {H : Heap} {locs : List Loc} {cells slots : Nat} {Q : State → Prop}
variable {S : Type} {D : va_G} {cl : List vw_C} {tys : List (ClassId × FieldType)} {Z : (Nat → Prop) → State → Heap → Prop} {w : S → va_W} {A : Nat → Prop} {σ : S}
theorem km_after {mc ms : Nat} {pc : Nat} {ls : Array Slot} {st0 rest : List Value} {a : Array Value} {q : Int32 × S} (hr : va_Run p l e R s m args below meth c H locs cells slots mc ms (F0 m pc ls st0) rest (va_Qi (fun r1 u1 => r1 = q.1 ∧ u1 = q.2) (kc_Post D cl tys w σ H.size) (va_A (w σ) H.size) a) (va_A (w σ) H.size)) (hD : va_D A (w σ)) (hS : va_S A s.heap H locs) (hA : ∀ q, s.heap.size ≤ q → A q)
    (kk : ∀ (H1 : Heap) (locs1 : List Loc), va_P D cl (w q.2) H1 → va_D A (w q.2) → va_S A s.heap H1 locs1 → W p l e R s m args below meth c H1 locs1 (cells + mc) (slots + ms) Q (F0 m (pc + 3) ls (.int q.1 :: rest))) : W p l e R s m args below meth c H locs cells slots Q (F0 m pc ls st0) := by
  have hF := kc_free hD hS hA
  refine va_calli hr hS (fun q _ h => hF q h) hF (fun r u t H1 locs1 ht hvm hw hB hz1 hk1 hS1 => ?_)
  obtain ⟨rfl, rfl⟩ := hw
  obtain ⟨hP1, hK1, hD1⟩ := hB
  rw [ht] at hP1
  exact kk H1 locs1 hP1 (hD1.weaken (fun _ _ _ h => hF _ h)) hS1
theorem km_SW {mc ms : Nat} {y : MethodName} {ws1 : List Cond} {rm1 : Room} {bytes cc : ByteArray} {maxL nL n index pc : Nat} {ret : Option FieldType} {hh : List (Nat × Nat × Nat × Nat)} {Ts : List Cond} {own : String} {As rest st0 : List Value} {ls : Array Slot} {q : Int32 × S} (hM : KM mc ms l y ws1 rm1 D cl tys Z w As σ q) (F : CallFix p m c cc nL s args Ts own) (cw : vx_CSW R s args own index y bytes maxL ret hh ws1 rm1 mc ms n) (hZk : kc_Zok Z) (hK : va_K D cl tys s) (hP : va_P D cl (w σ) H) (hD : va_D A (w σ)) (hS : va_S A s.heap H locs) (hA : ∀ q, s.heap.size ≤ q → A q) (hZ : Z A s s.heap) (hn : As.length = n) (hsize : ls.size = nL) (hstack : st0 = As.reverse ++ rest) (hroom : (rest.map fun v => v.category).sum ≤ 8) (hdg : decode cc pc = .ok (.invokestatic index, 3)) (hf : cells + mc ≤ R.cells ∧ slots + ms ≤ R.slots)
    (kk : ∀ (H1 : Heap) (locs1 : List Loc), va_P D cl (w q.2) H1 → va_D A (w q.2) → va_S A s.heap H1 locs1 → W p l e R s m args below meth c H1 locs1 (cells + mc) (slots + ms) Q (F0 m (pc + 3) ls (.int q.1 :: rest))) : W p l e R s m args below meth c H locs cells slots Q (F0 m pc ls st0) :=
  km_after (vx_runSW (g := F0 m pc ls st0) F (hM H.size) cw ⟨kc_blind hZk _ _, fun U hU hW => ⟨rfl, kc_start hZk hK hP hD hS hA hZ U hU hW⟩⟩ rfl hn hsize hstack (lv_room hroom) hdg hf) hD hS hA kk
end LR
theorem gi_SW {own : String} {idx : Nat} {y : MethodName} {wc : Cond} (h1 : Cond.methodLink own idx y ∈ lw_all) (h2 : Cond.static y ∈ lw_all) (h3 : Cond.initialized y.cls ∈ lw_all) (h4 : wc ∈ lw_all) : GoodIn lw_all (va_wsS own idx y (wc :: lw_all)) := lw_gc h1 (lw_gc h2 (lw_gc h3 (lw_gc h4 lw_all_good)))
theorem lg_self (x : Int64) : lg_cmp x x = 0 := by
  unfold lg_cmp
  rw [if_neg (by rw [gt_iff_lt, Int64.lt_iff_toInt_lt]; omega), if_pos rfl]
theorem upL0 (o : Nat → Int64) (v : Int64) : vp_updL o (0 : Int32).toNatClampNeg v (0 : Int32).toNatClampNeg = v := if_pos rfl
/-! what a call of the law comes to -/
def LT (r : Int32 × ((Nat → Int64) × CS)) (pp : Int32 × MS) : Prop := m_thrown pp.2 = r.1 ∧ (r.1 = 0 → r.2.1 (0 : Int32).toNatClampNeg = pp.1.toInt64) ∧ RB r.2.2 pp.2
def LV (r : Int32 × ((Nat → Int64) × CS)) (t : MS) : Prop := m_thrown t = r.1 ∧ RB r.2.2 t
def LZ (r : Int32 × ((Nat → Int64) × CS)) (pp : Bool × MS) : Prop := m_thrown pp.2 = r.1 ∧ (r.1 = 0 → r.2.1 (0 : Int32).toNatClampNeg = (if pp.1 = true then 1 else 0)) ∧ RB r.2.2 pp.2
theorem res_L {o : Nat → Int64} {σ : CS} {q : Nat × Int32 × CS} {pp : Int32 × MS} {k : Int32} (h : Res σ q pp k) : LT (wres o σ q k) pp := by
  unfold LT wres
  rcases h with ⟨e0, et, ev, hR⟩ | ⟨e0, ek, et, hR⟩
  · rw [if_pos e0]
    exact ⟨et, fun _ => by dsimp only; rw [upL0, ev], hR⟩
  · rw [if_neg e0]
    exact ⟨et, fun h => absurd h ek, hR⟩
theorem res_V {o : Nat → Int64} {σ : CS} {q : Nat × CS} {t : MS} {k : Int32} (h : ResV σ q t k) : LV (wresv o σ q k) t := by
  unfold LV wresv
  rcases h with ⟨e0, et, hR⟩ | ⟨e0, ek, et, hR⟩
  · rw [if_pos e0]
    exact ⟨et, hR⟩
  · rw [if_neg e0]
    exact ⟨et, hR⟩
theorem res_Z {o : Nat → Int64} {σ : CS} {q : Nat × Bool × CS} {pp : Bool × MS} {k : Int32} (h : ResZ σ q pp k) : LZ (wresz o σ q k) pp := by
  unfold LZ wresz
  rcases h with ⟨e0, et, ev, hR⟩ | ⟨e0, ek, et, hR⟩
  · rw [if_pos e0]
    exact ⟨et, fun _ => by dsimp only; rw [upL0, ev], hR⟩
  · rw [if_neg e0]
    exact ⟨et, fun h => absurd h ek, hR⟩
