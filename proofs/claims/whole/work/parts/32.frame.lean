/-! worlds side by side, worlds in another order: contracts over a part are contracts over the whole -/
section FRM
variable {D : va_G} {cl : List vw_C} {tys : List (ClassId × FieldType)} {l : Launch} {y : MethodName} {ws : List Cond} {rm : Room} {Z : (Nat → Prop) → State → Heap → Prop} {av : List Value}
theorem fr_l {wr wc : va_W} {i : Nat} {q : Nat × va_E} (h : wr[i]? = some q) : (wr ++ wc)[i]? = some q := by
  rw [List.getElem?_append_left (List.getElem?_eq_some_iff.mp h).1]; exact h
theorem fr_r {wr wc : va_W} {i : Nat} {q : Nat × va_E} (h : wc[i]? = some q) : (wr ++ wc)[wr.length + i]? = some q := by
  rw [List.getElem?_append_right (Nat.le_add_right _ _), Nat.add_sub_cancel_left]; exact h
theorem fr_lr {wr wc : va_W} {i : Nat} {q : Nat × va_E} (h : (wr ++ wc)[i]? = some q) : (i < wr.length ∧ wr[i]? = some q) ∨ (wr.length ≤ i ∧ wc[i - wr.length]? = some q) := by
  rcases Nat.lt_or_ge i wr.length with c | c
  · rw [List.getElem?_append_left c] at h; exact Or.inl ⟨c, h⟩
  · rw [List.getElem?_append_right c] at h; exact Or.inr ⟨c, h⟩
theorem fr_P {wr wc : va_W} {H : Heap} (h : va_P D cl (wr ++ wc) H) : va_P D cl wr H ∧ va_P D cl wc H := ⟨fun k q hk => h k q (fr_l hk), fun k q hk => h _ q (fr_r hk)⟩
theorem fr_D {A : Nat → Prop} {wr wc : va_W} (h : va_D A (wr ++ wc)) : va_D A wr ∧ va_D A wc := ⟨⟨fun i j p q hp hq e => h.1 i j p q (fr_l hp) (fr_l hq) e, fun k q hk => h.2 k q (fr_l hk)⟩, ⟨fun i j p q hp hq e => by have := h.1 _ _ p q (fr_r hp) (fr_r hq) e; omega, fun k q hk => h.2 _ q (fr_r hk)⟩⟩
theorem fr_A {wr wc : va_W} {sz q : Nat} (h : va_A wc sz q) : va_A (wr ++ wc) sz q := by
  rcases h with ⟨k, e, h⟩ | h
  · exact Or.inl ⟨_, e, fr_r h⟩
  · exact Or.inr h
theorem fr_dis {A : Nat → Prop} {wr wc : va_W} {H : Heap} (hP : va_P D cl (wr ++ wc) H) (hD : va_D A (wr ++ wc)) {k : Nat} {q : Nat × va_E} (hk : wr[k]? = some q) : q.1 < H.size ∧ ¬ va_A wc H.size q.1 := by
  have hlt := (hP k q (fr_l hk)).lt
  refine ⟨hlt, fun h => ?_⟩
  rcases h with ⟨j, e, hj⟩ | h
  · have := hD.1 _ _ q (q.1, e) (fr_l hk) (fr_r hj) rfl
    have := (List.getElem?_eq_some_iff.mp hk).1
    omega
  · omega
theorem fr_back {A : Nat → Prop} {wr wc w1 : va_W} {H H1 : Heap} (hP : va_P D cl (wr ++ wc) H) (hD : va_D A (wr ++ wc)) (hk : ∀ q : Nat, q < H.size → ¬ va_A wc H.size q → H1[q]? = H[q]?) (hP1 : va_P D cl w1 H1) (hD1 : va_D (va_A wc H.size) w1) : va_P D cl (wr ++ w1) H1 ∧ va_D (va_A (wr ++ wc) H.size) (wr ++ w1) := by
  refine ⟨fun k q h => ?_, fun i j p q hp hq e => ?_, fun k q h => ?_⟩
  · rcases fr_lr h with ⟨c, h⟩ | ⟨c, h⟩
    · have hd := fr_dis hP hD h
      exact (hP k q (fr_l h)).kept (hk _ hd.1 hd.2)
    · exact hP1 _ q h
  · rcases fr_lr hp with ⟨c1, h1⟩ | ⟨c1, h1⟩ <;> rcases fr_lr hq with ⟨c2, h2⟩ | ⟨c2, h2⟩
    · exact hD.1 i j p q (fr_l h1) (fr_l h2) e
    · exact absurd (by rw [e]; exact hD1.2 _ q h2) (fr_dis hP hD h1).2
    · exact absurd (by rw [← e]; exact hD1.2 _ p h1) (fr_dis hP hD h2).2
    · have := hD1.1 _ _ p q h1 h2 e; omega
  · rcases fr_lr h with ⟨c, h⟩ | ⟨c, h⟩
    · exact Or.inl ⟨k, q.2, fr_l h⟩
    · exact fr_A (hD1.2 _ q h)
theorem pm_P {w1 w2 : va_W} {H : Heap} (hp : w1.Perm w2) (h : va_P D cl w1 H) : va_P D cl w2 H := fun k q hk => by
  obtain ⟨i, hi⟩ := List.mem_iff_getElem?.mp (hp.mem_iff.mpr (List.mem_of_getElem? hk))
  exact h i q hi
theorem nd_D {A : Nat → Prop} {w : va_W} : va_D A w ↔ (w.map (fun q => q.1)).Nodup ∧ ∀ q ∈ w, A q.1 := by
  constructor
  · intro h
    refine ⟨?_, fun q hq => ?_⟩
    · unfold List.Nodup
      rw [List.pairwise_iff_getElem]
      intro i j hi hj hij e
      rw [List.length_map] at hi hj
      rw [List.getElem_map, List.getElem_map] at e
      have := h.1 i j _ _ (List.getElem?_eq_getElem hi) (List.getElem?_eq_getElem hj) e
      omega
    · obtain ⟨i, hi⟩ := List.mem_iff_getElem?.mp hq
      exact h.2 i q hi
  · intro h
    refine ⟨fun i j p q hp hq e => ?_, fun k q hk => h.2 q (List.mem_of_getElem? hk)⟩
    have hn := h.1
    unfold List.Nodup at hn
    rw [List.pairwise_iff_getElem] at hn
    obtain ⟨hi, ei⟩ := List.getElem?_eq_some_iff.mp hp
    obtain ⟨hj, ej⟩ := List.getElem?_eq_some_iff.mp hq
    rcases Nat.lt_trichotomy i j with c | c | c
    · exact absurd (by rw [List.getElem_map, List.getElem_map, ei, ej]; exact e) (hn i j (by rw [List.length_map]; exact hi) (by rw [List.length_map]; exact hj) c)
    · exact c
    · exact absurd (by rw [List.getElem_map, List.getElem_map, ei, ej]; exact e.symm) (hn j i (by rw [List.length_map]; exact hj) (by rw [List.length_map]; exact hi) c)
theorem pm_D {A : Nat → Prop} {w1 w2 : va_W} (hp : w1.Perm w2) (h : va_D A w1) : va_D A w2 := by
  rw [nd_D] at h ⊢
  exact ⟨(hp.map _).nodup_iff.mp h.1, fun q hq => h.2 q (hp.mem_iff.mpr hq)⟩
theorem pm_A {w1 w2 : va_W} (hp : w1.Perm w2) {sz q : Nat} (h : va_A w1 sz q) : va_A w2 sz q := by
  rcases h with ⟨k, e, h⟩ | h
  · obtain ⟨i, hi⟩ := List.mem_iff_getElem?.mp (hp.mem_iff.mp (List.mem_of_getElem? h))
    exact Or.inl ⟨i, e, hi⟩
  · exact Or.inr h
/-- a contract with an answer and a new state, that may make mc cells -/
def KM {S : Type} (mc ms : Nat) (l : Launch) (y : MethodName) (ws : List Cond) (rm : Room) (D : va_G) (cl : List vw_C) (tys : List (ClassId × FieldType)) (Z : (Nat → Prop) → State → Heap → Prop) (w : S → va_W) (av : List Value) (σ : S) (q : Int32 × S) : Prop :=
  ∀ sz : Nat, Met l y ws rm (va_Pc av (kc_Pre D cl tys Z w σ sz)) (va_Qi (fun r1 u1 => r1 = q.1 ∧ u1 = q.2) (kc_Post D cl tys w σ sz) (va_A (w σ) sz)) mc ms (va_A (w σ) sz)
theorem fr_pre {S T : Type} {w : S → va_W} {wr : T → va_W} {o : T} {σ : S} {sz : Nat} {U : State} (hZk : kc_Zok Z) (h : kc_Pre D cl tys Z (fun z : T × S => wr z.1 ++ w z.2) (o, σ) sz U) : kc_Pre D cl tys Z w σ sz U := by
  obtain ⟨h1, h2, h3, h4, h5⟩ := h
  exact ⟨h1, (fr_P h2).2, h3, (fr_D h4).2, hZk _ _ U U _ _ h5 (State.WarmedH.refl U) (fun _ _ _ => rfl) (fun q hq => fr_A hq)⟩
theorem fr_post {S T : Type} {w : S → va_W} {wr : T → va_W} {o : T} {σ u : S} {sz : Nat} {U t : State} (h : kc_Pre D cl tys Z (fun z : T × S => wr z.1 ++ w z.2) (o, σ) sz U) (hp : va_P D cl (w u) t.heap ∧ va_K D cl tys t ∧ va_D (va_A (w σ) sz) (w u)) (hF : va_F (va_A (w σ) sz) U t) : (va_P D cl (wr o ++ w u) t.heap ∧ va_K D cl tys t ∧ va_D (va_A (wr o ++ w σ) sz) (wr o ++ w u)) ∧ va_F (va_A (wr o ++ w σ) sz) U t := by
  obtain ⟨h1, h2, h3, h4, h5⟩ := h
  subst h1
  obtain ⟨b1, b2⟩ := fr_back h2 h4 hF.2 hp.1 hp.2.2
  exact ⟨⟨b1, hp.2.1, b2⟩, hF.1, fun q a b => hF.2 q a (fun z => b (fr_A z))⟩
theorem KM_frame {S T : Type} {w : S → va_W} {mc ms : Nat} {σ : S} {q : Int32 × S} (wr : T → va_W) (o : T) (hZk : kc_Zok Z) (h : KM mc ms l y ws rm D cl tys Z w av σ q) : KM mc ms l y ws rm D cl tys Z (fun z : T × S => wr z.1 ++ w z.2) av (o, σ) (q.1, (o, q.2)) := by
  intro sz p e ha hc hk s m args below hf happ hP hK
  obtain ⟨n, oc, h1, h2, h3, ⟨⟨r, u, hr, ⟨rfl, rfl⟩, hB⟩, hF⟩, L, hFE, hL⟩ := h sz p e ha hc hk s m args below hf happ ⟨hP.1, fr_pre hZk hP.2⟩ hK
  obtain ⟨b1, b2⟩ := fr_post hP.2 hB hF
  exact ⟨n, oc, h1, h2, h3, ⟨⟨_, (o, _), hr, ⟨rfl, rfl⟩, b1⟩, b2⟩, L, hFE, fun z hz => fr_A (hL z hz)⟩
theorem KV_frame {S T : Type} {w : S → va_W} {σ q : S} (wr : T → va_W) (o : T) (hZk : kc_Zok Z) (h : KV l y ws rm D cl tys Z w av σ q) : KV l y ws rm D cl tys Z (fun z : T × S => wr z.1 ++ w z.2) av (o, σ) (o, q) := by
  intro sz p e ha hc hk s m args below hf happ hP hK
  obtain ⟨n, oc, h1, h2, h3, ⟨⟨u, hr, rfl, hB⟩, hF⟩, L, hFE, hL⟩ := h sz p e ha hc hk s m args below hf happ ⟨hP.1, fr_pre hZk hP.2⟩ hK
  obtain ⟨b1, b2⟩ := fr_post hP.2 hB hF
  exact ⟨n, oc, h1, h2, h3, ⟨⟨(o, _), hr, rfl, b1⟩, b2⟩, L, hFE, fun z hz => fr_A (hL z hz)⟩
theorem KX_frame {S T : Type} {w : S → va_W} {σ : S} {q : Nat × Int32 × S} (wr : T → va_W) (o : T) (hZk : kc_Zok Z) (h : KX l y ws rm D cl tys Z w av σ q) : KX l y ws rm D cl tys Z (fun z : T × S => wr z.1 ++ w z.2) av (o, σ) (q.1, q.2.1, (o, q.2.2)) := by
  intro sz p e ha hc hk s m args below hf happ hP hK
  obtain ⟨n, oc, h1, h2, h3, hQ⟩ := h sz p e ha hc hk s m args below hf happ ⟨hP.1, fr_pre hZk hP.2⟩ hK
  refine ⟨n, oc, h1, h2, h3, ?_⟩
  rcases hQ with ⟨⟨⟨r, u, hr, ⟨h0, rfl, rfl⟩, hB⟩, hF⟩, L, hFE, hL⟩ | ⟨q9, rfl, E, ce, L, ⟨u, rfl, ⟨hk0, hE, hB⟩, hF⟩, g1, g2, g3, g4, g5, g6⟩
  · obtain ⟨b1, b2⟩ := fr_post hP.2 hB hF
    exact Or.inl ⟨⟨⟨_, (o, _), hr, ⟨h0, rfl, rfl⟩, b1⟩, b2⟩, L, hFE, fun z hz => fr_A (hL z hz)⟩
  · obtain ⟨b1, b2⟩ := fr_post hP.2 hB hF
    exact Or.inr ⟨q9, rfl, E, ce, L, ⟨(o, _), rfl, ⟨hk0, hE, b1⟩, b2⟩, g1, g2, g3, g4, g5, fun z hz => fr_A (g6 z hz)⟩
theorem KXv_frame {S T : Type} {w : S → va_W} {σ : S} {q : Nat × S} (wr : T → va_W) (o : T) (hZk : kc_Zok Z) (h : KXv l y ws rm D cl tys Z w av σ q) : KXv l y ws rm D cl tys Z (fun z : T × S => wr z.1 ++ w z.2) av (o, σ) (q.1, (o, q.2)) := by
  intro sz p e ha hc hk s m args below hf happ hP hK
  obtain ⟨n, oc, h1, h2, h3, hQ⟩ := h sz p e ha hc hk s m args below hf happ ⟨hP.1, fr_pre hZk hP.2⟩ hK
  refine ⟨n, oc, h1, h2, h3, ?_⟩
  rcases hQ with ⟨⟨⟨u, hr, ⟨h0, rfl⟩, hB⟩, hF⟩, L, hFE, hL⟩ | ⟨q9, rfl, E, ce, L, ⟨u, rfl, ⟨hk0, hE, hB⟩, hF⟩, g1, g2, g3, g4, g5, g6⟩
  · obtain ⟨b1, b2⟩ := fr_post hP.2 hB hF
    exact Or.inl ⟨⟨⟨(o, _), hr, ⟨h0, rfl⟩, b1⟩, b2⟩, L, hFE, fun z hz => fr_A (hL z hz)⟩
  · obtain ⟨b1, b2⟩ := fr_post hP.2 hB hF
    exact Or.inr ⟨q9, rfl, E, ce, L, ⟨(o, _), rfl, ⟨hk0, hE, b1⟩, b2⟩, g1, g2, g3, g4, g5, fun z hz => fr_A (g6 z hz)⟩
/-- the same world, said of another state in another order -/
theorem pm_pre {S1 S2 : Type} {w1 : S1 → va_W} {w2 : S2 → va_W} {f : S1 → S2} (hp : ∀ z, (w1 z).Perm (w2 (f z))) {z : S1} {sz : Nat} {U : State} (hZk : kc_Zok Z) (h : kc_Pre D cl tys Z w2 (f z) sz U) : kc_Pre D cl tys Z w1 z sz U := by
  obtain ⟨h1, h2, h3, h4, h5⟩ := h
  exact ⟨h1, pm_P (hp z).symm h2, h3, pm_D (hp z).symm h4, hZk _ _ U U _ _ h5 (State.WarmedH.refl U) (fun _ _ _ => rfl) (fun q hq => pm_A (hp z) hq)⟩
theorem KM_perm {S1 S2 : Type} {w1 : S1 → va_W} {w2 : S2 → va_W} {mc ms : Nat} (f : S1 → S2) (hp : ∀ z, (w1 z).Perm (w2 (f z))) {z : S1} {q : Int32 × S1} (hZk : kc_Zok Z) (h : KM mc ms l y ws rm D cl tys Z w1 av z q) : KM mc ms l y ws rm D cl tys Z w2 av (f z) (q.1, f q.2) := by
  intro sz p e ha hc hk s m args below hf happ hP hK
  obtain ⟨n, oc, h1, h2, h3, ⟨⟨r, u, hr, ⟨rfl, rfl⟩, hB⟩, hF⟩, L, hFE, hL⟩ := h sz p e ha hc hk s m args below hf happ ⟨hP.1, pm_pre hp hZk hP.2⟩ hK
  exact ⟨n, oc, h1, h2, h3, ⟨⟨_, f _, hr, ⟨rfl, rfl⟩, pm_P (hp _) hB.1, hB.2.1, (pm_D (hp _) hB.2.2).weaken (fun _ _ _ h => pm_A (hp z) h)⟩, hF.1, fun q a b => hF.2 q a (fun c => b (pm_A (hp z) c))⟩, L, hFE, fun x hx => pm_A (hp z) (hL x hx)⟩
theorem KV_perm {S1 S2 : Type} {w1 : S1 → va_W} {w2 : S2 → va_W} (f : S1 → S2) (hp : ∀ z, (w1 z).Perm (w2 (f z))) {z q : S1} (hZk : kc_Zok Z) (h : KV l y ws rm D cl tys Z w1 av z q) : KV l y ws rm D cl tys Z w2 av (f z) (f q) := by
  intro sz p e ha hc hk s m args below hf happ hP hK
  obtain ⟨n, oc, h1, h2, h3, ⟨⟨u, hr, rfl, hB⟩, hF⟩, L, hFE, hL⟩ := h sz p e ha hc hk s m args below hf happ ⟨hP.1, pm_pre hp hZk hP.2⟩ hK
  exact ⟨n, oc, h1, h2, h3, ⟨⟨f _, hr, rfl, pm_P (hp _) hB.1, hB.2.1, (pm_D (hp _) hB.2.2).weaken (fun _ _ _ h => pm_A (hp z) h)⟩, hF.1, fun q a b => hF.2 q a (fun c => b (pm_A (hp z) c))⟩, L, hFE, fun x hx => pm_A (hp z) (hL x hx)⟩
/-- statics that say more serve where less is asked -/
theorem KM_Z {S : Type} {w : S → va_W} {mc ms : Nat} {σ : S} {q : Int32 × S} {Z' : (Nat → Prop) → State → Heap → Prop} (hZ : ∀ A U H, Z' A U H → Z A U H) (h : KM mc ms l y ws rm D cl tys Z w av σ q) : KM mc ms l y ws rm D cl tys Z' w av σ q := fun sz p e ha hc hk s m args below hf happ hP hK => h sz p e ha hc hk s m args below hf happ ⟨hP.1, hP.2.1, hP.2.2.1, hP.2.2.2.1, hP.2.2.2.2.1, hZ _ _ _ hP.2.2.2.2.2⟩ hK
theorem KV_Z {S : Type} {w : S → va_W} {σ q : S} {Z' : (Nat → Prop) → State → Heap → Prop} (hZ : ∀ A U H, Z' A U H → Z A U H) (h : KV l y ws rm D cl tys Z w av σ q) : KV l y ws rm D cl tys Z' w av σ q := fun sz p e ha hc hk s m args below hf happ hP hK => h sz p e ha hc hk s m args below hf happ ⟨hP.1, hP.2.1, hP.2.2.1, hP.2.2.2.1, hP.2.2.2.2.1, hZ _ _ _ hP.2.2.2.2.2⟩ hK
end FRM
