/-! ===== a contract out of a walk; calls ===== -/
/-- the locals at the entry: the arguments at their places, the rest unset -/
def g_ent0 (vs : List Value) : List (Option Value) := match vs with
  | [] => []
  | .long x :: t => some (.long x) :: none :: g_ent0 t
  | .double x :: t => some (.double x) :: none :: g_ent0 t
  | v :: t => some v :: g_ent0 t
def g_ent (n : Nat) (vs : List Value) : List (Option Value) := g_ent0 vs ++ List.replicate (n - (g_ent0 vs).length) none
theorem g_ent0_cons (w : Value) (t : List Value) : g_ent0 (w :: t) = if w.category = 2 then some w :: none :: g_ent0 t else some w :: g_ent0 t := by
  cases w <;> rfl
theorem g_ent0_args (r : Nat → Nat) : ∀ (vs : List Value) (k i : Nat) (v : Value), (g_ent0 vs)[i]? = some (some v) → (k + i, g_tv r v) ∈ lv_args k (vs.map (g_tv r)) := by
  intro vs
  induction vs with
  | nil => intro k i v h; simp [g_ent0] at h
  | cons w t ih =>
    intro k i v h
    rw [g_ent0_cons] at h
    rw [List.map_cons, lv_args, g_tv_cat]
    by_cases c2 : w.category = 2
    · rw [if_pos c2] at h
      rw [if_pos c2]
      match i, h with
      | 0, h =>
        simp only [List.getElem?_cons_zero, Option.some.injEq] at h
        subst h
        exact List.mem_cons_self
      | 1, h => simp at h
      | i + 2, h =>
        refine List.mem_cons_of_mem _ ?_
        have h9 := ih (k + 2) i v (by simpa using h)
        rwa [show k + 2 + i = k + (i + 2) by omega] at h9
    · rw [if_neg c2] at h
      rw [if_neg c2]
      match i, h with
      | 0, h =>
        simp only [List.getElem?_cons_zero, Option.some.injEq] at h
        subst h
        exact List.mem_cons_self
      | i + 1, h =>
        refine List.mem_cons_of_mem _ ?_
        have h9 := ih (k + 1) i v (by simpa using h)
        rwa [show k + 1 + i = k + (i + 1) by omega] at h9
theorem g_ent_L {r : Nat → Nat} {vs : List Value} {n : Nat} (h : (lg_sl (vs.map (g_tv r))).length ≤ n) : g_L r (g_ent n vs) ((lg_sl (vs.map (g_tv r)) ++ List.replicate (n - (lg_sl (vs.map (g_tv r))).length) Slot.unset).toArray) n := by
  obtain ⟨a1, a2, a3⟩ := lv_entry (vs.map (g_tv r)) h
  refine ⟨a1, a2, fun i v hv => ?_⟩
  have hv2 : (g_ent0 vs)[i]? = some (some v) := by
    unfold g_ent at hv
    by_cases hi : i < (g_ent0 vs).length
    · rwa [List.getElem?_append_left hi] at hv
    · rw [List.getElem?_append_right (Nat.not_lt.mp hi), List.getElem?_replicate] at hv
      split at hv <;> cases hv
  have := a3 (i, g_tv r v) (by have := g_ent0_args r vs 0 i v hv2; simpa using this)
  exact this
theorem g_sl_len (r : Nat → Nat) (vs : List Value) : (lg_sl (vs.map (g_tv r))).length = (g_ent0 vs).length := by
  induction vs with
  | nil => rfl
  | cons w t ih =>
    rw [g_ent0_cons]
    have e : lg_sl ((w :: t).map (g_tv r)) = (if (g_tv r w).category = 2 then [Slot.val (g_tv r w), Slot.second] else [Slot.val (g_tv r w)]) ++ lg_sl (t.map (g_tv r)) := by simp [lg_sl]
    rw [e, g_tv_cat, List.length_append, ih]
    by_cases c2 : w.category = 2
    · simp [c2]; omega
    · simp [c2]; omega
/-- no bounds but those that are: a method that makes nothing -/
abbrev g_nb (h : gH) : gB := (h.2.1, h.2.2, h.2.1, h.2.2)
abbrev g_tt : gY := fun _ _ _ => True
/-- a contract out of the walk from the entry -/
theorem gC_of {M : gM} {d : Nat} {avs : List Value} {h : gH} {B1 B2 : Nat} {Q : Option Value → gH → Prop} (hy : plainName M.1.cls = true) (hn : (g_ent0 avs).length ≤ M.2.2.1) (h1 : h.2.1 ≤ B1) (h2 : h.2.2 ≤ B2)
    (k : gE g_tt M d (h.2.1, h.2.2, B1, B2) Q 0 (g_ent M.2.2.1 avs) [] h) : gC M d (h.2.1, h.2.2, B1, B2) avs h Q := by
  intro l D tc r0 sz
  refine Met.ofW (cc := M.2.1) (maxL := M.2.2.1) (ret := M.2.2.2) (ws' := g_W) hy rfl ?_
  intro p e s m args below meth c s₁ B hml hv
  obtain ⟨rfl, hsz, hP, hK, hD, hX⟩ := hv
  subst hsz
  have hts := atoms_spec (ws := g_ws0 M) B.pre
  have hown : s.vm.findClass M.1.cls = some m.cls := findClass_of_methodNamed B.named
  have hnm := (name_of_methodNamed B.named B.method).1
  have hC : g_C M d (h.2.1, h.2.2, B1, B2) p (headSpec (g_ws0 M) { frames := d, cells := B1 - h.2.1, slots := B2 - h.2.2, locals := 64 * d }).room s m (avs.map (g_tv r0)).toArray meth c :=
    ⟨B.exec, B.bytes, B.returns, hml, hown, fun w hw => hts w (List.mem_cons_of_mem _ hw), B.notSynchronized, hnm, Nat.le_refl d, Nat.le_refl (64 * d), (by show B1 ≤ (B1 - h.2.1) + h.2.1; omega), (by show B2 ≤ (B2 - h.2.2) + h.2.2; omega)⟩
  have hR : g_R D tc r0 (va_A (g_ws r0 tc h) s.heap.size) s s.heap [] h := ⟨hK, hP, hD.self, va_S.rf, fun q h9 => Or.inr h9, hX⟩
  have hl : (lg_sl (avs.map (g_tv r0))).length ≤ M.2.2.1 := by rw [g_sl_len]; exact hn
  have w9 := k p l e _ s m _ below meth c D tc r0 _ r0 s.heap [] _ hC hR (g_ent_L hl) (fun _ _ => rfl) (fun _ => rfl) ⟨Nat.le_refl _, Nat.le_refl _, h1, h2⟩ trivial
  rw [lg_entry_eq]
  simpa using w9
/-- a contract for a depth serves any greater one -/
theorem g_frame {D : va_G} {tc r : Nat → Nat} {A : Nat → Prop} {s : State} {H : Heap} {locs : List Loc} {h : gH} (hR : g_R D tc r A s H locs h) : ∀ q, va_A (g_ws r tc h) H.size q → A q := by
  intro q hq
  rcases hq with ⟨k, e, hk⟩ | hq
  · exact hR.2.2.1.2 k (q, e) hk
  · exact hR.2.2.2.2.1 q (Nat.le_trans hR.2.2.2.1.1 hq)
/-- behind a call -/
theorem g_after {p : Program} {l : Launch} {e : Env} {R : Room} {s : State} {m : MethodId} {args : Array Value} {below : List Frame} {meth : Method} {c : Code} {H : Heap} {locs : List Loc} {cells slots mc ms pc : Nat} {ls : Array Slot} {st0 rest : List Value} {a : Array Value} {D : va_G} {tc r : Nat → Nat} {A : Nat → Prop} {h : gH} {b' : gB} {Q' : Option Value → gH → Prop} {Z : State → Prop}
    (hr : va_Run p l e R s m args below meth c H locs cells slots mc ms (F0 m pc ls st0) rest (g_Q D tc r (va_A (g_ws r tc h) H.size) b' Q' a) (va_A (g_ws r tc h) H.size)) (hR : g_R D tc r A s H locs h)
    (kk : ∀ (v : Option Value) (h' : gH) (r' : Nat → Nat) (H1 : Heap) (locs1 : List Loc), Q' v h' → h'.2.1 = b'.2.2.1 → h'.2.2 = b'.2.2.2 → (∀ i, i < b'.1 ∨ 1000000 ≤ i → r' i = r i) → (b'.2.2.1 = b'.1 → r' = r) → va_K D vwCl (g_tys tc) s → va_P D vwCl (g_ws r' tc h') H1 → va_D A (g_ws r' tc h') → va_S A s.heap H1 locs1 →
      W p l e R s m args below meth c H1 locs1 (cells + mc) (slots + ms) Z (F0 m (pc + 3) ls ((v.map (g_tv r')).toList ++ rest))) : W p l e R s m args below meth c H locs cells slots Z (F0 m pc ls st0) := by
  intro T hT X
  obtain ⟨v, st₀, t, T', L, h0, X', hL, e1, e2, ⟨⟨v', h', r', hv, hq, hz1, hz2, hr1, hr2, hP, hK, hD⟩, hz, hk⟩, st⟩ := hr T hT X
  have hv' : v = v'.map (g_tv r') := Outcome.returned.inj hv
  rw [h0] at hz hk
  have hF := g_frame hR
  have hS := hR.2.2.2.1
  rw [← e1] at hP hz hk
  obtain ⟨t2, a1, b1⟩ := kk v' h' r' T'.heap (locs ++ L) hq hz1 hz2 hr1 hr2 hR.1 hP (hD.weaken (fun _ _ _ h9 => hF _ h9))
    ⟨Nat.le_trans hS.1 hz, fun q q1 q2 => by rw [hk q (Nat.lt_of_lt_of_le q1 hS.1) (fun z => q2 (hF q z))]; exact hS.2.1 q q1 q2, fun q hq => by
      rcases List.mem_append.mp hq with h9 | h9
      · exact hS.2.2 q h9
      · exact hF _ (hL q h9)⟩ T' rfl X'
  refine ⟨t2, st t2 ?_, b1⟩
  rw [hv']
  exact a1
/-- what a callee must be: its words, its name, how many arguments it takes -/
def g_ok (M : gM) (n : Nat) : Prop := Cond.code M.1 M.2.1 M.2.2.1 M.2.2.2 ∈ g_W ∧ Cond.initialized M.1.cls ∈ g_W ∧ (M.1.cls ≠ "java/lang/invoke/MethodHandle" ∧ M.1.cls ≠ "java/lang/invoke/VarHandle" ∧ (parseMethodDescriptor M.1.desc).map (fun d => d.parameters.length) = some n) ∧ M.2.2.1 ≤ 45
def g_okV (M : gM) (n : Nat) : Prop := g_ok M n ∧ Cond.instanceMethod M.1 ∈ g_W ∧ Cond.selects M.1.cls M.1 M.1 ∈ g_W
def g_okS (M : gM) (n : Nat) : Prop := g_ok M n ∧ Cond.static M.1 ∈ g_W
def g_okI (M : gM) (n : Nat) : Prop := g_ok M n ∧ Cond.instanceMethod M.1 ∈ g_W ∧ M.1.name = "<init>" ∧ M.2.2.2 = none
theorem g_blind {D : va_G} {tc r : Nat → Nat} {h : gH} {avs : List Value} {sz : Nat} {A : Nat → Prop} : FrameBlind (va_Pc avs (fun U => U.heap.size = sz ∧ va_P D vwCl (g_ws r tc h) U.heap ∧ va_K D vwCl (g_tys tc) U ∧ va_D (fun _ => True) (g_ws r tc h) ∧ g_X r A U U.heap)) := by
  intro a U g mk q
  obtain ⟨q0, q1, qP, qK, qD, qX⟩ := q
  exact ⟨q0, q1, qP, va_K.moved (u := U) (U := U.calling g mk a) (Vm.Alike.refl U.vm) qK, qD, g_X_blind qX rfl rfl⟩
theorem g_pre {D : va_G} {tc r : Nat → Nat} {A : Nat → Prop} {s : State} {H : Heap} {locs : List Loc} {h : gH} (hR : g_R D tc r A s H locs h) (avs : List Value) : ∀ U : State, U.heap = H → s.WarmedH U.vm → va_Pc avs (fun U => U.heap.size = H.size ∧ va_P D vwCl (g_ws r tc h) U.heap ∧ va_K D vwCl (g_tys tc) U ∧ va_D (fun _ => True) (g_ws r tc h) ∧ g_X r (va_A (g_ws r tc h) H.size) U U.heap) avs.toArray U :=
  fun U hU hW => ⟨rfl, by rw [hU], by rw [hU]; exact hR.2.1, va_K.moved hW.alike hR.1, hR.2.2.1.weaken (fun _ _ _ _ => trivial), g_X_enter hR.2.2.2.2.2 hR.2.2.2.1 hU hW (g_frame hR)⟩
