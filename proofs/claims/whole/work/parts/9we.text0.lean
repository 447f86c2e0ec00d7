/-! ===== what a text is, by its tokens ===== -/
/-- fault, token -/
def fgE (tk nu : Nat → Int) (lo hi : Int) (k : Nat) : Int × Nat := if tk k = 38 then (if lo ≤ nu k ∧ nu k ≤ hi then (0, k + 1) else (2, k)) else (1, k)
def xpE (tk : Nat → Int) (t : Int) (r : Int × Nat) : Int × Nat := if r.1 = 0 then (if tk r.2 = t then (0, r.2 + 1) else (1, r.2)) else r
def ahE (tk nu : Nat → Int) (lo hi : Int) (k : Nat) : Int × Nat := if (xpE tk 8 (fgE tk nu lo hi k)).1 = 0 then fgE tk nu 0 7 (xpE tk 8 (fgE tk nu lo hi k)).2 else xpE tk 8 (fgE tk nu lo hi k)
noncomputable def lwE (tk nu : Nat → Int) (a : Int) (k : Nat) : rE := (lev tk nu a 8).2.1 k
/-- the body of a clause of sort a -/
noncomputable def boE (tk nu : Nat → Int) (a : Int) (k : Nat) : Int × Nat := if a = 2 then fgE tk nu 0 7 k else if a = 3 then ahE tk nu 0 40 k else if a = 4 then ahE tk nu 1 20 k else if a = 5 then fgE tk nu 0 7 k else if a = 6 then (0, k) else if a = 7 then fgE tk nu 1 60 k else ((lwE tk nu a k).1, (lwE tk nu a k).2.1)
noncomputable def clE (tk nu : Nat → Int) (a : Int) (k : Nat) : Int × Nat := xpE tk 35 (boE tk nu a k)
/-- the clause of sort a among those that begin at cs: its token and one, 0: none -/
def lwK (tk : Nat → Int) (a : Int) : List Nat → Nat
  | [] => 0
  | k :: cs => if tk k = a then k + 1 else lwK tk a cs
/-- what comes of the next clause: fault, token -/
noncomputable def oneE (tk nu : Nat → Int) (k : Nat) (cs : List Nat) : Int × Nat := if 7 < tk k then (1, k) else if tk k ≤ 1 ∧ lwK tk (tk k) cs ≠ 0 then (4, k) else if 24 ≤ cs.length then (6, k) else clE tk nu (tk k) (k + 1)
/-- the clauses from token k on: fault, token, where the clauses begin (the last first) -/
noncomputable def txE (tk nu : Nat → Int) : Nat → Nat → List Nat → Int × Nat × List Nat
  | 0, k, cs => (0, k, cs)
  | f + 1, k, cs => if tk k = 39 then (0, k, cs) else if (oneE tk nu k cs).1 = 0 then txE tk nu f (oneE tk nu k cs).2 (k :: cs) else ((oneE tk nu k cs).1, (oneE tk nu k cs).2, cs)
theorem fg_ok {tk nu : Nat → Int} {lo hi : Int} {k n : Nat} (h39 : tk n = 39) (hk : k ≤ n) : (0 ≤ (fgE tk nu lo hi k).1 ∧ (fgE tk nu lo hi k).1 ≤ 5) ∧ (fgE tk nu lo hi k).2 ≤ n ∧ k ≤ (fgE tk nu lo hi k).2 ∧ ((fgE tk nu lo hi k).1 = 0 → (fgE tk nu lo hi k).2 = k + 1) := by
  unfold fgE
  by_cases q : tk k = 38
  · have hlt := lt_tk h39 hk q (by decide)
    rw [if_pos q]
    split
    · exact ⟨⟨Int.le_refl 0, show (0 : Int) ≤ 5 by decide⟩, hlt, Nat.le_succ k, fun _ => rfl⟩
    · exact ⟨⟨show (0 : Int) ≤ 2 by decide, show (2 : Int) ≤ 5 by decide⟩, hk, Nat.le_refl k, fun z => absurd z (show ¬ (2 : Int) = 0 by decide)⟩
  · rw [if_neg q]
    exact ⟨⟨show (0 : Int) ≤ 1 by decide, show (1 : Int) ≤ 5 by decide⟩, hk, Nat.le_refl k, fun z => absurd z (show ¬ (1 : Int) = 0 by decide)⟩
theorem xp_ok {tk : Nat → Int} {t : Int} {r : Int × Nat} {n : Nat} (h39 : tk n = 39) (ht : t ≠ 39) (hr : 0 ≤ r.1 ∧ r.1 ≤ 5) (hk : r.2 ≤ n) : (0 ≤ (xpE tk t r).1 ∧ (xpE tk t r).1 ≤ 5) ∧ (xpE tk t r).2 ≤ n ∧ r.2 ≤ (xpE tk t r).2 ∧ ((xpE tk t r).1 = 0 → r.1 = 0 ∧ (xpE tk t r).2 = r.2 + 1 ∧ tk r.2 = t) := by
  unfold xpE
  by_cases q : r.1 = 0
  · rw [if_pos q]
    by_cases q2 : tk r.2 = t
    · have hlt := lt_tk h39 hk q2 ht
      rw [if_pos q2]
      exact ⟨⟨Int.le_refl 0, show (0 : Int) ≤ 5 by decide⟩, hlt, Nat.le_succ r.2, fun _ => ⟨q, rfl, q2⟩⟩
    · rw [if_neg q2]
      exact ⟨⟨show (0 : Int) ≤ 1 by decide, show (1 : Int) ≤ 5 by decide⟩, hk, Nat.le_refl _, fun z => absurd z (show ¬ (1 : Int) = 0 by decide)⟩
  · rw [if_neg q]
    exact ⟨hr, hk, Nat.le_refl _, fun z => absurd z q⟩
theorem ah_ok {tk nu : Nat → Int} {lo hi : Int} {k n : Nat} (h39 : tk n = 39) (hk : k ≤ n) : (0 ≤ (ahE tk nu lo hi k).1 ∧ (ahE tk nu lo hi k).1 ≤ 5) ∧ (ahE tk nu lo hi k).2 ≤ n ∧ k ≤ (ahE tk nu lo hi k).2 ∧ ((ahE tk nu lo hi k).1 = 0 → (ahE tk nu lo hi k).2 = k + 3 ∧ (fgE tk nu lo hi k).1 = 0 ∧ (fgE tk nu 0 7 (k + 2)).1 = 0) := by
  have f := fg_ok (nu := nu) (lo := lo) (hi := hi) h39 hk
  have x := xp_ok (t := 8) h39 (by decide) f.1 f.2.1
  unfold ahE
  by_cases q : (xpE tk 8 (fgE tk nu lo hi k)).1 = 0
  · rw [if_pos q]
    obtain ⟨x1, x2, x3, x4⟩ := x
    have y := x4 q
    have z := f.2.2.2 y.1
    have e2 : (xpE tk 8 (fgE tk nu lo hi k)).2 = k + 2 := by omega
    rw [e2] at x2 ⊢
    have g := fg_ok (nu := nu) (lo := 0) (hi := 7) h39 x2
    exact ⟨g.1, g.2.1, by have := g.2.2.1; omega, fun w => ⟨by have := g.2.2.2 w; omega, y.1, w⟩⟩
  · rw [if_neg q]
    exact ⟨x.1, x.2.1, by have := x.2.2.1; have := f.2.2.1; omega, fun w => absurd w q⟩
theorem fg_in {tk nu : Nat → Int} {lo hi : Int} {k : Nat} (h : (fgE tk nu lo hi k).1 = 0) : lo ≤ nu k ∧ nu k ≤ hi := by
  unfold fgE at h
  by_cases q : tk k = 38
  · rw [if_pos q] at h
    by_cases q2 : lo ≤ nu k ∧ nu k ≤ hi
    · exact q2
    · rw [if_neg q2] at h; exact absurd h (show ¬ (2 : Int) = 0 by decide)
  · rw [if_neg q] at h; exact absurd h (show ¬ (1 : Int) = 0 by decide)
theorem lw_ok {tk nu : Nat → Int} {a : Int} {k n : Nat} (hn : n ≤ 300) (h39 : tk n = 39) (hnu : ∀ k, 0 ≤ nu k) (hk : k ≤ n) : (0 ≤ (lwE tk nu a k).1 ∧ (lwE tk nu a k).1 ≤ 5) ∧ (lwE tk nu a k).2.1 ≤ n ∧ k ≤ (lwE tk nu a k).2.1 ∧ ((lwE tk nu a k).1 = 0 → k < (lwE tk nu a k).2.1) := by
  have h := (okL_lev tk nu a 8).2.1 k
  have q := (sim_sum0 (so := a) (D := []) hn h39 hnu hk (by show 0 + (n - k) ≤ 300; omega) rfl).1
  exact ⟨h.2.1, q, h.1.1, h.1.2⟩
theorem bo_ok {tk nu : Nat → Int} {a : Int} {k n : Nat} (hn : n ≤ 300) (h39 : tk n = 39) (hnu : ∀ k, 0 ≤ nu k) (hk : k ≤ n) : (0 ≤ (boE tk nu a k).1 ∧ (boE tk nu a k).1 ≤ 5) ∧ (boE tk nu a k).2 ≤ n ∧ k ≤ (boE tk nu a k).2 := by
  have f := fun lo hi => fg_ok (nu := nu) (lo := lo) (hi := hi) h39 hk
  have g := fun lo hi => ah_ok (nu := nu) (lo := lo) (hi := hi) h39 hk
  have l := lw_ok (a := a) hn h39 hnu hk
  unfold boE
  repeat' split
  all_goals first | exact ⟨(f _ _).1, (f _ _).2.1, (f _ _).2.2.1⟩ | exact ⟨(g _ _).1, (g _ _).2.1, (g _ _).2.2.1⟩ | exact ⟨l.1, l.2.1, l.2.2.1⟩ | exact ⟨⟨Int.le_refl 0, show (0 : Int) ≤ 5 by decide⟩, hk, Nat.le_refl _⟩
theorem cl_ok {tk nu : Nat → Int} {a : Int} {k n : Nat} (hn : n ≤ 300) (h39 : tk n = 39) (hnu : ∀ k, 0 ≤ nu k) (hk : k ≤ n) : (0 ≤ (clE tk nu a k).1 ∧ (clE tk nu a k).1 ≤ 5) ∧ (clE tk nu a k).2 ≤ n ∧ k ≤ (clE tk nu a k).2 ∧ ((clE tk nu a k).1 = 0 → (boE tk nu a k).1 = 0 ∧ (clE tk nu a k).2 = (boE tk nu a k).2 + 1 ∧ tk (boE tk nu a k).2 = 35) := by
  have b := bo_ok (a := a) hn h39 hnu hk
  have x := xp_ok (t := 35) h39 (by decide) b.1 b.2.1
  exact ⟨x.1, x.2.1, Nat.le_trans b.2.2 x.2.2.1, x.2.2.2⟩
theorem one_ok {tk nu : Nat → Int} {k n : Nat} (hn : n ≤ 300) (h39 : tk n = 39) (hnu : ∀ k, 0 ≤ nu k) (hk : k < n) (cs : List Nat) : (0 ≤ (oneE tk nu k cs).1 ∧ (oneE tk nu k cs).1 ≤ 6) ∧ (oneE tk nu k cs).2 ≤ n ∧ k ≤ (oneE tk nu k cs).2 ∧ ((oneE tk nu k cs).1 = 0 → k < (oneE tk nu k cs).2) := by
  have c := cl_ok (a := tk k) hn h39 hnu (show k + 1 ≤ n from hk)
  unfold oneE
  split
  · exact ⟨⟨show (0 : Int) ≤ 1 by decide, show (1 : Int) ≤ 6 by decide⟩, Nat.le_of_lt hk, Nat.le_refl _, fun z => absurd z (show ¬ (1 : Int) = 0 by decide)⟩
  split
  · exact ⟨⟨show (0 : Int) ≤ 4 by decide, show (4 : Int) ≤ 6 by decide⟩, Nat.le_of_lt hk, Nat.le_refl _, fun z => absurd z (show ¬ (4 : Int) = 0 by decide)⟩
  split
  · exact ⟨⟨show (0 : Int) ≤ 6 by decide, Int.le_refl 6⟩, Nat.le_of_lt hk, Nat.le_refl _, fun z => absurd z (show ¬ (6 : Int) = 0 by decide)⟩
  · exact ⟨⟨c.1.1, by have := c.1.2; omega⟩, c.2.1, by have := c.2.2.1; omega, fun _ => by have := c.2.2.1; omega⟩
/-! ===== the model's text: clauses, pieces of code ===== -/
theorem mRun_s (A nm T : Nat → Int) (c : Nat) : ∀ (m i : Nat) (X : mX), mRun A nm T c (m + 1) i X = mEs A nm (T (c + 2 * (i + m))) (T (c + 2 * (i + m) + 1)) (mRun A nm T c m i X) := by
  intro m
  induction m with
  | zero => intro i X; rfl
  | succ m ih =>
    intro i X
    rw [mRun, ih (i + 1), show i + 1 + m = i + (m + 1) by omega]
    rfl
theorem mSafe_s (A nm T : Nat → Int) (c : Nat) : ∀ (m i : Nat) (X : mX), mSafe A nm T c m i X → mOk nm (T (c + 2 * (i + m))) (T (c + 2 * (i + m) + 1)) (mRun A nm T c m i X) → mSafe A nm T c (m + 1) i X := by
  intro m
  induction m with
  | zero => intro i X _ h; exact ⟨h, trivial⟩
  | succ m ih =>
    intro i X h h2
    refine ⟨h.1, ih (i + 1) _ h.2 ?_⟩
    rw [show i + 1 + m = i + (m + 1) by omega]
    exact h2
theorem dR_tl {T : Nat → Int} {c : Nat} : ∀ {G D : List (Int × Int)}, dR T c (G ++ D) → dR T c D := by
  intro G
  induction G with
  | nil => intro D h; exact h
  | cons x G ih => intro D h; exact ih h.2
theorem dR_run {A nm T : Nat → Int} {c : Nat} {D0 : List (Int × Int)} : ∀ {E : List (Int × Int)}, dR T c (E ++ D0) → ∀ X : mX, mRun A nm T c E.length D0.length X = mRr A nm E X ∧ (mSr A nm E X → mSafe A nm T c E.length D0.length X) := by
  intro E
  induction E with
  | nil => intro _ X; exact ⟨rfl, fun _ => trivial⟩
  | cons x E ih =>
    intro h X
    obtain ⟨⟨h1, h2⟩, h3⟩ := h
    have h1 : T (c + 2 * (E ++ D0).length) = x.1 := h1
    have h2 : T (c + 2 * (E ++ D0).length + 1) = x.2 := h2
    rw [List.length_append, Nat.add_comm E.length] at h1 h2
    obtain ⟨q1, q2⟩ := ih h3 X
    refine ⟨?_, fun s => ?_⟩
    · rw [List.length_cons, mRun_s, h1, h2, q1]
      rfl
    · rw [List.length_cons]
      refine mSafe_s A nm T c _ _ X (q2 s.1) ?_
      rw [h1, h2, q1]
      exact s.2
/-- the code from i0 to je says f -/
def lwM (D : List (Int × Int)) (i0 je : Nat) (f : vF) : Prop := ∃ G E D0, D = G ++ (E ++ D0) ∧ D0.length = i0 ∧ E.length + i0 = je ∧ mPv E f
theorem lwM_app {D : List (Int × Int)} {i0 je : Nat} {f : vF} (h : lwM D i0 je f) (X : List (Int × Int)) : lwM (X ++ D) i0 je f := by
  obtain ⟨G, E, D0, e, h⟩ := h
  exact ⟨X ++ G, E, D0, by rw [e, List.append_assoc], h⟩
theorem lwM_len {D : List (Int × Int)} {i0 je : Nat} {f : vF} (h : lwM D i0 je f) : i0 ≤ je ∧ je ≤ D.length := by
  obtain ⟨G, E, D0, e, h1, h2, -⟩ := h
  rw [e, List.length_append, List.length_append]
  omega
/-- a clause of the model's row, at x, that begins at token k -/
def clM (tk nu T : Nat → Int) (D : List (Int × Int)) (x k : Nat) : Prop := T x = tk k ∧ (2 ≤ tk k → tk k ≠ 6 → T (x + 1) = nu (k + 1)) ∧ (tk k = 3 ∨ tk k = 4 → T (x + 2) = nu (k + 3)) ∧ (tk k ≤ 1 → ∃ i0 je, T (x + 1) = ((i0 : Nat) : Int) ∧ T (x + 2) = ((je : Nat) : Int) ∧ lwM D i0 je (lwE tk nu (tk k) (k + 1)).2.2.1)
def clsM (tk nu T : Nat → Int) (D : List (Int × Int)) (tx : Nat) : List Nat → Prop
  | [] => True
  | k :: cs => clM tk nu T D (681 * tx + 1 + 3 * cs.length) k ∧ clsM tk nu T D tx cs
theorem clsM_up {tk nu T T' : Nat → Int} {D D' : List (Int × Int)} {tx : Nat} (X : List (Int × Int)) (hD : D' = X ++ D) : ∀ {cs : List Nat}, clsM tk nu T D tx cs → (∀ i, 681 * tx < i → i < 681 * tx + 1 + 3 * cs.length → T' i = T i) → clsM tk nu T' D' tx cs := by
  intro cs
  induction cs with
  | nil => intro _ _; trivial
  | cons k cs ih =>
    intro h e
    rw [List.length_cons] at e
    obtain ⟨⟨h1, h2, h3, h4⟩, h5⟩ := h
    refine ⟨⟨?_, ?_, ?_, ?_⟩, ih h5 (fun i a b => e i a (by omega))⟩
    · rw [e _ (by omega) (by omega)]; exact h1
    · rw [e _ (by omega) (by omega)]; exact h2
    · rw [e _ (by omega) (by omega)]; exact h3
    · rw [e _ (by omega) (by omega), e _ (by omega) (by omega)]
      intro q
      obtain ⟨i0, je, a, b, c⟩ := h4 q
      exact ⟨i0, je, a, b, by rw [hD]; exact lwM_app c X⟩
