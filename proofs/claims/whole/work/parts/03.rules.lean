theorem g_tv_cat (r : Nat → Nat) (v : Value) : (g_tv r v).category = v.category := by cases v <;> rfl
def g_k2 (o : Option Value) : Option Value := match o with
  | some (.long _) => none
  | some (.double _) => none
  | x => x
def g_st1 (L : List (Option Value)) (i : Nat) (v : Value) : List (Option Value) := match L, i with
  | [], _ => []
  | _ :: t, 0 => some v :: t
  | o :: t, 1 => g_k2 o :: g_st1 t 0 v
  | o :: t, i + 2 => o :: g_st1 t (i + 1) v
def g_st2 (L : List (Option Value)) (i : Nat) (v : Value) : List (Option Value) := match L, i with
  | [], _ => []
  | _ :: _ :: t, 0 => some v :: none :: t
  | [_], 0 => []
  | o :: t, 1 => g_k2 o :: g_st2 t 0 v
  | o :: t, i + 2 => o :: g_st2 t (i + 1) v
theorem g_k2_some {o : Option Value} {v : Value} (h : g_k2 o = some v) : o = some v ∧ v.category = 1 := by
  unfold g_k2 at h
  split at h
  · cases h
  · cases h
  · rename_i n1 n2
    subst h
    refine ⟨rfl, ?_⟩
    cases v <;> first | rfl | exact absurd rfl (n1 _) | exact absurd rfl (n2 _)
theorem g_st1_at {v w : Value} : ∀ {L : List (Option Value)} {i j : Nat}, (g_st1 L i v)[j]? = some (some w) → (j = i ∧ w = v) ∨ (j ≠ i ∧ L[j]? = some (some w) ∧ (j + 1 = i → w.category = 1)) := by
  intro L
  induction L with
  | nil => intro i j h; cases i <;> simp [g_st1] at h
  | cons o t ih =>
    intro i j h
    match i with
    | 0 =>
      cases j with
      | zero => simp [g_st1] at h; exact Or.inl ⟨rfl, h.symm⟩
      | succ j => exact Or.inr ⟨Nat.succ_ne_zero j, by simpa [g_st1] using h, fun e => absurd e (by omega)⟩
    | 1 =>
      cases j with
      | zero =>
        simp only [g_st1, List.getElem?_cons_zero, Option.some.injEq] at h
        obtain ⟨e1, e2⟩ := g_k2_some h
        exact Or.inr ⟨by omega, by simp [e1], fun _ => e2⟩
      | succ j =>
        simp only [g_st1, List.getElem?_cons_succ] at h
        rcases ih h with ⟨e1, e2⟩ | ⟨e1, e2, e3⟩
        · exact Or.inl ⟨by omega, e2⟩
        · exact Or.inr ⟨by omega, by simpa using e2, fun e => e3 (by omega)⟩
    | i + 2 =>
      cases j with
      | zero => exact Or.inr ⟨by omega, by simpa [g_st1] using h, fun e => absurd e (by omega)⟩
      | succ j =>
        simp only [g_st1, List.getElem?_cons_succ] at h
        rcases ih h with ⟨e1, e2⟩ | ⟨e1, e2, e3⟩
        · exact Or.inl ⟨by omega, e2⟩
        · exact Or.inr ⟨by omega, by simpa using e2, fun e => e3 (by omega)⟩
theorem g_st2_at {v w : Value} : ∀ {L : List (Option Value)} {i j : Nat}, (g_st2 L i v)[j]? = some (some w) → (j = i ∧ w = v) ∨ (j ≠ i ∧ j ≠ i + 1 ∧ L[j]? = some (some w) ∧ (j + 1 = i → w.category = 1)) := by
  intro L
  induction L with
  | nil => intro i j h; cases i <;> simp [g_st2] at h
  | cons o t ih =>
    intro i j h
    match i with
    | 0 =>
      cases t with
      | nil => simp [g_st2] at h
      | cons o2 t =>
        match j with
        | 0 => simp [g_st2] at h; exact Or.inl ⟨rfl, h.symm⟩
        | 1 => simp [g_st2] at h
        | j + 2 => exact Or.inr ⟨by omega, by omega, by simpa [g_st2] using h, fun e => absurd e (by omega)⟩
    | 1 =>
      cases j with
      | zero =>
        simp only [g_st2, List.getElem?_cons_zero, Option.some.injEq] at h
        obtain ⟨e1, e2⟩ := g_k2_some h
        exact Or.inr ⟨by omega, by omega, by simp [e1], fun _ => e2⟩
      | succ j =>
        simp only [g_st2, List.getElem?_cons_succ] at h
        rcases ih h with ⟨e1, e2⟩ | ⟨e1, e4, e2, e3⟩
        · exact Or.inl ⟨by omega, e2⟩
        · exact Or.inr ⟨by omega, by omega, by simpa using e2, fun e => e3 (by omega)⟩
    | i + 2 =>
      cases j with
      | zero => exact Or.inr ⟨by omega, by omega, by simpa [g_st2] using h, fun e => absurd e (by omega)⟩
      | succ j =>
        simp only [g_st2, List.getElem?_cons_succ] at h
        rcases ih h with ⟨e1, e2⟩ | ⟨e1, e4, e2, e3⟩
        · exact Or.inl ⟨by omega, e2⟩
        · exact Or.inr ⟨by omega, by omega, by simpa using e2, fun e => e3 (by omega)⟩
/-- the locals as the kit's list -/
def g_al (r : Nat → Nat) (L : List (Option Value)) : List (Nat × Value) := (List.range L.length).filterMap (fun i => match L[i]? with
  | some (some v) => some (i, g_tv r v)
  | _ => none)
theorem g_al_mem {r : Nat → Nat} {L : List (Option Value)} {i : Nat} {v : Value} (h : L[i]? = some (some v)) : (i, g_tv r v) ∈ g_al r L :=
  List.mem_filterMap.mpr ⟨i, List.mem_range.mpr (List.getElem?_eq_some_iff.mp h).1, by rw [h]⟩
theorem g_al_inv {r : Nat → Nat} {L : List (Option Value)} {q : Nat × Value} (h : q ∈ g_al r L) : ∃ v, L[q.1]? = some (some v) ∧ q.2 = g_tv r v := by
  obtain ⟨i, -, hi⟩ := List.mem_filterMap.mp h
  split at hi
  · rename_i v hv
    cases hi
    exact ⟨v, hv, rfl⟩
  · cases hi
theorem g_L_has {r : Nat → Nat} {L : List (Option Value)} {ls : Array Slot} {nL : Nat} (h : g_L r L ls nL) : lv_has ls nL (g_al r L) := by
  refine ⟨h.1, h.2.1, fun q hq => ?_⟩
  obtain ⟨v, h1, h2⟩ := g_al_inv hq
  rw [h2]
  exact h.2.2 _ _ h1
theorem g_L_st1 {r : Nat → Nat} {L : List (Option Value)} {ls' : Array Slot} {nL i : Nat} {v : Value} (h : lv_has ls' nL ((i, g_tv r v) :: (g_al r L).filter (fun q => !(q.1 == i) && !(q.1 + 1 == i && q.2.category == 2)))) : g_L r (g_st1 L i v) ls' nL := by
  refine ⟨h.1, h.2.1, fun j w hw => ?_⟩
  rcases g_st1_at hw with ⟨rfl, rfl⟩ | ⟨e1, e2, e3⟩
  · exact h.2.2 (j, g_tv r w) List.mem_cons_self
  · refine h.2.2 (j, g_tv r w) (List.mem_cons_of_mem _ (List.mem_filter.mpr ⟨g_al_mem e2, ?_⟩))
    simp only [g_tv_cat]
    by_cases e : j + 1 = i
    · simp [e1, e3 e]
    · simp [e1, e]
theorem g_L_st2 {r : Nat → Nat} {L : List (Option Value)} {ls' : Array Slot} {nL i : Nat} {v : Value} (h : lv_has ls' nL ((i, g_tv r v) :: (g_al r L).filter (fun q => !(q.1 == i) && (!(q.1 == i + 1) && !(q.1 + 1 == i && q.2.category == 2))))) : g_L r (g_st2 L i v) ls' nL := by
  refine ⟨h.1, h.2.1, fun j w hw => ?_⟩
  rcases g_st2_at hw with ⟨rfl, rfl⟩ | ⟨e1, e4, e2, e3⟩
  · exact h.2.2 (j, g_tv r w) List.mem_cons_self
  · refine h.2.2 (j, g_tv r w) (List.mem_cons_of_mem _ (List.mem_filter.mpr ⟨g_al_mem e2, ?_⟩))
    simp only [g_tv_cat]
    by_cases e : j + 1 = i
    · simp [e1, e4, e3 e]
    · simp [e1, e4, e]
theorem q_iconst {Y : gY} {M : gM} {d : Nat} {b : gB} {Q : Option Value → gH → Prop} {pc : Nat} {L : List (Option Value)} {S : List Value} {h : gH} {n : Int} {v : Int32} (hd : decode M.2.1 pc = .ok (.iconst n, 1)) (hv : Int32.ofInt n = v) (k : gE Y M d b Q (pc + 1) L (.int v :: S) h) : gE Y M d b Q pc L S h :=
  g_pure (fun p l e R s m args below meth c H locs cells slots Z ls r hC hL k9 => lv_iconst hC.1 hC.2.1 hd hv k9) k
theorem q_bipush {Y : gY} {M : gM} {d : Nat} {b : gB} {Q : Option Value → gH → Prop} {pc : Nat} {L : List (Option Value)} {S : List Value} {h : gH} {n : Int} {v : Int32} (hd : decode M.2.1 pc = .ok (.bipush n, 2)) (hv : (Int8.ofInt n).toInt32 = v) (k : gE Y M d b Q (pc + 2) L (.int v :: S) h) : gE Y M d b Q pc L S h :=
  g_pure (fun p l e R s m args below meth c H locs cells slots Z ls r hC hL k9 => lv_bipush hC.1 hC.2.1 hd hv k9) k
theorem q_sipush {Y : gY} {M : gM} {d : Nat} {b : gB} {Q : Option Value → gH → Prop} {pc : Nat} {L : List (Option Value)} {S : List Value} {h : gH} {n : Int} {v : Int32} (hd : decode M.2.1 pc = .ok (.sipush n, 3)) (hv : (Int16.ofInt n).toInt32 = v) (k : gE Y M d b Q (pc + 3) L (.int v :: S) h) : gE Y M d b Q pc L S h :=
  g_pure (fun p l e R s m args below meth c H locs cells slots Z ls r hC hL k9 => lv_sipush hC.1 hC.2.1 hd hv k9) k
theorem q_lconst {Y : gY} {M : gM} {d : Nat} {b : gB} {Q : Option Value → gH → Prop} {pc : Nat} {L : List (Option Value)} {S : List Value} {h : gH} {n : Fin 2} {v : Int64} (hd : decode M.2.1 pc = .ok (.lconst n, 1)) (hv : Int64.ofNat (n : Nat) = v) (k : gE Y M d b Q (pc + 1) L (.long v :: S) h) : gE Y M d b Q pc L S h :=
  g_pure (fun p l e R s m args below meth c H locs cells slots Z ls r hC hL k9 => lv_lconst hC.1 hC.2.1 hd hv k9) k
theorem q_null {Y : gY} {M : gM} {d : Nat} {b : gB} {Q : Option Value → gH → Prop} {pc : Nat} {L : List (Option Value)} {S : List Value} {h : gH}  (hd : decode M.2.1 pc = .ok (.aconst_null, 1))  (k : gE Y M d b Q (pc + 1) L (.null :: S) h) : gE Y M d b Q pc L S h :=
  g_pure (fun p l e R s m args below meth c H locs cells slots Z ls r hC hL k9 => lv_null hC.1 hC.2.1 hd k9) k
theorem q_iload_n {Y : gY} {M : gM} {d : Nat} {b : gB} {Q : Option Value → gH → Prop} {pc : Nat} {L : List (Option Value)} {S : List Value} {h : gH} {k0 : Fin 4} {i : Nat} {x : Int32} (hd : decode M.2.1 pc = .ok (.iload_n k0, 1)) (hi : (k0 : Nat) = i) (hl : L[i]? = some (some (.int x))) (k : gE Y M d b Q (pc + 1) L (.int x :: S) h) : gE Y M d b Q pc L S h :=
  g_pure (fun p l e R s m args below meth c H locs cells slots Z ls r hC hL k9 => lv_iload_n hC.1 hC.2.1 hd hi (hL.2.2 _ _ hl) k9) k
theorem q_iload {Y : gY} {M : gM} {d : Nat} {b : gB} {Q : Option Value → gH → Prop} {pc : Nat} {L : List (Option Value)} {S : List Value} {h : gH} {i : Nat} {x : Int32} (hd : decode M.2.1 pc = .ok (.iload i, 2)) (hl : L[i]? = some (some (.int x))) (k : gE Y M d b Q (pc + 2) L (.int x :: S) h) : gE Y M d b Q pc L S h :=
  g_pure (fun p l e R s m args below meth c H locs cells slots Z ls r hC hL k9 => lv_iload hC.1 hC.2.1 hd (hL.2.2 _ _ hl) k9) k
theorem q_lload_n {Y : gY} {M : gM} {d : Nat} {b : gB} {Q : Option Value → gH → Prop} {pc : Nat} {L : List (Option Value)} {S : List Value} {h : gH} {k0 : Fin 4} {i : Nat} {x : Int64} (hd : decode M.2.1 pc = .ok (.lload_n k0, 1)) (hi : (k0 : Nat) = i) (hl : L[i]? = some (some (.long x))) (k : gE Y M d b Q (pc + 1) L (.long x :: S) h) : gE Y M d b Q pc L S h :=
  g_pure (fun p l e R s m args below meth c H locs cells slots Z ls r hC hL k9 => lv_lload_n hC.1 hC.2.1 hd hi (hL.2.2 _ _ hl) k9) k
theorem q_lload {Y : gY} {M : gM} {d : Nat} {b : gB} {Q : Option Value → gH → Prop} {pc : Nat} {L : List (Option Value)} {S : List Value} {h : gH} {i : Nat} {x : Int64} (hd : decode M.2.1 pc = .ok (.lload i, 2)) (hl : L[i]? = some (some (.long x))) (k : gE Y M d b Q (pc + 2) L (.long x :: S) h) : gE Y M d b Q pc L S h :=
  g_pure (fun p l e R s m args below meth c H locs cells slots Z ls r hC hL k9 => lv_lload hC.1 hC.2.1 hd (hL.2.2 _ _ hl) k9) k
theorem q_aload_n {Y : gY} {M : gM} {d : Nat} {b : gB} {Q : Option Value → gH → Prop} {pc : Nat} {L : List (Option Value)} {S : List Value} {h : gH} {k0 : Fin 4} {i : Nat} {x : Nat} (hd : decode M.2.1 pc = .ok (.aload_n k0, 1)) (hi : (k0 : Nat) = i) (hl : L[i]? = some (some (.ref x))) (k : gE Y M d b Q (pc + 1) L (.ref x :: S) h) : gE Y M d b Q pc L S h :=
  g_pure (fun p l e R s m args below meth c H locs cells slots Z ls r hC hL k9 => lv_aload_n hC.1 hC.2.1 hd hi (hL.2.2 _ _ hl) k9) k
theorem q_aload {Y : gY} {M : gM} {d : Nat} {b : gB} {Q : Option Value → gH → Prop} {pc : Nat} {L : List (Option Value)} {S : List Value} {h : gH} {i : Nat} {x : Nat} (hd : decode M.2.1 pc = .ok (.aload i, 2)) (hl : L[i]? = some (some (.ref x))) (k : gE Y M d b Q (pc + 2) L (.ref x :: S) h) : gE Y M d b Q pc L S h :=
  g_pure (fun p l e R s m args below meth c H locs cells slots Z ls r hC hL k9 => lv_aload hC.1 hC.2.1 hd (hL.2.2 _ _ hl) k9) k
theorem q_iadd {Y : gY} {M : gM} {d : Nat} {b : gB} {Q : Option Value → gH → Prop} {pc : Nat} {L : List (Option Value)} {S : List Value} {h : gH} {x y : Int32} (hd : decode M.2.1 pc = .ok (.iadd, 1))  (k : gE Y M d b Q (pc + 1) L (.int (x + y) :: S) h) : gE Y M d b Q pc L (.int y :: .int x :: S) h :=
  g_pure (fun p l e R s m args below meth c H locs cells slots Z ls r hC hL k9 => lv_iadd hC.1 hC.2.1 hd k9) k
theorem q_isub {Y : gY} {M : gM} {d : Nat} {b : gB} {Q : Option Value → gH → Prop} {pc : Nat} {L : List (Option Value)} {S : List Value} {h : gH} {x y : Int32} (hd : decode M.2.1 pc = .ok (.isub, 1))  (k : gE Y M d b Q (pc + 1) L (.int (x - y) :: S) h) : gE Y M d b Q pc L (.int y :: .int x :: S) h :=
  g_pure (fun p l e R s m args below meth c H locs cells slots Z ls r hC hL k9 => lv_isub hC.1 hC.2.1 hd k9) k
theorem q_imul {Y : gY} {M : gM} {d : Nat} {b : gB} {Q : Option Value → gH → Prop} {pc : Nat} {L : List (Option Value)} {S : List Value} {h : gH} {x y : Int32} (hd : decode M.2.1 pc = .ok (.imul, 1))  (k : gE Y M d b Q (pc + 1) L (.int (x * y) :: S) h) : gE Y M d b Q pc L (.int y :: .int x :: S) h :=
  g_pure (fun p l e R s m args below meth c H locs cells slots Z ls r hC hL k9 => lv_imul hC.1 hC.2.1 hd k9) k
theorem q_iand {Y : gY} {M : gM} {d : Nat} {b : gB} {Q : Option Value → gH → Prop} {pc : Nat} {L : List (Option Value)} {S : List Value} {h : gH} {x y : Int32} (hd : decode M.2.1 pc = .ok (.iand, 1))  (k : gE Y M d b Q (pc + 1) L (.int (x &&& y) :: S) h) : gE Y M d b Q pc L (.int y :: .int x :: S) h :=
  g_pure (fun p l e R s m args below meth c H locs cells slots Z ls r hC hL k9 => lv_iand hC.1 hC.2.1 hd k9) k
theorem q_ior {Y : gY} {M : gM} {d : Nat} {b : gB} {Q : Option Value → gH → Prop} {pc : Nat} {L : List (Option Value)} {S : List Value} {h : gH} {x y : Int32} (hd : decode M.2.1 pc = .ok (.ior, 1))  (k : gE Y M d b Q (pc + 1) L (.int (x ||| y) :: S) h) : gE Y M d b Q pc L (.int y :: .int x :: S) h :=
  g_pure (fun p l e R s m args below meth c H locs cells slots Z ls r hC hL k9 => lv_ior hC.1 hC.2.1 hd k9) k
theorem q_ixor {Y : gY} {M : gM} {d : Nat} {b : gB} {Q : Option Value → gH → Prop} {pc : Nat} {L : List (Option Value)} {S : List Value} {h : gH} {x y : Int32} (hd : decode M.2.1 pc = .ok (.ixor, 1))  (k : gE Y M d b Q (pc + 1) L (.int (x ^^^ y) :: S) h) : gE Y M d b Q pc L (.int y :: .int x :: S) h :=
  g_pure (fun p l e R s m args below meth c H locs cells slots Z ls r hC hL k9 => lv_ixor hC.1 hC.2.1 hd k9) k
theorem q_ishl {Y : gY} {M : gM} {d : Nat} {b : gB} {Q : Option Value → gH → Prop} {pc : Nat} {L : List (Option Value)} {S : List Value} {h : gH} {x y : Int32} (hd : decode M.2.1 pc = .ok (.ishl, 1))  (k : gE Y M d b Q (pc + 1) L (.int (x <<< (y &&& 31)) :: S) h) : gE Y M d b Q pc L (.int y :: .int x :: S) h :=
  g_pure (fun p l e R s m args below meth c H locs cells slots Z ls r hC hL k9 => lv_ishl hC.1 hC.2.1 hd k9) k
theorem q_ishr {Y : gY} {M : gM} {d : Nat} {b : gB} {Q : Option Value → gH → Prop} {pc : Nat} {L : List (Option Value)} {S : List Value} {h : gH} {x y : Int32} (hd : decode M.2.1 pc = .ok (.ishr, 1))  (k : gE Y M d b Q (pc + 1) L (.int (x >>> (y &&& 31)) :: S) h) : gE Y M d b Q pc L (.int y :: .int x :: S) h :=
  g_pure (fun p l e R s m args below meth c H locs cells slots Z ls r hC hL k9 => lv_ishr hC.1 hC.2.1 hd k9) k
theorem q_idiv {Y : gY} {M : gM} {d : Nat} {b : gB} {Q : Option Value → gH → Prop} {pc : Nat} {L : List (Option Value)} {S : List Value} {h : gH} {x y : Int32} (hd : decode M.2.1 pc = .ok (.idiv, 1)) (hne : ¬ y = 0) (k : gE Y M d b Q (pc + 1) L (.int (x / y) :: S) h) : gE Y M d b Q pc L (.int y :: .int x :: S) h :=
  g_pure (fun p l e R s m args below meth c H locs cells slots Z ls r hC hL k9 => lv_idiv hC.1 hC.2.1 hd hne k9) k
theorem q_irem {Y : gY} {M : gM} {d : Nat} {b : gB} {Q : Option Value → gH → Prop} {pc : Nat} {L : List (Option Value)} {S : List Value} {h : gH} {x y : Int32} (hd : decode M.2.1 pc = .ok (.irem, 1)) (hne : ¬ y = 0) (k : gE Y M d b Q (pc + 1) L (.int (x - x / y * y) :: S) h) : gE Y M d b Q pc L (.int y :: .int x :: S) h :=
  g_pure (fun p l e R s m args below meth c H locs cells slots Z ls r hC hL k9 => lv_irem hC.1 hC.2.1 hd hne k9) k
theorem q_ineg {Y : gY} {M : gM} {d : Nat} {b : gB} {Q : Option Value → gH → Prop} {pc : Nat} {L : List (Option Value)} {S : List Value} {h : gH} {x : Int32} (hd : decode M.2.1 pc = .ok (.ineg, 1))  (k : gE Y M d b Q (pc + 1) L (.int (-x) :: S) h) : gE Y M d b Q pc L (.int x :: S) h :=
  g_pure (fun p l e R s m args below meth c H locs cells slots Z ls r hC hL k9 => lv_ineg hC.1 hC.2.1 hd k9) k
theorem q_ladd {Y : gY} {M : gM} {d : Nat} {b : gB} {Q : Option Value → gH → Prop} {pc : Nat} {L : List (Option Value)} {S : List Value} {h : gH} {x y : Int64} (hd : decode M.2.1 pc = .ok (.ladd, 1))  (k : gE Y M d b Q (pc + 1) L (.long (x + y) :: S) h) : gE Y M d b Q pc L (.long y :: .long x :: S) h :=
  g_pure (fun p l e R s m args below meth c H locs cells slots Z ls r hC hL k9 => lv_ladd hC.1 hC.2.1 hd k9) k
theorem q_lsub {Y : gY} {M : gM} {d : Nat} {b : gB} {Q : Option Value → gH → Prop} {pc : Nat} {L : List (Option Value)} {S : List Value} {h : gH} {x y : Int64} (hd : decode M.2.1 pc = .ok (.lsub, 1))  (k : gE Y M d b Q (pc + 1) L (.long (x - y) :: S) h) : gE Y M d b Q pc L (.long y :: .long x :: S) h :=
  g_pure (fun p l e R s m args below meth c H locs cells slots Z ls r hC hL k9 => lv_lsub hC.1 hC.2.1 hd k9) k
theorem q_lmul {Y : gY} {M : gM} {d : Nat} {b : gB} {Q : Option Value → gH → Prop} {pc : Nat} {L : List (Option Value)} {S : List Value} {h : gH} {x y : Int64} (hd : decode M.2.1 pc = .ok (.lmul, 1))  (k : gE Y M d b Q (pc + 1) L (.long (x * y) :: S) h) : gE Y M d b Q pc L (.long y :: .long x :: S) h :=
  g_pure (fun p l e R s m args below meth c H locs cells slots Z ls r hC hL k9 => lv_lmul hC.1 hC.2.1 hd k9) k
theorem q_land {Y : gY} {M : gM} {d : Nat} {b : gB} {Q : Option Value → gH → Prop} {pc : Nat} {L : List (Option Value)} {S : List Value} {h : gH} {x y : Int64} (hd : decode M.2.1 pc = .ok (.land, 1))  (k : gE Y M d b Q (pc + 1) L (.long (x &&& y) :: S) h) : gE Y M d b Q pc L (.long y :: .long x :: S) h :=
  g_pure (fun p l e R s m args below meth c H locs cells slots Z ls r hC hL k9 => lv_land hC.1 hC.2.1 hd k9) k
theorem q_lor {Y : gY} {M : gM} {d : Nat} {b : gB} {Q : Option Value → gH → Prop} {pc : Nat} {L : List (Option Value)} {S : List Value} {h : gH} {x y : Int64} (hd : decode M.2.1 pc = .ok (.lor, 1))  (k : gE Y M d b Q (pc + 1) L (.long (x ||| y) :: S) h) : gE Y M d b Q pc L (.long y :: .long x :: S) h :=
  g_pure (fun p l e R s m args below meth c H locs cells slots Z ls r hC hL k9 => lv_lor hC.1 hC.2.1 hd k9) k
theorem q_ldiv {Y : gY} {M : gM} {d : Nat} {b : gB} {Q : Option Value → gH → Prop} {pc : Nat} {L : List (Option Value)} {S : List Value} {h : gH} {x y : Int64} (hd : decode M.2.1 pc = .ok (.ldiv, 1)) (hne : ¬ y = 0) (k : gE Y M d b Q (pc + 1) L (.long (x / y) :: S) h) : gE Y M d b Q pc L (.long y :: .long x :: S) h :=
  g_pure (fun p l e R s m args below meth c H locs cells slots Z ls r hC hL k9 => lv_ldiv hC.1 hC.2.1 hd hne k9) k
theorem q_lrem {Y : gY} {M : gM} {d : Nat} {b : gB} {Q : Option Value → gH → Prop} {pc : Nat} {L : List (Option Value)} {S : List Value} {h : gH} {x y : Int64} (hd : decode M.2.1 pc = .ok (.lrem, 1)) (hne : ¬ y = 0) (k : gE Y M d b Q (pc + 1) L (.long (x - x / y * y) :: S) h) : gE Y M d b Q pc L (.long y :: .long x :: S) h :=
  g_pure (fun p l e R s m args below meth c H locs cells slots Z ls r hC hL k9 => lv_lrem hC.1 hC.2.1 hd hne k9) k
theorem q_lneg {Y : gY} {M : gM} {d : Nat} {b : gB} {Q : Option Value → gH → Prop} {pc : Nat} {L : List (Option Value)} {S : List Value} {h : gH} {x : Int64} (hd : decode M.2.1 pc = .ok (.lneg, 1))  (k : gE Y M d b Q (pc + 1) L (.long (-x) :: S) h) : gE Y M d b Q pc L (.long x :: S) h :=
  g_pure (fun p l e R s m args below meth c H locs cells slots Z ls r hC hL k9 => lv_lneg hC.1 hC.2.1 hd k9) k
theorem q_lshl {Y : gY} {M : gM} {d : Nat} {b : gB} {Q : Option Value → gH → Prop} {pc : Nat} {L : List (Option Value)} {S : List Value} {h : gH} {x : Int64} {y : Int32} (hd : decode M.2.1 pc = .ok (.lshl, 1))  (k : gE Y M d b Q (pc + 1) L (.long (x <<< (y.toInt64 &&& 63)) :: S) h) : gE Y M d b Q pc L (.int y :: .long x :: S) h :=
  g_pure (fun p l e R s m args below meth c H locs cells slots Z ls r hC hL k9 => lv_lshl hC.1 hC.2.1 hd rfl k9) k
theorem q_lshr {Y : gY} {M : gM} {d : Nat} {b : gB} {Q : Option Value → gH → Prop} {pc : Nat} {L : List (Option Value)} {S : List Value} {h : gH} {x : Int64} {y : Int32} (hd : decode M.2.1 pc = .ok (.lshr, 1))  (k : gE Y M d b Q (pc + 1) L (.long (x >>> (y.toInt64 &&& 63)) :: S) h) : gE Y M d b Q pc L (.int y :: .long x :: S) h :=
  g_pure (fun p l e R s m args below meth c H locs cells slots Z ls r hC hL k9 => lv_lshr hC.1 hC.2.1 hd rfl k9) k
theorem q_lcmp {Y : gY} {M : gM} {d : Nat} {b : gB} {Q : Option Value → gH → Prop} {pc : Nat} {L : List (Option Value)} {S : List Value} {h : gH} {x y : Int64} (hd : decode M.2.1 pc = .ok (.lcmp, 1))  (k : gE Y M d b Q (pc + 1) L (.int (lg_cmp x y) :: S) h) : gE Y M d b Q pc L (.long y :: .long x :: S) h :=
  g_pure (fun p l e R s m args below meth c H locs cells slots Z ls r hC hL k9 => W.lcmp hC.1 hC.2.1 hd k9) k
theorem q_i2l {Y : gY} {M : gM} {d : Nat} {b : gB} {Q : Option Value → gH → Prop} {pc : Nat} {L : List (Option Value)} {S : List Value} {h : gH} {x : Int32} (hd : decode M.2.1 pc = .ok (.i2l, 1))  (k : gE Y M d b Q (pc + 1) L (.long x.toInt64 :: S) h) : gE Y M d b Q pc L (.int x :: S) h :=
  g_pure (fun p l e R s m args below meth c H locs cells slots Z ls r hC hL k9 => lv_i2l hC.1 hC.2.1 hd rfl k9) k
theorem q_l2i {Y : gY} {M : gM} {d : Nat} {b : gB} {Q : Option Value → gH → Prop} {pc : Nat} {L : List (Option Value)} {S : List Value} {h : gH} {x : Int64} (hd : decode M.2.1 pc = .ok (.l2i, 1))  (k : gE Y M d b Q (pc + 1) L (.int x.toInt32 :: S) h) : gE Y M d b Q pc L (.long x :: S) h :=
  g_pure (fun p l e R s m args below meth c H locs cells slots Z ls r hC hL k9 => lv_l2i hC.1 hC.2.1 hd rfl k9) k
theorem q_i2c {Y : gY} {M : gM} {d : Nat} {b : gB} {Q : Option Value → gH → Prop} {pc : Nat} {L : List (Option Value)} {S : List Value} {h : gH} {x : Int32} (hd : decode M.2.1 pc = .ok (.i2c, 1))  (k : gE Y M d b Q (pc + 1) L (.int (x.toUInt32 % 65536).toInt32 :: S) h) : gE Y M d b Q pc L (.int x :: S) h :=
  g_pure (fun p l e R s m args below meth c H locs cells slots Z ls r hC hL k9 => lv_i2c hC.1 hC.2.1 hd rfl k9) k
theorem q_dup {Y : gY} {M : gM} {d : Nat} {b : gB} {Q : Option Value → gH → Prop} {pc : Nat} {L : List (Option Value)} {S : List Value} {h : gH} {v : Value} (hd : decode M.2.1 pc = .ok (.dup, 1)) (hv : v.category = 1) (k : gE Y M d b Q (pc + 1) L (v :: v :: S) h) : gE Y M d b Q pc L (v :: S) h :=
  g_pure (fun p l e R s m args below meth c H locs cells slots Z ls r hC hL k9 => lv_dup hC.1 hC.2.1 hd ((g_tv_cat r v).trans hv) k9) k
theorem q_pop {Y : gY} {M : gM} {d : Nat} {b : gB} {Q : Option Value → gH → Prop} {pc : Nat} {L : List (Option Value)} {S : List Value} {h : gH} {v : Value} (hd : decode M.2.1 pc = .ok (.pop, 1)) (hv : v.category = 1) (k : gE Y M d b Q (pc + 1) L S h) : gE Y M d b Q pc L (v :: S) h :=
  g_pure (fun p l e R s m args below meth c H locs cells slots Z ls r hC hL k9 => lv_pop hC.1 hC.2.1 hd ((g_tv_cat r v).trans hv) k9) k
theorem q_dup_x1 {Y : gY} {M : gM} {d : Nat} {b : gB} {Q : Option Value → gH → Prop} {pc : Nat} {L : List (Option Value)} {S : List Value} {h : gH} {v w : Value} (hd : decode M.2.1 pc = .ok (.dup_x1, 1)) (hv : v.category = 1) (hw : w.category = 1) (k : gE Y M d b Q (pc + 1) L (v :: w :: v :: S) h) : gE Y M d b Q pc L (v :: w :: S) h :=
  g_pure (fun p l e R s m args below meth c H locs cells slots Z ls r hC hL k9 => lv_dup_x1 hC.1 hC.2.1 hd ((g_tv_cat r v).trans hv) ((g_tv_cat r w).trans hw) k9) k
theorem q_dup2 {Y : gY} {M : gM} {d : Nat} {b : gB} {Q : Option Value → gH → Prop} {pc : Nat} {L : List (Option Value)} {S : List Value} {h : gH} {v w : Value} (hd : decode M.2.1 pc = .ok (.dup2, 1)) (hv : v.category = 1) (hw : w.category = 1) (k : gE Y M d b Q (pc + 1) L (v :: w :: v :: w :: S) h) : gE Y M d b Q pc L (v :: w :: S) h :=
  g_pure (fun p l e R s m args below meth c H locs cells slots Z ls r hC hL k9 => lv_dup2_11 hC.1 hC.2.1 hd ((g_tv_cat r v).trans hv) ((g_tv_cat r w).trans hw) k9) k
theorem q_dup2l {Y : gY} {M : gM} {d : Nat} {b : gB} {Q : Option Value → gH → Prop} {pc : Nat} {L : List (Option Value)} {S : List Value} {h : gH} {v : Value} (hd : decode M.2.1 pc = .ok (.dup2, 1)) (hv : v.category = 2) (k : gE Y M d b Q (pc + 1) L (v :: v :: S) h) : gE Y M d b Q pc L (v :: S) h :=
  g_pure (fun p l e R s m args below meth c H locs cells slots Z ls r hC hL k9 => lv_dup2_2 hC.1 hC.2.1 hd ((g_tv_cat r v).trans hv) k9) k
theorem q_goto {Y : gY} {M : gM} {d : Nat} {b : gB} {Q : Option Value → gH → Prop} {pc : Nat} {L : List (Option Value)} {S : List Value} {h : gH} {off : Int} {tgt : Nat} (hd : decode M.2.1 pc = .ok (.goto off, 3)) (ht : (pc : Int) + off = (tgt : Int)) (k : gE Y M d b Q tgt L S h) : gE Y M d b Q pc L S h :=
  g_pure (fun p l e R s m args below meth c H locs cells slots Z ls r hC hL k9 => lv_goto hC.1 hC.2.1 hd ht k9) k
theorem q_ldc {Y : gY} {M : gM} {d : Nat} {b : gB} {Q : Option Value → gH → Prop} {pc : Nat} {L : List (Option Value)} {S : List Value} {h : gH} {i : Nat} {v : Int32} (hd : decode M.2.1 pc = .ok (.ldc i, 2)) (hw : Cond.constant M.1.cls i v ∈ g_W) (k : gE Y M d b Q (pc + 2) L (.int v :: S) h) : gE Y M d b Q pc L S h :=
  g_pure (fun p l e R s m args below meth c H locs cells slots Z ls r hC hL k9 => W.ldc hC.1 hC.2.1 hC.2.2.2.2.1 (hC.2.2.2.2.2.1 _ hw) rfl hd k9) k
theorem q_ldc2 {Y : gY} {M : gM} {d : Nat} {b : gB} {Q : Option Value → gH → Prop} {pc : Nat} {L : List (Option Value)} {S : List Value} {h : gH} {i : Nat} {v : Int64} (hd : decode M.2.1 pc = .ok (.ldc2_w i, 3)) (hw : Cond.constantLong M.1.cls i v ∈ g_W) (k : gE Y M d b Q (pc + 3) L (.long v :: S) h) : gE Y M d b Q pc L S h :=
  g_pure (fun p l e R s m args below meth c H locs cells slots Z ls r hC hL k9 => W.ldc2 hC.1 hC.2.1 hC.2.2.2.2.1 (hC.2.2.2.2.2.1 _ hw) rfl hd k9) k
theorem q_if_eq {Y : gY} {M : gM} {d : Nat} {b : gB} {Q : Option Value → gH → Prop} {pc : Nat} {L : List (Option Value)} {S : List Value} {h : gH} {x : Int32} {off : Int} {tgt : Nat} (hd : decode M.2.1 pc = .ok (.ifCond .eq off, 3)) (ht : (pc : Int) + off = (tgt : Int)) (kt : x = 0 → gE Y M d b Q tgt L S h) (kf : ¬ x = 0 → gE Y M d b Q (pc + 3) L S h) : gE Y M d b Q pc L (.int x :: S) h :=
  fun p l e R s m args below meth c D tc r0 A r H locs ls hC hR hL h1 h2 h3 h0 => lv_if_eq hC.1 hC.2.1 hd ht (fun c9 => kt c9 p l e R s m args below meth c D tc r0 A r H locs ls hC hR hL h1 h2 h3 h0) (fun c9 => kf c9 p l e R s m args below meth c D tc r0 A r H locs ls hC hR hL h1 h2 h3 h0)
theorem q_icmp_eq {Y : gY} {M : gM} {d : Nat} {b : gB} {Q : Option Value → gH → Prop} {pc : Nat} {L : List (Option Value)} {S : List Value} {h : gH} {x y : Int32} {off : Int} {tgt : Nat} (hd : decode M.2.1 pc = .ok (.if_icmp .eq off, 3)) (ht : (pc : Int) + off = (tgt : Int)) (kt : x = y → gE Y M d b Q tgt L S h) (kf : ¬ x = y → gE Y M d b Q (pc + 3) L S h) : gE Y M d b Q pc L (.int y :: .int x :: S) h :=
  fun p l e R s m args below meth c D tc r0 A r H locs ls hC hR hL h1 h2 h3 h0 => lv_icmp_eq hC.1 hC.2.1 hd ht (fun c9 => kt c9 p l e R s m args below meth c D tc r0 A r H locs ls hC hR hL h1 h2 h3 h0) (fun c9 => kf c9 p l e R s m args below meth c D tc r0 A r H locs ls hC hR hL h1 h2 h3 h0)
theorem q_if_ne {Y : gY} {M : gM} {d : Nat} {b : gB} {Q : Option Value → gH → Prop} {pc : Nat} {L : List (Option Value)} {S : List Value} {h : gH} {x : Int32} {off : Int} {tgt : Nat} (hd : decode M.2.1 pc = .ok (.ifCond .ne off, 3)) (ht : (pc : Int) + off = (tgt : Int)) (kt : ¬ x = 0 → gE Y M d b Q tgt L S h) (kf : x = 0 → gE Y M d b Q (pc + 3) L S h) : gE Y M d b Q pc L (.int x :: S) h :=
  fun p l e R s m args below meth c D tc r0 A r H locs ls hC hR hL h1 h2 h3 h0 => lv_if_ne hC.1 hC.2.1 hd ht (fun c9 => kt c9 p l e R s m args below meth c D tc r0 A r H locs ls hC hR hL h1 h2 h3 h0) (fun c9 => kf c9 p l e R s m args below meth c D tc r0 A r H locs ls hC hR hL h1 h2 h3 h0)
theorem q_icmp_ne {Y : gY} {M : gM} {d : Nat} {b : gB} {Q : Option Value → gH → Prop} {pc : Nat} {L : List (Option Value)} {S : List Value} {h : gH} {x y : Int32} {off : Int} {tgt : Nat} (hd : decode M.2.1 pc = .ok (.if_icmp .ne off, 3)) (ht : (pc : Int) + off = (tgt : Int)) (kt : ¬ x = y → gE Y M d b Q tgt L S h) (kf : x = y → gE Y M d b Q (pc + 3) L S h) : gE Y M d b Q pc L (.int y :: .int x :: S) h :=
  fun p l e R s m args below meth c D tc r0 A r H locs ls hC hR hL h1 h2 h3 h0 => lv_icmp_ne hC.1 hC.2.1 hd ht (fun c9 => kt c9 p l e R s m args below meth c D tc r0 A r H locs ls hC hR hL h1 h2 h3 h0) (fun c9 => kf c9 p l e R s m args below meth c D tc r0 A r H locs ls hC hR hL h1 h2 h3 h0)
theorem q_if_lt {Y : gY} {M : gM} {d : Nat} {b : gB} {Q : Option Value → gH → Prop} {pc : Nat} {L : List (Option Value)} {S : List Value} {h : gH} {x : Int32} {off : Int} {tgt : Nat} (hd : decode M.2.1 pc = .ok (.ifCond .lt off, 3)) (ht : (pc : Int) + off = (tgt : Int)) (kt : x < 0 → gE Y M d b Q tgt L S h) (kf : ¬ x < 0 → gE Y M d b Q (pc + 3) L S h) : gE Y M d b Q pc L (.int x :: S) h :=
  fun p l e R s m args below meth c D tc r0 A r H locs ls hC hR hL h1 h2 h3 h0 => lv_if_lt hC.1 hC.2.1 hd ht (fun c9 => kt c9 p l e R s m args below meth c D tc r0 A r H locs ls hC hR hL h1 h2 h3 h0) (fun c9 => kf c9 p l e R s m args below meth c D tc r0 A r H locs ls hC hR hL h1 h2 h3 h0)
theorem q_icmp_lt {Y : gY} {M : gM} {d : Nat} {b : gB} {Q : Option Value → gH → Prop} {pc : Nat} {L : List (Option Value)} {S : List Value} {h : gH} {x y : Int32} {off : Int} {tgt : Nat} (hd : decode M.2.1 pc = .ok (.if_icmp .lt off, 3)) (ht : (pc : Int) + off = (tgt : Int)) (kt : x < y → gE Y M d b Q tgt L S h) (kf : ¬ x < y → gE Y M d b Q (pc + 3) L S h) : gE Y M d b Q pc L (.int y :: .int x :: S) h :=
  fun p l e R s m args below meth c D tc r0 A r H locs ls hC hR hL h1 h2 h3 h0 => lv_icmp_lt hC.1 hC.2.1 hd ht (fun c9 => kt c9 p l e R s m args below meth c D tc r0 A r H locs ls hC hR hL h1 h2 h3 h0) (fun c9 => kf c9 p l e R s m args below meth c D tc r0 A r H locs ls hC hR hL h1 h2 h3 h0)
theorem q_if_ge {Y : gY} {M : gM} {d : Nat} {b : gB} {Q : Option Value → gH → Prop} {pc : Nat} {L : List (Option Value)} {S : List Value} {h : gH} {x : Int32} {off : Int} {tgt : Nat} (hd : decode M.2.1 pc = .ok (.ifCond .ge off, 3)) (ht : (pc : Int) + off = (tgt : Int)) (kt : 0 ≤ x → gE Y M d b Q tgt L S h) (kf : ¬ 0 ≤ x → gE Y M d b Q (pc + 3) L S h) : gE Y M d b Q pc L (.int x :: S) h :=
  fun p l e R s m args below meth c D tc r0 A r H locs ls hC hR hL h1 h2 h3 h0 => lv_if_ge hC.1 hC.2.1 hd ht (fun c9 => kt c9 p l e R s m args below meth c D tc r0 A r H locs ls hC hR hL h1 h2 h3 h0) (fun c9 => kf c9 p l e R s m args below meth c D tc r0 A r H locs ls hC hR hL h1 h2 h3 h0)
theorem q_icmp_ge {Y : gY} {M : gM} {d : Nat} {b : gB} {Q : Option Value → gH → Prop} {pc : Nat} {L : List (Option Value)} {S : List Value} {h : gH} {x y : Int32} {off : Int} {tgt : Nat} (hd : decode M.2.1 pc = .ok (.if_icmp .ge off, 3)) (ht : (pc : Int) + off = (tgt : Int)) (kt : y ≤ x → gE Y M d b Q tgt L S h) (kf : ¬ y ≤ x → gE Y M d b Q (pc + 3) L S h) : gE Y M d b Q pc L (.int y :: .int x :: S) h :=
  fun p l e R s m args below meth c D tc r0 A r H locs ls hC hR hL h1 h2 h3 h0 => lv_icmp_ge hC.1 hC.2.1 hd ht (fun c9 => kt c9 p l e R s m args below meth c D tc r0 A r H locs ls hC hR hL h1 h2 h3 h0) (fun c9 => kf c9 p l e R s m args below meth c D tc r0 A r H locs ls hC hR hL h1 h2 h3 h0)
theorem q_if_gt {Y : gY} {M : gM} {d : Nat} {b : gB} {Q : Option Value → gH → Prop} {pc : Nat} {L : List (Option Value)} {S : List Value} {h : gH} {x : Int32} {off : Int} {tgt : Nat} (hd : decode M.2.1 pc = .ok (.ifCond .gt off, 3)) (ht : (pc : Int) + off = (tgt : Int)) (kt : 0 < x → gE Y M d b Q tgt L S h) (kf : ¬ 0 < x → gE Y M d b Q (pc + 3) L S h) : gE Y M d b Q pc L (.int x :: S) h :=
  fun p l e R s m args below meth c D tc r0 A r H locs ls hC hR hL h1 h2 h3 h0 => lv_if_gt hC.1 hC.2.1 hd ht (fun c9 => kt c9 p l e R s m args below meth c D tc r0 A r H locs ls hC hR hL h1 h2 h3 h0) (fun c9 => kf c9 p l e R s m args below meth c D tc r0 A r H locs ls hC hR hL h1 h2 h3 h0)
theorem q_icmp_gt {Y : gY} {M : gM} {d : Nat} {b : gB} {Q : Option Value → gH → Prop} {pc : Nat} {L : List (Option Value)} {S : List Value} {h : gH} {x y : Int32} {off : Int} {tgt : Nat} (hd : decode M.2.1 pc = .ok (.if_icmp .gt off, 3)) (ht : (pc : Int) + off = (tgt : Int)) (kt : y < x → gE Y M d b Q tgt L S h) (kf : ¬ y < x → gE Y M d b Q (pc + 3) L S h) : gE Y M d b Q pc L (.int y :: .int x :: S) h :=
  fun p l e R s m args below meth c D tc r0 A r H locs ls hC hR hL h1 h2 h3 h0 => lv_icmp_gt hC.1 hC.2.1 hd ht (fun c9 => kt c9 p l e R s m args below meth c D tc r0 A r H locs ls hC hR hL h1 h2 h3 h0) (fun c9 => kf c9 p l e R s m args below meth c D tc r0 A r H locs ls hC hR hL h1 h2 h3 h0)
theorem q_if_le {Y : gY} {M : gM} {d : Nat} {b : gB} {Q : Option Value → gH → Prop} {pc : Nat} {L : List (Option Value)} {S : List Value} {h : gH} {x : Int32} {off : Int} {tgt : Nat} (hd : decode M.2.1 pc = .ok (.ifCond .le off, 3)) (ht : (pc : Int) + off = (tgt : Int)) (kt : x ≤ 0 → gE Y M d b Q tgt L S h) (kf : ¬ x ≤ 0 → gE Y M d b Q (pc + 3) L S h) : gE Y M d b Q pc L (.int x :: S) h :=
  fun p l e R s m args below meth c D tc r0 A r H locs ls hC hR hL h1 h2 h3 h0 => lv_if_le hC.1 hC.2.1 hd ht (fun c9 => kt c9 p l e R s m args below meth c D tc r0 A r H locs ls hC hR hL h1 h2 h3 h0) (fun c9 => kf c9 p l e R s m args below meth c D tc r0 A r H locs ls hC hR hL h1 h2 h3 h0)
theorem q_icmp_le {Y : gY} {M : gM} {d : Nat} {b : gB} {Q : Option Value → gH → Prop} {pc : Nat} {L : List (Option Value)} {S : List Value} {h : gH} {x y : Int32} {off : Int} {tgt : Nat} (hd : decode M.2.1 pc = .ok (.if_icmp .le off, 3)) (ht : (pc : Int) + off = (tgt : Int)) (kt : x ≤ y → gE Y M d b Q tgt L S h) (kf : ¬ x ≤ y → gE Y M d b Q (pc + 3) L S h) : gE Y M d b Q pc L (.int y :: .int x :: S) h :=
  fun p l e R s m args below meth c D tc r0 A r H locs ls hC hR hL h1 h2 h3 h0 => lv_icmp_le hC.1 hC.2.1 hd ht (fun c9 => kt c9 p l e R s m args below meth c D tc r0 A r H locs ls hC hR hL h1 h2 h3 h0) (fun c9 => kf c9 p l e R s m args below meth c D tc r0 A r H locs ls hC hR hL h1 h2 h3 h0)
theorem q_tableIn {Y : gY} {M : gM} {d : Nat} {b : gB} {Q : Option Value → gH → Prop} {pc : Nat} {L : List (Option Value)} {S : List Value} {h : gH} {dflt lo hi : Int} {offs : Array Int} {len : Nat} {x : Int32} {off : Int} {tgt : Nat} (hd : decode M.2.1 pc = .ok (.tableswitch dflt lo hi offs, len)) (ha : ¬ x.toInt < lo) (hz : ¬ hi < x.toInt) (ho : offs[(x.toInt - lo).toNat]? = some off) (ht : (pc : Int) + off = (tgt : Int)) (k : gE Y M d b Q tgt L S h) : gE Y M d b Q pc L (.int x :: S) h :=
  g_pure (fun p l e R s m args below meth c H locs cells slots Z ls r hC hL k9 => lv_tableIn hC.1 hC.2.1 hd ha hz ho ht k9) k
theorem q_tableOut {Y : gY} {M : gM} {d : Nat} {b : gB} {Q : Option Value → gH → Prop} {pc : Nat} {L : List (Option Value)} {S : List Value} {h : gH} {dflt lo hi : Int} {offs : Array Int} {len : Nat} {x : Int32} {tgt : Nat} (hd : decode M.2.1 pc = .ok (.tableswitch dflt lo hi offs, len)) (ha : x.toInt < lo ∨ hi < x.toInt) (ht : (pc : Int) + dflt = (tgt : Int)) (k : gE Y M d b Q tgt L S h) : gE Y M d b Q pc L (.int x :: S) h :=
  g_pure (fun p l e R s m args below meth c H locs cells slots Z ls r hC hL k9 => lv_tableOut hC.1 hC.2.1 hd ha ht k9) k
theorem q_lookup {Y : gY} {M : gM} {d : Nat} {b : gB} {Q : Option Value → gH → Prop} {pc : Nat} {L : List (Option Value)} {S : List Value} {h : gH} {dflt : Int} {ps : Array (Int × Int)} {len : Nat} {x : Int32} {off : Int} {tgt : Nat} (hd : decode M.2.1 pc = .ok (.lookupswitch dflt ps, len)) (hp : (ps.toList.zip (ps.toList.drop 1)).all (fun (a, next) => a.1 < next.1) = true) (ho : Op.lookupswitch.offset ps.toList dflt x.toInt = off) (ht : (pc : Int) + off = (tgt : Int)) (k : gE Y M d b Q tgt L S h) : gE Y M d b Q pc L (.int x :: S) h :=
  g_pure (fun p l e R s m args below meth c H locs cells slots Z ls r hC hL k9 => lv_lookup hC.1 hC.2.1 hd hp ho ht k9) k
theorem q_istore_n {Y : gY} {M : gM} {d : Nat} {b : gB} {Q : Option Value → gH → Prop} {pc : Nat} {L : List (Option Value)} {S : List Value} {h : gH} {k0 : Fin 4} {i : Nat} {x : Int32} (hd : decode M.2.1 pc = .ok (.istore_n k0, 1)) (hi : (k0 : Nat) = i) (hn : i < M.2.2.1) (k : gE Y M d b Q (pc + 1) (g_st1 L i (.int x)) S h) : gE Y M d b Q pc L (.int x :: S) h :=
  fun p l e R s m args below meth c D tc r0 A r H locs ls hC hR hL h1 h2 h3 h0 => lv_istore_n hC.1 hC.2.1 hd hi (g_L_has hL) hn rfl (fun ls h9 => k p l e R s m args below meth c D tc r0 A r H locs ls hC hR (g_L_st1 (v := .int x) h9) h1 h2 h3 h0)
theorem q_istore {Y : gY} {M : gM} {d : Nat} {b : gB} {Q : Option Value → gH → Prop} {pc : Nat} {L : List (Option Value)} {S : List Value} {h : gH} {i : Nat} {x : Int32} (hd : decode M.2.1 pc = .ok (.istore i, 2)) (hn : i < M.2.2.1) (k : gE Y M d b Q (pc + 2) (g_st1 L i (.int x)) S h) : gE Y M d b Q pc L (.int x :: S) h :=
  fun p l e R s m args below meth c D tc r0 A r H locs ls hC hR hL h1 h2 h3 h0 => lv_istore hC.1 hC.2.1 hd (g_L_has hL) hn rfl (fun ls h9 => k p l e R s m args below meth c D tc r0 A r H locs ls hC hR (g_L_st1 (v := .int x) h9) h1 h2 h3 h0)
theorem q_lstore_n {Y : gY} {M : gM} {d : Nat} {b : gB} {Q : Option Value → gH → Prop} {pc : Nat} {L : List (Option Value)} {S : List Value} {h : gH} {k0 : Fin 4} {i : Nat} {x : Int64} (hd : decode M.2.1 pc = .ok (.lstore_n k0, 1)) (hi : (k0 : Nat) = i) (hn : i + 1 < M.2.2.1) (k : gE Y M d b Q (pc + 1) (g_st2 L i (.long x)) S h) : gE Y M d b Q pc L (.long x :: S) h :=
  fun p l e R s m args below meth c D tc r0 A r H locs ls hC hR hL h1 h2 h3 h0 => lv_lstore_n hC.1 hC.2.1 hd hi (g_L_has hL) hn rfl (fun ls h9 => k p l e R s m args below meth c D tc r0 A r H locs ls hC hR (g_L_st2 (v := .long x) h9) h1 h2 h3 h0)
theorem q_lstore {Y : gY} {M : gM} {d : Nat} {b : gB} {Q : Option Value → gH → Prop} {pc : Nat} {L : List (Option Value)} {S : List Value} {h : gH} {i : Nat} {x : Int64} (hd : decode M.2.1 pc = .ok (.lstore i, 2)) (hn : i + 1 < M.2.2.1) (k : gE Y M d b Q (pc + 2) (g_st2 L i (.long x)) S h) : gE Y M d b Q pc L (.long x :: S) h :=
  fun p l e R s m args below meth c D tc r0 A r H locs ls hC hR hL h1 h2 h3 h0 => lv_lstore hC.1 hC.2.1 hd (g_L_has hL) hn rfl (fun ls h9 => k p l e R s m args below meth c D tc r0 A r H locs ls hC hR (g_L_st2 (v := .long x) h9) h1 h2 h3 h0)
theorem q_astore_n {Y : gY} {M : gM} {d : Nat} {b : gB} {Q : Option Value → gH → Prop} {pc : Nat} {L : List (Option Value)} {S : List Value} {h : gH} {k0 : Fin 4} {i : Nat} {x : Nat} (hd : decode M.2.1 pc = .ok (.astore_n k0, 1)) (hi : (k0 : Nat) = i) (hn : i < M.2.2.1) (k : gE Y M d b Q (pc + 1) (g_st1 L i (.ref x)) S h) : gE Y M d b Q pc L (.ref x :: S) h :=
  fun p l e R s m args below meth c D tc r0 A r H locs ls hC hR hL h1 h2 h3 h0 => lv_astore_n hC.1 hC.2.1 hd hi (g_L_has hL) hn rfl (fun ls h9 => k p l e R s m args below meth c D tc r0 A r H locs ls hC hR (g_L_st1 (v := .ref x) h9) h1 h2 h3 h0)
theorem q_astore {Y : gY} {M : gM} {d : Nat} {b : gB} {Q : Option Value → gH → Prop} {pc : Nat} {L : List (Option Value)} {S : List Value} {h : gH} {i : Nat} {x : Nat} (hd : decode M.2.1 pc = .ok (.astore i, 2)) (hn : i < M.2.2.1) (k : gE Y M d b Q (pc + 2) (g_st1 L i (.ref x)) S h) : gE Y M d b Q pc L (.ref x :: S) h :=
  fun p l e R s m args below meth c D tc r0 A r H locs ls hC hR hL h1 h2 h3 h0 => lv_astore hC.1 hC.2.1 hd (g_L_has hL) hn rfl (fun ls h9 => k p l e R s m args below meth c D tc r0 A r H locs ls hC hR (g_L_st1 (v := .ref x) h9) h1 h2 h3 h0)
theorem q_iinc {Y : gY} {M : gM} {d : Nat} {b : gB} {Q : Option Value → gH → Prop} {pc : Nat} {L : List (Option Value)} {S : List Value} {h : gH} {i : Nat} {n : Int} {x v : Int32} (hd : decode M.2.1 pc = .ok (.iinc i n, 3)) (hl : L[i]? = some (some (.int x))) (hv : x + Int32.ofInt n = v) (hn : i < M.2.2.1) (k : gE Y M d b Q (pc + 3) (g_st1 L i (.int v)) S h) : gE Y M d b Q pc L S h := by
  intro p l e R s m args below meth c D tc r0 A r H locs ls hC hR hL h1 h2 h3 h0
  obtain ⟨j, hj⟩ := List.getElem?_of_mem (g_al_mem (r := r) hl)
  exact lv_iinc hC.1 hC.2.1 hd (g_L_has hL) (k := j) hj hv hn rfl (fun ls h9 => k p l e R s m args below meth c D tc r0 A r H locs ls hC hR (g_L_st1 (v := .int v) h9) h1 h2 h3 h0)
