/-! ===== the words, the small heap, the judgement gE: a method's walk over a small heap whose places are numbers ===== -/
def g_W : List Cond := lw_tbl.filter goodWord
theorem g_W_good {w : Cond} (h : w ∈ g_W) : goodWord w = true := (List.mem_filter.mp h).2
theorem g_W_tbl {w : Cond} (h : w ∈ g_W) : w ∈ lw_tbl := (List.mem_filter.mp h).1
theorem g_in {w : Cond} (h : w ∈ lw_tbl) (g : goodWord w = true) : w ∈ g_W := List.mem_filter.mpr ⟨h, g⟩
/-- a method: its name, its code, how many locals, what it returns -/
abbrev gM : Type := MethodName × ByteArray × Nat × Option FieldType
/-- a small heap: what lies at each place, how many places there are, how many slots were made -/
abbrev gH : Type := (Nat → va_E) × Nat × Nat
/-- a method's bounds: places and slots at its start, places and slots at its end -/
abbrev gB : Type := Nat × Nat × Nat × Nat
def g_ws0 (M : gM) : List Cond := Cond.code M.1 M.2.1 M.2.2.1 M.2.2.2 :: g_W
theorem g_goodIn (M : gM) {big : List Cond} (hb : ∀ w ∈ g_W, w ∈ big) (h : Cond.code M.1 M.2.1 M.2.2.1 M.2.2.2 ∈ g_W) : GoodIn big (g_ws0 M) := by
  intro w hw
  rcases List.mem_cons.mp hw with rfl | hw
  · exact ⟨hb _ h, good_of_word (g_W_good h)⟩
  · exact ⟨hb _ hw, good_of_word (g_W_good hw)⟩
def g_tv (r : Nat → Nat) (v : Value) : Value := match v with
  | .ref a => .ref (r a)
  | .int x => .int x
  | .long x => .long x
  | .float x => .float x
  | .double x => .double x
  | .null => .null
  | .retAddr x => .retAddr x
def g_ta (r : Nat → Nat) (x : vp_A) : vp_A := (x.1, match x.2 with
  | .inl f => .inl f
  | .inr (.inl f) => .inr (.inl f)
  | .inr (.inr (.inl f)) => .inr (.inr (.inl f))
  | .inr (.inr (.inr (.inl f))) => .inr (.inr (.inr (.inl f)))
  | .inr (.inr (.inr (.inr f))) => .inr (.inr (.inr (.inr (fun j => (f j).map r)))))
def g_te (r tc : Nat → Nat) (x : va_E) : va_E := match x with
  | .inl y => .inl (tc y.1, g_ta r y.2)
  | .inr y => .inr (y.1, y.2.map (g_tv r))
def g_ws (r tc : Nat → Nat) (h : gH) : va_W := (List.range h.2.1).map (fun i => (r i, g_te r tc (h.1 i)))
theorem g_ws_at (r tc : Nat → Nat) (h : gH) {a : Nat} (ha : a < h.2.1) : (g_ws r tc h)[a]? = some (r a, g_te r tc (h.1 a)) := by
  simp [g_ws, ha]
theorem g_ws_len (r tc : Nat → Nat) (h : gH) : (g_ws r tc h).length = h.2.1 := by simp [g_ws]
def g_tys (tc : Nat → Nat) : List (ClassId × FieldType) := [(tc 0, .int), (tc 1, .long), (tc 2, .boolean), (tc 3, .object RX2), (tc 4, .object RX4)]
/-- a place is given another cell -/
def g_put (h : gH) (a : Nat) (x : va_E) : gH := (va_up h.1 a x, h.2.1, h.2.2)
theorem g_ws_put (r tc : Nat → Nat) (h : gH) {a : Nat} (ha : a < h.2.1) (x : va_E) : (g_ws r tc h).set a (r a, g_te r tc x) = g_ws r tc (g_put h a x) := by
  apply List.ext_getElem?
  intro i
  rw [List.getElem?_set]
  by_cases hi : i < h.2.1
  · rw [g_ws_at r tc (g_put h a x) (show i < (g_put h a x).2.1 from hi), g_ws_at r tc h hi, g_ws_len]
    by_cases e : a = i
    · subst e
      simp [g_put, va_up, ha]
    · simp [e, g_put, va_up, Ne.symm e]
  · have h1 : (g_ws r tc (g_put h a x))[i]? = none := List.getElem?_eq_none (by rw [g_ws_len]; exact Nat.not_lt.mp hi)
    have h2 : (g_ws r tc h)[i]? = none := List.getElem?_eq_none (by rw [g_ws_len]; exact Nat.not_lt.mp hi)
    rw [h1, h2]
    have : a ≠ i := fun e => hi (e ▸ ha)
    simp [this]
/-- links of private members of nest mates: the class, the entry, the method, the host -/
def g_N : List (String × Nat × MethodName × String) := [(RX5, 11, ⟨RX2, "<init>", "()V"⟩, RX6), (RX6, 25, ⟨RX4, "<init>", "()V"⟩, RX6), (RX6, 32, ⟨RX3, "<init>", "()V"⟩, RX6), (RX6, 62, ⟨RX0, "<init>", "()V"⟩, RX6), (RX6, 67, ⟨RX2, "<init>", "()V"⟩, RX6), (RX2, 69, ⟨RX6, "isHouse", "(I)Z"⟩, RX6), (RX0, 59, ⟨RX6, "isHouse", "(I)Z"⟩, RX6)]
def g_txt (i : Nat) : String := if i = 0 then "holds gifts person kind good thank settle night at over of house if then else end or and not snow here people left right last " else "<>=#+-*/();"
def g_byt : List (List Int32) := [(g_txt 0).toList.map (fun c => Int32.ofNat c.toNat), (g_txt 1).toList.map (fun c => Int32.ofNat c.toNat)]
def g_len : List Nat := [126, 11]
/-- what lies outside of the small heap: the nest's links, the classes of arrays, two texts (at r 1000000, r 1000001; their bytes at r 1000003, r 1000004), two statics (the second: null or r 1000005) -/
def g_X (r : Nat → Nat) (A : Nat → Prop) (U : State) (H : Heap) : Prop :=
  (∀ q ∈ g_N, va_Nw (.methodLinkNest q.1 q.2.1 q.2.2.1 q.2.2.2) U) ∧ va_AO RX2 U ∧ va_AO RX4 U ∧ vk_R RX3 54 (g_txt 0) (r 1000000) U ∧ vk_R RX3 75 (g_txt 1) (r 1000001) U ∧ vk_S 2 g_len g_byt (fun i => r (1000000 + i)) (fun i => r (1000003 + i)) A U H ∧ va_Z "java/lang/String" "COMPACT_STRINGS" "Z" (.int 1) A U H ∧ (va_Z "jdk/internal/util/Preconditions" "SIOOBE_FORMATTER" "Ljava/util/function/BiFunction;" .null A U H ∨ va_Z "jdk/internal/util/Preconditions" "SIOOBE_FORMATTER" "Ljava/util/function/BiFunction;" (.ref (r 1000005)) A U H)
theorem g_X_enter {r : Nat → Nat} {A B : Nat → Prop} {s U : State} {H : Heap} {locs : List Loc} (h : g_X r A s s.heap) (hS : va_S A s.heap H locs) (hU : U.heap = H) (hW : s.WarmedH U.vm) (hB : ∀ q, B q → A q) : g_X r B U U.heap := by
  obtain ⟨a1, a2, a3, a4, a5, a6, a7, a8⟩ := h
  rw [hU]
  have hk : ∀ a : Nat, a < s.heap.size → ¬ A a → H[a]? = s.heap[a]? := fun a h1 h2 => hS.2.1 a h1 h2
  exact ⟨fun q hq => va_Nw.warmM hW (a1 q hq), va_AO.moved hW.alike a2, va_AO.moved hW.alike a3, vk_R.warm hW a4, vk_R.warm hW a5, ((a6.moved hW.alike).kept hk).narrow hB, ((a7.moved hW.alike).kept hk).narrow hB, a8.imp (fun h => ((va_Z.moved hW.alike h).kept hk).narrow hB) (fun h => ((va_Z.moved hW.alike h).kept hk).narrow hB)⟩
theorem g_X_blind {r : Nat → Nat} {A : Nat → Prop} {U T : State} (h : g_X r A U U.heap) (hv : T.vm = U.vm) (hh : T.heap = U.heap) : g_X r A T T.heap := by
  obtain ⟨a1, a2, a3, a4, a5, a6, a7, a8⟩ := h
  rw [hh]
  have hA : U.vm.Alike T.vm := by rw [hv]; exact Vm.Alike.refl U.vm
  exact ⟨fun q hq => va_Nw.same rfl hv.symm (a1 q hq), va_AO.moved hA a2, va_AO.moved hA a3, vk_R.same hv a4, vk_R.same hv a5, a6.moved hA, a7.moved hA, a8.imp (fun h => va_Z.moved hA h) (fun h => va_Z.moved hA h)⟩
theorem g_X_r {r r' : Nat → Nat} {A : Nat → Prop} {U : State} {H : Heap} (e : ∀ i, 1000000 ≤ i → r' i = r i) (h : g_X r A U H) : g_X r' A U H := by
  obtain ⟨a1, a2, a3, a4, a5, a6, a7, a8⟩ := h
  refine ⟨a1, a2, a3, ?_, ?_, ?_, a7, ?_⟩
  · rw [e 1000000 (by omega)]; exact a4
  · rw [e 1000001 (by omega)]; exact a5
  · rw [show (fun i => r' (1000000 + i)) = (fun i => r (1000000 + i)) from funext fun i => e _ (by omega), show (fun i => r' (1000003 + i)) = (fun i => r (1000003 + i)) from funext fun i => e _ (by omega)]; exact a6
  · rw [e 1000005 (by omega)]; exact a8
theorem g_X_up {r : Nat → Nat} {A : Nat → Prop} {U : State} {H : Heap} {n q : Nat} (hn : n < 1000000) (h : g_X r A U H) : g_X (va_up r n q) A U H := g_X_r (fun i hi => va_up_ne r q (by omega)) h
/-- the room of the machine behind a method of this depth, its code, its words -/
def g_C (M : gM) (d : Nat) (b : gB) (p : Program) (R : Room) (s : State) (m : MethodId) (args : Array Value) (meth : Method) (c : Code) : Prop :=
  p.tables.exec = Jvm.exec ∧ c.code = M.2.1 ∧ meth.sig.returnType = M.2.2.2 ∧ c.maxLocals = M.2.2.1 ∧ s.vm.findClass M.1.cls = some m.cls ∧ (∀ w ∈ g_W, w.before args s = true) ∧ meth.locks = false ∧ meth.name = M.1.name ∧ d ≤ R.frames ∧ 64 * d ≤ R.locals ∧ b.2.2.1 ≤ R.cells + b.1 ∧ b.2.2.2 ≤ R.slots + b.2.1
def g_R (D : va_G) (tc r : Nat → Nat) (A : Nat → Prop) (s : State) (H : Heap) (locs : List Loc) (h : gH) : Prop :=
  va_K D vwCl (g_tys tc) s ∧ va_P D vwCl (g_ws r tc h) H ∧ va_D A (g_ws r tc h) ∧ va_S A s.heap H locs ∧ (∀ q, s.heap.size ≤ q → A q) ∧ g_X r A s s.heap
def g_L (r : Nat → Nat) (L : List (Option Value)) (ls : Array Slot) (nL : Nat) : Prop := ls.size = nL ∧ lv_wf ls ∧ ∀ (i : Nat) (v : Value), L[i]? = some (some v) → ls[i]? = some (.val (g_tv r v))
def g_Q (D : va_G) (tc r0 : Nat → Nat) (A : Nat → Prop) (b : gB) (Q : Option Value → gH → Prop) : Array Value → State → Outcome → State → Prop := fun _ st oc t =>
  (∃ (v : Option Value) (h' : gH) (r' : Nat → Nat), oc = .returned (v.map (g_tv r')) ∧ Q v h' ∧ h'.2.1 = b.2.2.1 ∧ h'.2.2 = b.2.2.2 ∧ (∀ i, i < b.1 ∨ 1000000 ≤ i → r' i = r0 i) ∧ (b.2.2.1 = b.1 → r' = r0) ∧ va_P D vwCl (g_ws r' tc h') t.heap ∧ va_K D vwCl (g_tys tc) t ∧ va_D A (g_ws r' tc h')) ∧ va_F A st t
def g_S (b : gB) (h : gH) : Prop := b.1 ≤ h.2.1 ∧ b.2.1 ≤ h.2.2 ∧ h.2.1 ≤ b.2.2.1 ∧ h.2.2 ≤ b.2.2.2
/-- what else a walk may know of the world outside -/
abbrev gY : Type := (Nat → Nat) → (Nat → Prop) → State → Prop
/-- the walk: from this point of the method, over this small heap, it comes to an end of which Q holds -/
def gE (Y : gY) (M : gM) (d : Nat) (b : gB) (Q : Option Value → gH → Prop) (pc : Nat) (L : List (Option Value)) (S : List Value) (h : gH) : Prop :=
  ∀ (p : Program) (l : Launch) (e : Env) (R : Room) (s : State) (m : MethodId) (args : Array Value) (below : List Frame) (meth : Method) (c : Code) (D : va_G) (tc r0 : Nat → Nat) (A : Nat → Prop) (r : Nat → Nat) (H : Heap) (locs : List Loc) (ls : Array Slot),
    g_C M d b p R s m args meth c → g_R D tc r A s H locs h → g_L r L ls M.2.2.1 → (∀ i, i < b.1 ∨ 1000000 ≤ i → r i = r0 i) → (h.2.1 = b.1 → r = r0) → g_S b h → Y r A s →
    W p l e R s m args below meth c H locs (h.2.1 - b.1) (h.2.2 - b.2.1) (MQ below (g_Q D tc r0 A b Q) args s (b.2.2.1 - b.1) (b.2.2.2 - b.2.1) A) (F0 m pc ls (S.map (g_tv r)))
/-- the contract of a method -/
def gC (M : gM) (d : Nat) (b : gB) (avs : List Value) (h : gH) (Q : Option Value → gH → Prop) : Prop :=
  ∀ (l : Launch) (D : va_G) (tc r0 : Nat → Nat) (sz : Nat), Met l M.1 (g_ws0 M) { frames := d, cells := b.2.2.1 - b.1, slots := b.2.2.2 - b.2.1, locals := 64 * d }
    (va_Pc (avs.map (g_tv r0)) (fun U => U.heap.size = sz ∧ va_P D vwCl (g_ws r0 tc h) U.heap ∧ va_K D vwCl (g_tys tc) U ∧ va_D (fun _ => True) (g_ws r0 tc h) ∧ g_X r0 (va_A (g_ws r0 tc h) sz) U U.heap))
    (g_Q D tc r0 (va_A (g_ws r0 tc h) sz) b Q) (b.2.2.1 - b.1) (b.2.2.2 - b.2.1) (va_A (g_ws r0 tc h) sz)
/-- a step that changes the place in the code and the stack alone -/
theorem g_pure {Y : gY} {M : gM} {d : Nat} {b : gB} {Q : Option Value → gH → Prop} {pc pc' : Nat} {L : List (Option Value)} {S S' : List Value} {h : gH}
    (st : ∀ (p : Program) (l : Launch) (e : Env) (R : Room) (s : State) (m : MethodId) (args : Array Value) (below : List Frame) (meth : Method) (c : Code) (H : Heap) (locs : List Loc) (cells slots : Nat) (Z : State → Prop) (ls : Array Slot) (r : Nat → Nat), g_C M d b p R s m args meth c → g_L r L ls M.2.2.1 → W p l e R s m args below meth c H locs cells slots Z (F0 m pc' ls (S'.map (g_tv r))) → W p l e R s m args below meth c H locs cells slots Z (F0 m pc ls (S.map (g_tv r))))
    (k : gE Y M d b Q pc' L S' h) : gE Y M d b Q pc L S h :=
  fun p l e R s m args below meth c D tc r0 A r H locs ls hC hR hL h1 h2 h3 h0 => st p l e R s m args below meth c H locs _ _ _ ls r hC hL (k p l e R s m args below meth c D tc r0 A r H locs ls hC hR hL h1 h2 h3 h0)
