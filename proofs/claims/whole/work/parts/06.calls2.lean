theorem g_opt_map (r : Nat → Nat) (v : Option Value) (S : List Value) : (v.map (g_tv r)).toList ++ S.map (g_tv r) = (v.toList ++ S).map (g_tv r) := by
  cases v <;> simp
/-- a value that names no place from n on (but the texts outside) -/
def g_lt (n : Nat) (v : Value) : Prop := match v with
  | .ref a => a < n ∨ 1000000 ≤ a
  | _ => True
theorem g_lt_tv {n : Nat} {v : Value} {r r' : Nat → Nat} (h : g_lt n v) (e : ∀ i, i < n ∨ 1000000 ≤ i → r' i = r i) : g_tv r' v = g_tv r v := by
  cases v <;> first | rfl | exact congrArg Value.ref (e _ h)
theorem g_lt_map {n : Nat} {S : List Value} {r r' : Nat → Nat} (h : ∀ v ∈ S, g_lt n v) (e : ∀ i, i < n ∨ 1000000 ≤ i → r' i = r i) : S.map (g_tv r') = S.map (g_tv r) :=
  List.map_congr_left fun v hv => g_lt_tv (h v hv) e
theorem g_lt_L {n : Nat} {L : List (Option Value)} {ls : Array Slot} {nL : Nat} {r r' : Nat → Nat} (h : ∀ v, some v ∈ L → g_lt n v) (e : ∀ i, i < n ∨ 1000000 ≤ i → r' i = r i) (hL : g_L r L ls nL) : g_L r' L ls nL :=
  ⟨hL.1, hL.2.1, fun i v hv => by rw [g_lt_tv (h v (List.mem_of_getElem? hv)) e]; exact hL.2.2 i v hv⟩
theorem g_room {M : gM} {d : Nat} {b : gB} {p : Program} {R : Room} {s : State} {m : MethodId} {args : Array Value} {meth : Method} {c : Code} (hC : g_C M d b p R s m args meth c) {M' : gM} {d' : Nat} (hd : d' + 1 ≤ d) (hM : M'.2.2.1 ≤ 45) : d' + 1 ≤ R.frames ∧ 8 + (M'.2.2.1 + 11) + 64 * d' ≤ R.locals := by
  have hr1 : d ≤ R.frames := hC.2.2.2.2.2.2.2.2.1
  have hr2 : 64 * d ≤ R.locals := hC.2.2.2.2.2.2.2.2.2.1
  exact ⟨by omega, by omega⟩
theorem g_fits {M : gM} {d : Nat} {b : gB} {p : Program} {R : Room} {s : State} {m : MethodId} {args : Array Value} {meth : Method} {c : Code} {h : gH} (hC : g_C M d b p R s m args meth c) (h3 : g_S b h) {B1 B2 : Nat} (q1 : B1 ≤ b.2.2.1) (q2 : B2 ≤ b.2.2.2) (q3 : h.2.1 ≤ B1) (q4 : h.2.2 ≤ B2) : h.2.1 - b.1 + (B1 - h.2.1) ≤ R.cells ∧ h.2.2 - b.2.1 + (B2 - h.2.2) ≤ R.slots := by
  have hr3 := hC.2.2.2.2.2.2.2.2.2.2
  obtain ⟨a1, a2, a3, a4⟩ := h3
  exact ⟨by omega, by omega⟩
theorem q_callV {Y : gY} {M : gM} {d : Nat} {b : gB} {Q : Option Value → gH → Prop} {pc : Nat} {L : List (Option Value)} {S : List Value} {h : gH} {M' : gM} {d' n i : Nat}  {a ci : Nat} {fs : List Value} {T : u_T} {N : Nat} {As S1 : List Value} {Q' : Option Value → gH → Prop} (hd : decode M.2.1 pc = .ok (.invokevirtual i, 3)) (hok : g_okV M' n) (hl : Cond.methodLink M.1.cls i M'.1 ∈ g_W) (hn : As.length = n) (hdd : d' + 1 ≤ d) (hS1 : S1 = As.reverse ++ .ref a :: S) (hS8 : (S.map fun v => v.category).sum ≤ 8) (ha : a < h.2.1) (hc : h.1 a = .inr (ci, fs)) (hcl : vwCl[ci]? = some (M'.1.cls, T, N))  (hM : gC M' d' (g_nb h) (.ref a :: As) h Q') (k : ∀ (v : Option Value) (h' : gH), Q' v h' → h'.2 = h.2 → gE Y M d b Q (pc + 3) L (v.toList ++ S) h') : gE Y M d b Q pc L S1 h := by
  intro p l e R s m args below meth c D tc r0 A r H locs ls hC hR hL h1 h2 h3 h0
  subst hS1
  have he : (g_ws r tc h)[a]? = some (r a, .inr (ci, fs.map (g_tv r))) := by rw [g_ws_at r tc h ha, hc]; rfl
  have hrun := va_runV (As := As.map (g_tv r)) (rest := S.map (g_tv r)) (C := M'.1.cls) (b := r a) (g := F0 m pc ls ((As.reverse ++ .ref a :: S).map (g_tv r))) (H := H) (locs := locs) (below := below) (e := e) (meth := meth) (cells := h.2.1 - b.1) (slots := h.2.2 - b.2.1) ⟨hC.1, hC.2.1, hC.2.2.2.1, hC.2.2.2.2.1, hC.2.2.2.2.2.1⟩ (hM l D tc r H.size) ⟨callB_of (Ts := g_W) (ws := g_ws0 M') (ws' := g_W) n hC.2.2.2.2.2.1 (g_goodIn M' (fun _ h9 => h9) hok.1.1) rfl rfl rfl (hC.2.2.2.2.2.1 _ hok.1.2.1) (hC.2.2.2.2.2.1 _ hl) hok.1.2.2.1 (g_room hC hdd hok.1.2.2.2), hC.2.2.2.2.2.1 _ hok.2.1, hC.2.2.2.2.2.1 _ hok.2.2⟩ ⟨g_blind, va_recv hR.1 hR.2.1 hcl he, g_pre hR ((Value.ref a :: As).map (g_tv r))⟩ rfl (by rw [List.length_map]; exact hn) hL.1 (by simp [List.map_reverse, g_tv]) (lv_room (by rw [g_map_cat]; exact hS8)) hd (g_fits hC h3 (B1 := h.2.1) (B2 := h.2.2) h3.2.2.1 h3.2.2.2 (Nat.le_refl _) (Nat.le_refl _))
  refine g_after (b' := (g_nb h)) hrun hR (fun v h' r' H1 locs1 hq z1 z2 r1 r2 hK hP hD hS => ?_)
  have r9 : r' = r := r2 rfl
  subst r9
  have z1 : h'.2.1 = h.2.1 := z1
  have z2 : h'.2.2 = h.2.2 := z2
  have z3 : h'.2 = h.2 := Prod.ext z1 z2
  rw [g_opt_map]
  refine W.cs (cells' := h'.2.1 - b.1) (slots' := h'.2.2 - b.2.1) (by show h.2.1 - b.1 + (h.2.1 - h.2.1) = _; omega) (by show h.2.2 - b.2.1 + (h.2.2 - h.2.2) = _; omega) ?_
  exact k v h' hq z3 p l e R s m args below meth c D tc r0 A r' H1 locs1 ls hC ⟨hK, hP, hD, hS, hR.2.2.2.2⟩ hL h1 (fun e9 => h2 (z1.symm.trans e9)) (by unfold g_S at h3 ⊢; rw [z3]; exact h3) h0
theorem q_callS {Y : gY} {M : gM} {d : Nat} {b : gB} {Q : Option Value → gH → Prop} {pc : Nat} {L : List (Option Value)} {S : List Value} {h : gH} {M' : gM} {d' n i : Nat}   {As S1 : List Value} {Q' : Option Value → gH → Prop} (hd : decode M.2.1 pc = .ok (.invokestatic i, 3)) (hok : g_okS M' n) (hl : Cond.methodLink M.1.cls i M'.1 ∈ g_W) (hn : As.length = n) (hdd : d' + 1 ≤ d) (hS1 : S1 = As.reverse ++ S) (hS8 : (S.map fun v => v.category).sum ≤ 8)   (hM : gC M' d' (g_nb h) As h Q') (k : ∀ (v : Option Value) (h' : gH), Q' v h' → h'.2 = h.2 → gE Y M d b Q (pc + 3) L (v.toList ++ S) h') : gE Y M d b Q pc L S1 h := by
  intro p l e R s m args below meth c D tc r0 A r H locs ls hC hR hL h1 h2 h3 h0
  subst hS1
  skip
  have hrun := va_runS (As := As.map (g_tv r)) (rest := S.map (g_tv r))  (g := F0 m pc ls ((As.reverse ++ S).map (g_tv r))) (H := H) (locs := locs) (below := below) (e := e) (meth := meth) (cells := h.2.1 - b.1) (slots := h.2.2 - b.2.1) ⟨hC.1, hC.2.1, hC.2.2.2.1, hC.2.2.2.2.1, hC.2.2.2.2.2.1⟩ (hM l D tc r H.size) ⟨callB_of (Ts := g_W) (ws := g_ws0 M') (ws' := g_W) n hC.2.2.2.2.2.1 (g_goodIn M' (fun _ h9 => h9) hok.1.1) rfl rfl rfl (hC.2.2.2.2.2.1 _ hok.1.2.1) (hC.2.2.2.2.2.1 _ hl) hok.1.2.2.1 (g_room hC hdd hok.1.2.2.2), hC.2.2.2.2.2.1 _ hok.2⟩ ⟨g_blind, g_pre hR (As.map (g_tv r))⟩ rfl (by rw [List.length_map]; exact hn) hL.1 (by simp [List.map_reverse, g_tv]) (lv_room (by rw [g_map_cat]; exact hS8)) hd (g_fits hC h3 (B1 := h.2.1) (B2 := h.2.2) h3.2.2.1 h3.2.2.2 (Nat.le_refl _) (Nat.le_refl _))
  refine g_after (b' := (g_nb h)) hrun hR (fun v h' r' H1 locs1 hq z1 z2 r1 r2 hK hP hD hS => ?_)
  have r9 : r' = r := r2 rfl
  subst r9
  have z1 : h'.2.1 = h.2.1 := z1
  have z2 : h'.2.2 = h.2.2 := z2
  have z3 : h'.2 = h.2 := Prod.ext z1 z2
  rw [g_opt_map]
  refine W.cs (cells' := h'.2.1 - b.1) (slots' := h'.2.2 - b.2.1) (by show h.2.1 - b.1 + (h.2.1 - h.2.1) = _; omega) (by show h.2.2 - b.2.1 + (h.2.2 - h.2.2) = _; omega) ?_
  exact k v h' hq z3 p l e R s m args below meth c D tc r0 A r' H1 locs1 ls hC ⟨hK, hP, hD, hS, hR.2.2.2.2⟩ hL h1 (fun e9 => h2 (z1.symm.trans e9)) (by unfold g_S at h3 ⊢; rw [z3]; exact h3) h0
theorem q_callSN {Y : gY} {M : gM} {d : Nat} {b : gB} {Q : Option Value → gH → Prop} {pc : Nat} {L : List (Option Value)} {S : List Value} {h : gH} {M' : gM} {d' n i : Nat}   {As S1 : List Value} {Q' : Option Value → gH → Prop} (hd : decode M.2.1 pc = .ok (.invokestatic i, 3)) (hok : g_okS M' n) {host : String} (hl : (M.1.cls, i, M'.1, host) ∈ g_N) (hn : As.length = n) (hdd : d' + 1 ≤ d) (hS1 : S1 = As.reverse ++ S) (hS8 : (S.map fun v => v.category).sum ≤ 8)   (hM : gC M' d' (g_nb h) As h Q') (k : ∀ (v : Option Value) (h' : gH), Q' v h' → h'.2 = h.2 → gE Y M d b Q (pc + 3) L (v.toList ++ S) h') : gE Y M d b Q pc L S1 h := by
  intro p l e R s m args below meth c D tc r0 A r H locs ls hC hR hL h1 h2 h3 h0
  subst hS1
  skip
  have hrun := va_runSN (As := As.map (g_tv r)) (rest := S.map (g_tv r))  (g := F0 m pc ls ((As.reverse ++ S).map (g_tv r))) (H := H) (locs := locs) (below := below) (e := e) (meth := meth) (cells := h.2.1 - b.1) (slots := h.2.2 - b.2.1) ⟨hC.1, hC.2.1, hC.2.2.2.1, hC.2.2.2.2.1, hC.2.2.2.2.2.1⟩ (hM l D tc r H.size) ⟨va_cnB (Ts := g_W) (ws := g_ws0 M') (ws' := g_W) n hC.2.2.2.2.2.1 (g_goodIn M' (fun _ h9 => h9) hok.1.1) rfl rfl rfl (hR.2.2.2.2.2.1 (M.1.cls, i, M'.1, host) hl) (hC.2.2.2.2.2.1 _ hok.1.2.1) hok.1.2.2.1 (g_room hC hdd hok.1.2.2.2), hC.2.2.2.2.2.1 _ hok.2, trivial⟩ ⟨g_blind, g_pre hR (As.map (g_tv r))⟩ rfl (by rw [List.length_map]; exact hn) hL.1 (by simp [List.map_reverse, g_tv]) (lv_room (by rw [g_map_cat]; exact hS8)) hd (g_fits hC h3 (B1 := h.2.1) (B2 := h.2.2) h3.2.2.1 h3.2.2.2 (Nat.le_refl _) (Nat.le_refl _))
  refine g_after (b' := (g_nb h)) hrun hR (fun v h' r' H1 locs1 hq z1 z2 r1 r2 hK hP hD hS => ?_)
  have r9 : r' = r := r2 rfl
  subst r9
  have z1 : h'.2.1 = h.2.1 := z1
  have z2 : h'.2.2 = h.2.2 := z2
  have z3 : h'.2 = h.2 := Prod.ext z1 z2
  rw [g_opt_map]
  refine W.cs (cells' := h'.2.1 - b.1) (slots' := h'.2.2 - b.2.1) (by show h.2.1 - b.1 + (h.2.1 - h.2.1) = _; omega) (by show h.2.2 - b.2.1 + (h.2.2 - h.2.2) = _; omega) ?_
  exact k v h' hq z3 p l e R s m args below meth c D tc r0 A r' H1 locs1 ls hC ⟨hK, hP, hD, hS, hR.2.2.2.2⟩ hL h1 (fun e9 => h2 (z1.symm.trans e9)) (by unfold g_S at h3 ⊢; rw [z3]; exact h3) h0
theorem q_callI {Y : gY} {M : gM} {d : Nat} {b : gB} {Q : Option Value → gH → Prop} {pc : Nat} {L : List (Option Value)} {S : List Value} {h : gH} {M' : gM} {d' n i : Nat} {B1 B2 : Nat} {a : Nat} {As S1 : List Value} {Q' : Option Value → gH → Prop} (hd : decode M.2.1 pc = .ok (.invokespecial i, 3)) (hok : g_okI M' n) (hl : Cond.methodLink M.1.cls i M'.1 ∈ g_W) (hn : As.length = n) (hdd : d' + 1 ≤ d) (hS1 : S1 = As.reverse ++ .ref a :: S) (hS8 : (S.map fun v => v.category).sum ≤ 8)  (hB : h.2.1 ≤ B1 ∧ h.2.2 ≤ B2 ∧ B1 ≤ b.2.2.1 ∧ B2 ≤ b.2.2.2) (hSr : ∀ v ∈ S, g_lt h.2.1 v) (hLr : ∀ v, some v ∈ L → g_lt h.2.1 v) (hY : ∀ (r r' : Nat → Nat) (A : Nat → Prop) (s : State), (∀ i, i < h.2.1 ∨ 1000000 ≤ i → r' i = r i) → Y r A s → Y r' A s) (hM : gC M' d' (h.2.1, h.2.2, B1, B2) (.ref a :: As) h Q') (k : ∀ (v : Option Value) (h' : gH), Q' v h' → h'.2.1 = B1 → h'.2.2 = B2 → gE Y M d b Q (pc + 3) L (v.toList ++ S) h') : gE Y M d b Q pc L S1 h := by
  intro p l e R s m args below meth c D tc r0 A r H locs ls hC hR hL h1 h2 h3 h0
  subst hS1
  obtain ⟨y', c', l', rt'⟩ := M'
  obtain rfl : rt' = none := hok.2.2.2
  have hrun := va_runI (As := As.map (g_tv r)) (rest := S.map (g_tv r)) (b := r a) (g := F0 m pc ls ((As.reverse ++ .ref a :: S).map (g_tv r))) (H := H) (locs := locs) (below := below) (e := e) (meth := meth) (cells := h.2.1 - b.1) (slots := h.2.2 - b.2.1) ⟨hC.1, hC.2.1, hC.2.2.2.1, hC.2.2.2.2.1, hC.2.2.2.2.2.1⟩ (hM l D tc r H.size) ⟨callB_of (Ts := g_W) (ws := g_ws0 (y', c', l', none)) (ws' := g_W) n hC.2.2.2.2.2.1 (g_goodIn (y', c', l', none) (fun _ h9 => h9) hok.1.1) rfl rfl rfl (hC.2.2.2.2.2.1 _ hok.1.2.1) (hC.2.2.2.2.2.1 _ hl) hok.1.2.2.1 (g_room hC hdd hok.1.2.2.2), hok.2.2.1, hC.2.2.2.2.2.1 _ hok.2.1⟩ ⟨g_blind, g_pre hR ((Value.ref a :: As).map (g_tv r))⟩ rfl (by rw [List.length_map]; exact hn) hL.1 (by simp [List.map_reverse, g_tv]) (lv_room (by rw [g_map_cat]; exact hS8)) hd (g_fits hC h3 hB.2.2.1 hB.2.2.2 hB.1 hB.2.1)
  refine g_after (b' := (h.2.1, h.2.2, B1, B2)) hrun hR (fun v h' r' H1 locs1 hq z1 z2 r1 r2 hK hP hD hS => ?_)
  have z1 : h'.2.1 = B1 := z1
  have z2 : h'.2.2 = B2 := z2
  have r1 : ∀ i, i < h.2.1 ∨ 1000000 ≤ i → r' i = r i := r1
  obtain ⟨a1, a2, a3, a4⟩ := h3
  rw [← g_lt_map hSr r1, g_opt_map]
  refine W.cs (cells' := h'.2.1 - b.1) (slots' := h'.2.2 - b.2.1) (by show h.2.1 - b.1 + (B1 - h.2.1) = _; omega) (by show h.2.2 - b.2.1 + (B2 - h.2.2) = _; omega) ?_
  have hX : g_X r' A s s.heap := by
    exact g_X_r (fun i hi => r1 i (Or.inr hi)) hR.2.2.2.2.2
  refine k v h' hq z1 z2 p l e R s m args below meth c D tc r0 A r' H1 locs1 ls hC ⟨hK, hP, hD, hS, hR.2.2.2.2.1, hX⟩ (g_lt_L hLr r1 hL) (fun i hi => (r1 i (by omega)).trans (h1 i hi)) ?_ ⟨by omega, by omega, by omega, by omega⟩ (hY r r' A s r1 h0)
  intro e9
  have e8 : h.2.1 = b.1 := by omega
  rw [r2 (by show B1 = h.2.1; omega)]
  exact h2 e8
theorem q_callIN {Y : gY} {M : gM} {d : Nat} {b : gB} {Q : Option Value → gH → Prop} {pc : Nat} {L : List (Option Value)} {S : List Value} {h : gH} {M' : gM} {d' n i : Nat} {B1 B2 : Nat} {a : Nat} {As S1 : List Value} {Q' : Option Value → gH → Prop} (hd : decode M.2.1 pc = .ok (.invokespecial i, 3)) (hok : g_okI M' n) {host : String} (hl : (M.1.cls, i, M'.1, host) ∈ g_N) (hn : As.length = n) (hdd : d' + 1 ≤ d) (hS1 : S1 = As.reverse ++ .ref a :: S) (hS8 : (S.map fun v => v.category).sum ≤ 8)  (hB : h.2.1 ≤ B1 ∧ h.2.2 ≤ B2 ∧ B1 ≤ b.2.2.1 ∧ B2 ≤ b.2.2.2) (hSr : ∀ v ∈ S, g_lt h.2.1 v) (hLr : ∀ v, some v ∈ L → g_lt h.2.1 v) (hY : ∀ (r r' : Nat → Nat) (A : Nat → Prop) (s : State), (∀ i, i < h.2.1 ∨ 1000000 ≤ i → r' i = r i) → Y r A s → Y r' A s) (hM : gC M' d' (h.2.1, h.2.2, B1, B2) (.ref a :: As) h Q') (k : ∀ (v : Option Value) (h' : gH), Q' v h' → h'.2.1 = B1 → h'.2.2 = B2 → gE Y M d b Q (pc + 3) L (v.toList ++ S) h') : gE Y M d b Q pc L S1 h := by
  intro p l e R s m args below meth c D tc r0 A r H locs ls hC hR hL h1 h2 h3 h0
  subst hS1
  obtain ⟨y', c', l', rt'⟩ := M'
  obtain rfl : rt' = none := hok.2.2.2
  have hrun := va_runIN (As := As.map (g_tv r)) (rest := S.map (g_tv r)) (b := r a) (g := F0 m pc ls ((As.reverse ++ .ref a :: S).map (g_tv r))) (H := H) (locs := locs) (below := below) (e := e) (meth := meth) (cells := h.2.1 - b.1) (slots := h.2.2 - b.2.1) ⟨hC.1, hC.2.1, hC.2.2.2.1, hC.2.2.2.2.1, hC.2.2.2.2.2.1⟩ (hM l D tc r H.size) ⟨va_cnB (Ts := g_W) (ws := g_ws0 (y', c', l', none)) (ws' := g_W) n hC.2.2.2.2.2.1 (g_goodIn (y', c', l', none) (fun _ h9 => h9) hok.1.1) rfl rfl rfl (hR.2.2.2.2.2.1 (M.1.cls, i, y', host) hl) (hC.2.2.2.2.2.1 _ hok.1.2.1) hok.1.2.2.1 (g_room hC hdd hok.1.2.2.2), hok.2.2.1, hC.2.2.2.2.2.1 _ hok.2.1⟩ ⟨g_blind, g_pre hR ((Value.ref a :: As).map (g_tv r))⟩ rfl (by rw [List.length_map]; exact hn) hL.1 (by simp [List.map_reverse, g_tv]) (lv_room (by rw [g_map_cat]; exact hS8)) hd (g_fits hC h3 hB.2.2.1 hB.2.2.2 hB.1 hB.2.1)
  refine g_after (b' := (h.2.1, h.2.2, B1, B2)) hrun hR (fun v h' r' H1 locs1 hq z1 z2 r1 r2 hK hP hD hS => ?_)
  have z1 : h'.2.1 = B1 := z1
  have z2 : h'.2.2 = B2 := z2
  have r1 : ∀ i, i < h.2.1 ∨ 1000000 ≤ i → r' i = r i := r1
  obtain ⟨a1, a2, a3, a4⟩ := h3
  rw [← g_lt_map hSr r1, g_opt_map]
  refine W.cs (cells' := h'.2.1 - b.1) (slots' := h'.2.2 - b.2.1) (by show h.2.1 - b.1 + (B1 - h.2.1) = _; omega) (by show h.2.2 - b.2.1 + (B2 - h.2.2) = _; omega) ?_
  have hX : g_X r' A s s.heap := by
    exact g_X_r (fun i hi => r1 i (Or.inr hi)) hR.2.2.2.2.2
  refine k v h' hq z1 z2 p l e R s m args below meth c D tc r0 A r' H1 locs1 ls hC ⟨hK, hP, hD, hS, hR.2.2.2.2.1, hX⟩ (g_lt_L hLr r1 hL) (fun i hi => (r1 i (by omega)).trans (h1 i hi)) ?_ ⟨by omega, by omega, by omega, by omega⟩ (hY r r' A s r1 h0)
  intro e9
  have e8 : h.2.1 = b.1 := by omega
  rw [r2 (by show B1 = h.2.1; omega)]
  exact h2 e8
theorem q_obj {Y : gY} {M : gM} {d : Nat} {b : gB} {Q : Option Value → gH → Prop} {pc : Nat} {L : List (Option Value)} {S : List Value} {h : gH} {a i : Nat} (hd : decode M.2.1 pc = .ok (.invokespecial i, 3)) (hl : Cond.methodLink M.1.cls i Lib.objectInit ∈ g_W) (hw1 : Cond.instanceMethod Lib.objectInit ∈ g_W) (hw2 : Cond.code Lib.objectInit ⟨#[0xb1]⟩ 1 none ∈ g_W) (hd1 : 1 ≤ d) (hS8 : (S.map fun v => v.category).sum ≤ 8) (k : gE Y M d b Q (pc + 3) L S h) : gE Y M d b Q pc L (.ref a :: S) h := by
  intro p l e R s m args below meth c D tc r0 A r H locs ls hC hR hL h1 h2 h3 h0
  have hr1 : d ≤ R.frames := hC.2.2.2.2.2.2.2.2.1
  have hr2 : 64 * d ≤ R.locals := hC.2.2.2.2.2.2.2.2.2.1
  have hr3 := lv_room (m := m) (pc := pc) (ls := ls) (rest := []) (st := S.map (g_tv r)) (by rw [g_map_cat]; exact hS8)
  exact W.objInit hC.1 hC.2.1 hC.2.2.2.2.1 (hC.2.2.2.2.2.1 _ hl) (hC.2.2.2.2.2.1 _ hw1) (hC.2.2.2.2.2.1 _ hw2) rfl (hL.1.trans hC.2.2.2.1.symm) rfl hd (by omega) (Nat.le_trans (Nat.add_le_add_right hr3 12) (by omega)) (k p l e R s m args below meth c D tc r0 A r H locs ls hC hR hL h1 h2 h3 h0)
theorem g_cb {N : Nat} {ty : FieldType} (h : componentBytes ty ≤ 8) (hN : N ≤ 10000) : N * componentBytes ty ≤ 536870912 := Nat.le_trans (Nat.mul_le_mul hN h) (by decide)
/-- a new place -/
def g_new (h : gH) (x : va_E) (N : Nat) : gH := (va_up h.1 h.2.1 x, h.2.1 + 1, h.2.2 + N)
/-- a cell that names no place from n on -/
def g_ce (n : Nat) (x : va_E) : Prop := match x with
  | .inl y => (match y.2.2 with
    | .inr (.inr (.inr (.inr f))) => ∀ j a, f j = some a → a < n
    | _ => True)
  | .inr y => ∀ v ∈ y.2, g_lt n v
theorem g_ce_te {n : Nat} {x : va_E} {r r' tc : Nat → Nat} (h : g_ce n x) (e : ∀ i, i < n ∨ 1000000 ≤ i → r' i = r i) : g_te r' tc x = g_te r tc x := by
  rcases x with ⟨t, n', f | f | f | f | f⟩ | ⟨ci, fs⟩
  · rfl
  · rfl
  · rfl
  · rfl
  · simp only [g_ce] at h
    simp only [g_te, g_ta]
    congr 7
    funext j
    cases hj : f j with
    | none => rfl
    | some a => simp [e a (Or.inl (h j a hj))]
  · simp only [g_te]
    rw [g_lt_map h e]
theorem g_ws_new {r tc : Nat → Nat} {h : gH} {x : va_E} {N q : Nat} (hn : h.2.1 < 1000000) (hh : ∀ i, i < h.2.1 → g_ce h.2.1 (h.1 i)) (hx : g_ce h.2.1 x) : g_ws (va_up r h.2.1 q) tc (g_new h x N) = g_ws r tc h ++ [(q, g_te r tc x)] := by
  have e : ∀ i, i < h.2.1 ∨ 1000000 ≤ i → va_up r h.2.1 q i = r i := fun i hi => va_up_ne r q (by omega)
  unfold g_ws g_new
  simp only [List.range_succ, List.map_append, List.map_cons, List.map_nil]
  congr 1
  · apply List.map_congr_left
    intro i hi
    have hi' := List.mem_range.mp hi
    rw [e i (Or.inl hi'), va_up_ne h.1 x (Nat.ne_of_lt hi'), g_ce_te (hh i hi') e]
  · rw [va_up_self, va_up_self, g_ce_te hx e]
theorem q_new {Y : gY} {M : gM} {d : Nat} {b : gB} {Q : Option Value → gH → Prop} {pc : Nat} {L : List (Option Value)} {S : List Value} {h : gH} {ci i N : Nat} {C : String} {T : u_T} {fs : List Value} (hd : decode M.2.1 pc = .ok (.new i, 3)) (hl : Cond.classLink M.1.cls i C ∈ g_W) (hw1 : Cond.instantiable C N ∈ g_W) (hw2 : Cond.initialized C ∈ g_W) (hin : ∀ w ∈ u_ws C T N, w ∈ g_W) (ty : Nat → FieldType) (hty : ∀ k, k < N → parseFieldDescriptor (T k).2.2.1 = some (ty k)) (hcl : vwCl[ci]? = some (C, T, N)) (hfs : ∀ j, j < N → defaultValue (ty j) = vp_V fs j) (hnr : ∀ (r : Nat → Nat), fs.map (g_tv r) = fs) (hxx : g_ce h.2.1 (.inr (ci, fs))) (hsm : h.2.1 < 1000000) (hB : h.2.1 + 1 ≤ b.2.2.1 ∧ h.2.2 + N ≤ b.2.2.2) (hh : ∀ i, i < h.2.1 → g_ce h.2.1 (h.1 i)) (hSr : ∀ v ∈ S, g_lt h.2.1 v) (hLr : ∀ v, some v ∈ L → g_lt h.2.1 v) (hY : ∀ (r r' : Nat → Nat) (A : Nat → Prop) (s : State), (∀ i, i < h.2.1 ∨ 1000000 ≤ i → r' i = r i) → Y r A s → Y r' A s) (k : gE Y M d b Q (pc + 3) L (.ref h.2.1 :: S) (g_new h (.inr (ci, fs)) N)) : gE Y M d b Q pc L S h := by
  intro p l e_ R s m args below meth c D tc r0 A r H locs ls hC hR hL h1 h2 h3 h0
  refine va_new hC.1 hC.2.1 hC.2.2.2.2.2.1 hin ty hty hC.2.2.2.2.1 (hC.2.2.2.2.2.1 _ hl) (hC.2.2.2.2.2.1 _ hw1) (hC.2.2.2.2.2.1 _ hw2) hR.1 hR.2.1 hR.2.2.1 hR.2.2.2.1 hR.2.2.2.2.1 hcl hfs (by have := hC.2.2.2.2.2.2.2.2.2.2.1; have := h3.1; have := h3.2.2.1; have := hB.1; omega) (by have := hC.2.2.2.2.2.2.2.2.2.2.2; have := h3.2.1; have := h3.2.2.2; have := hB.2; omega) hd (fun q H1 hP hD hS => ?_)
  have e5 : (q, (Sum.inr (ci, fs) : va_E)) = (q, g_te r tc (.inr (ci, fs))) := by simp only [g_te, hnr]
  rw [e5] at hP hD
  have hn6 : h.2.1 < 1000000 := hsm
  have e : ∀ i, i < h.2.1 ∨ 1000000 ≤ i → va_up r h.2.1 q i = r i := fun i hi => va_up_ne r q (by omega)
  obtain ⟨a1, a2, a3, a4⟩ := h3
  rw [← g_ws_new (N := N) hn6 hh hxx] at hP hD
  refine W.cs (cells' := (g_new h (.inr (ci, fs)) N).2.1 - b.1) (slots' := (g_new h (.inr (ci, fs)) N).2.2 - b.2.1) (by show h.2.1 - b.1 + 1 = h.2.1 + 1 - b.1; omega) (by show h.2.2 - b.2.1 + N = h.2.2 + N - b.2.1; omega) ?_
  have k9 := k p l e_ R s m args below meth c D tc r0 A (va_up r h.2.1 q) H1 locs ls hC ⟨hR.1, hP, hD, hS, hR.2.2.2.2.1, g_X_up hn6 hR.2.2.2.2.2⟩ (g_lt_L hLr e hL) (fun i hi => (e i (by omega)).trans (h1 i hi)) (fun e9 => absurd e9 (by show ¬ h.2.1 + 1 = b.1; omega)) ⟨by show b.1 ≤ h.2.1 + 1; omega, by show b.2.1 ≤ h.2.2 + N; omega, hB.1, hB.2⟩ (hY r (va_up r h.2.1 q) A s e h0)
  rw [List.map_cons, g_lt_map hSr e] at k9
  simp only [g_tv, va_up_self] at k9
  exact k9
theorem q_newI {Y : gY} {M : gM} {d : Nat} {b : gB} {Q : Option Value → gH → Prop} {pc : Nat} {L : List (Option Value)} {S : List Value} {h : gH} {n : Int32} {N : Nat} (hd : decode M.2.1 pc = .ok (.newarray .int, 2)) (hw1 : Cond.arrayClass .int ∈ g_W) (hn0 : ¬ n < 0) (hN : n.toNatClampNeg = N) (hN2 : N ≤ 10000) (hsm : h.2.1 < 1000000) (hB : h.2.1 + 1 ≤ b.2.2.1 ∧ h.2.2 + N ≤ b.2.2.2) (hh : ∀ i, i < h.2.1 → g_ce h.2.1 (h.1 i)) (hSr : ∀ v ∈ S, g_lt h.2.1 v) (hLr : ∀ v, some v ∈ L → g_lt h.2.1 v) (hY : ∀ (r r' : Nat → Nat) (A : Nat → Prop) (s : State), (∀ i, i < h.2.1 ∨ 1000000 ≤ i → r' i = r i) → Y r A s → Y r' A s) (k : gE Y M d b Q (pc + 2) L (.ref h.2.1 :: S) (g_new h (.inl (0, N, .inl (fun _ => 0))) N)) : gE Y M d b Q pc L (.int n :: S) h := by
  intro p l e_ R s m args below meth c D tc r0 A r H locs ls hC hR hL h1 h2 h3 h0
  refine va_newa (atype := .int) (ty := .int) (a0 := (N, .inl (fun _ => 0))) hC.1 hC.2.1 (hC.2.2.2.2.2.1 _ hw1) rfl hR.1 hR.2.1 hR.2.2.1 hR.2.2.2.1 hR.2.2.2.2.1 (fun _ => rfl) hn0 hN (g_cb (by decide) hN2) (by have := hC.2.2.2.2.2.2.2.2.2.2.1; have := h3.1; have := h3.2.2.1; have := hB.1; omega) (by have := hC.2.2.2.2.2.2.2.2.2.2.2; have := h3.2.1; have := h3.2.2.2; have := hB.2; omega) hd (fun q cA H1 hK hP hD hS => ?_)
  have hcA : cA = tc 0 := by
    have q1 := (hK.2 5 (cA, .int) rfl).2
    have q2 := (hR.1.2 0 (tc 0, .int) rfl).2
    exact Option.some.inj (q1.symm.trans q2)
  subst hcA
  have hxx : g_ce h.2.1 (.inl (0, N, .inl (fun _ => 0))) := trivial
  have e5 : (q, (Sum.inl (tc 0, N, .inl (fun _ => 0)) : va_E)) = (q, g_te r tc (.inl (0, N, .inl (fun _ => 0)))) := rfl
  rw [e5] at hP hD
  have hn6 : h.2.1 < 1000000 := hsm
  have e : ∀ i, i < h.2.1 ∨ 1000000 ≤ i → va_up r h.2.1 q i = r i := fun i hi => va_up_ne r q (by omega)
  obtain ⟨a1, a2, a3, a4⟩ := h3
  rw [← g_ws_new (N := N) hn6 hh hxx] at hP hD
  refine W.cs (cells' := (g_new h (.inl (0, N, .inl (fun _ => 0))) N).2.1 - b.1) (slots' := (g_new h (.inl (0, N, .inl (fun _ => 0))) N).2.2 - b.2.1) (by show h.2.1 - b.1 + 1 = h.2.1 + 1 - b.1; omega) (by show h.2.2 - b.2.1 + N = h.2.2 + N - b.2.1; omega) ?_
  have k9 := k p l e_ R s m args below meth c D tc r0 A (va_up r h.2.1 q) H1 locs ls hC ⟨hR.1, hP, hD, hS, hR.2.2.2.2.1, g_X_up hn6 hR.2.2.2.2.2⟩ (g_lt_L hLr e hL) (fun i hi => (e i (by omega)).trans (h1 i hi)) (fun e9 => absurd e9 (by show ¬ h.2.1 + 1 = b.1; omega)) ⟨by show b.1 ≤ h.2.1 + 1; omega, by show b.2.1 ≤ h.2.2 + N; omega, hB.1, hB.2⟩ (hY r (va_up r h.2.1 q) A s e h0)
  rw [List.map_cons, g_lt_map hSr e] at k9
  simp only [g_tv, va_up_self] at k9
  exact k9
theorem q_newJ {Y : gY} {M : gM} {d : Nat} {b : gB} {Q : Option Value → gH → Prop} {pc : Nat} {L : List (Option Value)} {S : List Value} {h : gH} {n : Int32} {N : Nat} (hd : decode M.2.1 pc = .ok (.newarray .long, 2)) (hw1 : Cond.arrayClass .long ∈ g_W) (hn0 : ¬ n < 0) (hN : n.toNatClampNeg = N) (hN2 : N ≤ 10000) (hsm : h.2.1 < 1000000) (hB : h.2.1 + 1 ≤ b.2.2.1 ∧ h.2.2 + N ≤ b.2.2.2) (hh : ∀ i, i < h.2.1 → g_ce h.2.1 (h.1 i)) (hSr : ∀ v ∈ S, g_lt h.2.1 v) (hLr : ∀ v, some v ∈ L → g_lt h.2.1 v) (hY : ∀ (r r' : Nat → Nat) (A : Nat → Prop) (s : State), (∀ i, i < h.2.1 ∨ 1000000 ≤ i → r' i = r i) → Y r A s → Y r' A s) (k : gE Y M d b Q (pc + 2) L (.ref h.2.1 :: S) (g_new h (.inl (1, N, .inr (.inl (fun _ => 0)))) N)) : gE Y M d b Q pc L (.int n :: S) h := by
  intro p l e_ R s m args below meth c D tc r0 A r H locs ls hC hR hL h1 h2 h3 h0
  refine va_newa (atype := .long) (ty := .long) (a0 := (N, .inr (.inl (fun _ => 0)))) hC.1 hC.2.1 (hC.2.2.2.2.2.1 _ hw1) rfl hR.1 hR.2.1 hR.2.2.1 hR.2.2.2.1 hR.2.2.2.2.1 (fun _ => rfl) hn0 hN (g_cb (by decide) hN2) (by have := hC.2.2.2.2.2.2.2.2.2.2.1; have := h3.1; have := h3.2.2.1; have := hB.1; omega) (by have := hC.2.2.2.2.2.2.2.2.2.2.2; have := h3.2.1; have := h3.2.2.2; have := hB.2; omega) hd (fun q cA H1 hK hP hD hS => ?_)
  have hcA : cA = tc 1 := by
    have q1 := (hK.2 5 (cA, .long) rfl).2
    have q2 := (hR.1.2 1 (tc 1, .long) rfl).2
    exact Option.some.inj (q1.symm.trans q2)
  subst hcA
  have hxx : g_ce h.2.1 (.inl (1, N, .inr (.inl (fun _ => 0)))) := trivial
  have e5 : (q, (Sum.inl (tc 1, N, .inr (.inl (fun _ => 0))) : va_E)) = (q, g_te r tc (.inl (1, N, .inr (.inl (fun _ => 0))))) := rfl
  rw [e5] at hP hD
  have hn6 : h.2.1 < 1000000 := hsm
  have e : ∀ i, i < h.2.1 ∨ 1000000 ≤ i → va_up r h.2.1 q i = r i := fun i hi => va_up_ne r q (by omega)
  obtain ⟨a1, a2, a3, a4⟩ := h3
  rw [← g_ws_new (N := N) hn6 hh hxx] at hP hD
  refine W.cs (cells' := (g_new h (.inl (1, N, .inr (.inl (fun _ => 0)))) N).2.1 - b.1) (slots' := (g_new h (.inl (1, N, .inr (.inl (fun _ => 0)))) N).2.2 - b.2.1) (by show h.2.1 - b.1 + 1 = h.2.1 + 1 - b.1; omega) (by show h.2.2 - b.2.1 + N = h.2.2 + N - b.2.1; omega) ?_
  have k9 := k p l e_ R s m args below meth c D tc r0 A (va_up r h.2.1 q) H1 locs ls hC ⟨hR.1, hP, hD, hS, hR.2.2.2.2.1, g_X_up hn6 hR.2.2.2.2.2⟩ (g_lt_L hLr e hL) (fun i hi => (e i (by omega)).trans (h1 i hi)) (fun e9 => absurd e9 (by show ¬ h.2.1 + 1 = b.1; omega)) ⟨by show b.1 ≤ h.2.1 + 1; omega, by show b.2.1 ≤ h.2.2 + N; omega, hB.1, hB.2⟩ (hY r (va_up r h.2.1 q) A s e h0)
  rw [List.map_cons, g_lt_map hSr e] at k9
  simp only [g_tv, va_up_self] at k9
  exact k9
theorem q_newZ {Y : gY} {M : gM} {d : Nat} {b : gB} {Q : Option Value → gH → Prop} {pc : Nat} {L : List (Option Value)} {S : List Value} {h : gH} {n : Int32} {N : Nat} (hd : decode M.2.1 pc = .ok (.newarray .boolean, 2)) (hw1 : Cond.arrayClass .boolean ∈ g_W) (hn0 : ¬ n < 0) (hN : n.toNatClampNeg = N) (hN2 : N ≤ 10000) (hsm : h.2.1 < 1000000) (hB : h.2.1 + 1 ≤ b.2.2.1 ∧ h.2.2 + N ≤ b.2.2.2) (hh : ∀ i, i < h.2.1 → g_ce h.2.1 (h.1 i)) (hSr : ∀ v ∈ S, g_lt h.2.1 v) (hLr : ∀ v, some v ∈ L → g_lt h.2.1 v) (hY : ∀ (r r' : Nat → Nat) (A : Nat → Prop) (s : State), (∀ i, i < h.2.1 ∨ 1000000 ≤ i → r' i = r i) → Y r A s → Y r' A s) (k : gE Y M d b Q (pc + 2) L (.ref h.2.1 :: S) (g_new h (.inl (2, N, .inl (fun _ => 0))) N)) : gE Y M d b Q pc L (.int n :: S) h := by
  intro p l e_ R s m args below meth c D tc r0 A r H locs ls hC hR hL h1 h2 h3 h0
  refine va_newa (atype := .boolean) (ty := .boolean) (a0 := (N, .inl (fun _ => 0))) hC.1 hC.2.1 (hC.2.2.2.2.2.1 _ hw1) rfl hR.1 hR.2.1 hR.2.2.1 hR.2.2.2.1 hR.2.2.2.2.1 (fun _ => rfl) hn0 hN (g_cb (by decide) hN2) (by have := hC.2.2.2.2.2.2.2.2.2.2.1; have := h3.1; have := h3.2.2.1; have := hB.1; omega) (by have := hC.2.2.2.2.2.2.2.2.2.2.2; have := h3.2.1; have := h3.2.2.2; have := hB.2; omega) hd (fun q cA H1 hK hP hD hS => ?_)
  have hcA : cA = tc 2 := by
    have q1 := (hK.2 5 (cA, .boolean) rfl).2
    have q2 := (hR.1.2 2 (tc 2, .boolean) rfl).2
    exact Option.some.inj (q1.symm.trans q2)
  subst hcA
  have hxx : g_ce h.2.1 (.inl (2, N, .inl (fun _ => 0))) := trivial
  have e5 : (q, (Sum.inl (tc 2, N, .inl (fun _ => 0)) : va_E)) = (q, g_te r tc (.inl (2, N, .inl (fun _ => 0)))) := rfl
  rw [e5] at hP hD
  have hn6 : h.2.1 < 1000000 := hsm
  have e : ∀ i, i < h.2.1 ∨ 1000000 ≤ i → va_up r h.2.1 q i = r i := fun i hi => va_up_ne r q (by omega)
  obtain ⟨a1, a2, a3, a4⟩ := h3
  rw [← g_ws_new (N := N) hn6 hh hxx] at hP hD
  refine W.cs (cells' := (g_new h (.inl (2, N, .inl (fun _ => 0))) N).2.1 - b.1) (slots' := (g_new h (.inl (2, N, .inl (fun _ => 0))) N).2.2 - b.2.1) (by show h.2.1 - b.1 + 1 = h.2.1 + 1 - b.1; omega) (by show h.2.2 - b.2.1 + N = h.2.2 + N - b.2.1; omega) ?_
  have k9 := k p l e_ R s m args below meth c D tc r0 A (va_up r h.2.1 q) H1 locs ls hC ⟨hR.1, hP, hD, hS, hR.2.2.2.2.1, g_X_up hn6 hR.2.2.2.2.2⟩ (g_lt_L hLr e hL) (fun i hi => (e i (by omega)).trans (h1 i hi)) (fun e9 => absurd e9 (by show ¬ h.2.1 + 1 = b.1; omega)) ⟨by show b.1 ≤ h.2.1 + 1; omega, by show b.2.1 ≤ h.2.2 + N; omega, hB.1, hB.2⟩ (hY r (va_up r h.2.1 q) A s e h0)
  rw [List.map_cons, g_lt_map hSr e] at k9
  simp only [g_tv, va_up_self] at k9
  exact k9
theorem q_newR {Y : gY} {M : gM} {d : Nat} {b : gB} {Q : Option Value → gH → Prop} {pc : Nat} {L : List (Option Value)} {S : List Value} {h : gH} {t i : Nat} {C : String} {n : Int32} {N : Nat} (hd : decode M.2.1 pc = .ok (.anewarray i, 3)) (ht : (t = 3 ∧ C = RX2) ∨ (t = 4 ∧ C = RX4)) (hl : Cond.classLink M.1.cls i C ∈ g_W) (hn0 : ¬ n < 0) (hN : n.toNatClampNeg = N) (hN2 : N ≤ 10000) (hsm : h.2.1 < 1000000) (hB : h.2.1 + 1 ≤ b.2.2.1 ∧ h.2.2 + N ≤ b.2.2.2) (hh : ∀ i, i < h.2.1 → g_ce h.2.1 (h.1 i)) (hSr : ∀ v ∈ S, g_lt h.2.1 v) (hLr : ∀ v, some v ∈ L → g_lt h.2.1 v) (hY : ∀ (r r' : Nat → Nat) (A : Nat → Prop) (s : State), (∀ i, i < h.2.1 ∨ 1000000 ≤ i → r' i = r i) → Y r A s → Y r' A s) (k : gE Y M d b Q (pc + 3) L (.ref h.2.1 :: S) (g_new h (.inl (t, N, .inr (.inr (.inr (.inr (fun _ => none)))))) N)) : gE Y M d b Q pc L (.int n :: S) h := by
  intro p l e_ R s m args below meth c D tc r0 A r H locs ls hC hR hL h1 h2 h3 h0
  have hao : va_AO C s := by rcases ht with ⟨rfl, rfl⟩ | ⟨rfl, rfl⟩; exact hR.2.2.2.2.2.2.1; exact hR.2.2.2.2.2.2.2.1
  refine va_newq hC.1 hC.2.1 hC.2.2.2.2.1 (hC.2.2.2.2.2.1 _ hl) hao hR.1 hR.2.1 hR.2.2.1 hR.2.2.2.1 hR.2.2.2.2.1 hn0 hN (Nat.le_trans (Nat.mul_le_mul_right 4 hN2) (by decide)) (by have := hC.2.2.2.2.2.2.2.2.2.2.1; have := h3.1; have := h3.2.2.1; have := hB.1; omega) (by have := hC.2.2.2.2.2.2.2.2.2.2.2; have := h3.2.1; have := h3.2.2.2; have := hB.2; omega) hd (fun q cA H1 hK hP hD hS => ?_)
  have hcA : cA = tc t := by
    obtain ⟨_, _, _, _, _, q1⟩ := (hK.2 5 (cA, .object C) rfl).2
    obtain ⟨_, _, _, _, _, q2⟩ := (hR.1.2 t (tc t, .object C) (g_tys_q ht)).2
    exact Option.some.inj (q1.symm.trans q2)
  subst hcA
  have hxx : g_ce h.2.1 (.inl (t, N, .inr (.inr (.inr (.inr (fun _ => none)))))) := fun j a h9 => by cases h9
  have e5 : (q, (Sum.inl (tc t, N, .inr (.inr (.inr (.inr (fun _ => none))))) : va_E)) = (q, g_te r tc (.inl (t, N, .inr (.inr (.inr (.inr (fun _ => none))))))) := rfl
  rw [e5] at hP hD
  have hn6 : h.2.1 < 1000000 := hsm
  have e : ∀ i, i < h.2.1 ∨ 1000000 ≤ i → va_up r h.2.1 q i = r i := fun i hi => va_up_ne r q (by omega)
  obtain ⟨a1, a2, a3, a4⟩ := h3
  rw [← g_ws_new (N := N) hn6 hh hxx] at hP hD
  refine W.cs (cells' := (g_new h (.inl (t, N, .inr (.inr (.inr (.inr (fun _ => none)))))) N).2.1 - b.1) (slots' := (g_new h (.inl (t, N, .inr (.inr (.inr (.inr (fun _ => none)))))) N).2.2 - b.2.1) (by show h.2.1 - b.1 + 1 = h.2.1 + 1 - b.1; omega) (by show h.2.2 - b.2.1 + N = h.2.2 + N - b.2.1; omega) ?_
  have k9 := k p l e_ R s m args below meth c D tc r0 A (va_up r h.2.1 q) H1 locs ls hC ⟨hR.1, hP, hD, hS, hR.2.2.2.2.1, g_X_up hn6 hR.2.2.2.2.2⟩ (g_lt_L hLr e hL) (fun i hi => (e i (by omega)).trans (h1 i hi)) (fun e9 => absurd e9 (by show ¬ h.2.1 + 1 = b.1; omega)) ⟨by show b.1 ≤ h.2.1 + 1; omega, by show b.2.1 ≤ h.2.2 + N; omega, hB.1, hB.2⟩ (hY r (va_up r h.2.1 q) A s e h0)
  rw [List.map_cons, g_lt_map hSr e] at k9
  simp only [g_tv, va_up_self] at k9
  exact k9
