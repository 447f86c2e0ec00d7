theorem q_get {Y : gY} {M : gM} {d : Nat} {b : gB} {Q : Option Value → gH → Prop} {pc : Nat} {L : List (Option Value)} {S : List Value} {h : gH} {a ci kf i : Nat} {fs : List Value} {C : String} {T : u_T} {N : Nat} {v : Value} (hd : decode M.2.1 pc = .ok (.getfield i, 3)) (hl : Cond.fieldLink M.1.cls i (T kf).1 (T kf).2.1 (T kf).2.2.1 ∈ g_W) (hin : ∀ w ∈ u_ws C T N, w ∈ g_W) (hcl : vwCl[ci]? = some (C, T, N)) (hk : kf < N) (ha : a < h.2.1) (hc : h.1 a = .inr (ci, fs)) (hv : fs[kf]? = some v) (k : gE Y M d b Q (pc + 3) L (v :: S) h) : gE Y M d b Q pc L (.ref a :: S) h := by
  intro p l e R s m args below meth c D tc r0 A r H locs ls hC hR hL h1 h2 h3 h0
  have he : (g_ws r tc h)[a]? = some (r a, .inr (ci, fs.map (g_tv r))) := by rw [g_ws_at r tc h ha, hc]; rfl
  exact va_get hC.1 hC.2.1 hC.2.2.2.2.2.1 hin hC.2.2.2.2.1 hR.1 hR.2.1 a he hcl kf hk (hC.2.2.2.2.2.1 _ hl) (fun _ h9 => h9) (by rw [List.getElem?_map, hv]; rfl) hd (k p l e R s m args below meth c D tc r0 A r H locs ls hC hR hL h1 h2 h3 h0)
theorem q_put {Y : gY} {M : gM} {d : Nat} {b : gB} {Q : Option Value → gH → Prop} {pc : Nat} {L : List (Option Value)} {S : List Value} {h : gH} {a ci kf i : Nat} {fs : List Value} {C : String} {T : u_T} {N : Nat} {ty : FieldType} {v : Value} (hd : decode M.2.1 pc = .ok (.putfield i, 3)) (hl : Cond.fieldLink M.1.cls i (T kf).1 (T kf).2.1 (T kf).2.2.1 ∈ g_W) (hin : ∀ w ∈ u_ws C T N, w ∈ g_W) (ty0 : Nat → FieldType) (hty : ∀ k, k < N → parseFieldDescriptor (T k).2.2.1 = some (ty0 k)) (hnm : ∀ a, a < N → ∀ b, b < N → a ≠ b → (T a).2.1 ≠ (T b).2.1) (hcl : vwCl[ci]? = some (C, T, N)) (hk : kf < N) (hfin : (T kf).2.2.2 = false) (hp : ty0 kf = ty) (ha : a < h.2.1) (hc : h.1 a = .inr (ci, fs)) (hlen : kf < fs.length) (hn : ∀ r, narrow ty (g_tv r v) = g_tv r v) (hf : ∀ r, fits ty (g_tv r v) = true) (k : gE Y M d b Q (pc + 3) L S (g_put h a (.inr (ci, fs.set kf v)))) : gE Y M d b Q pc L (v :: .ref a :: S) h := by
  intro p l e R s m args below meth c D tc r0 A r H locs ls hC hR hL h1 h2 h3 h0
  have he : (g_ws r tc h)[a]? = some (r a, .inr (ci, fs.map (g_tv r))) := by rw [g_ws_at r tc h ha, hc]; rfl
  refine va_put hC.1 hC.2.1 hC.2.2.2.2.2.1 hin ty0 hty hnm hC.2.2.2.2.1 hR.1 hR.2.1 hR.2.2.1 hR.2.2.2.1 a he hcl kf hk (hC.2.2.2.2.2.1 _ hl) (fun _ h9 => h9) hfin ((hty kf hk).trans (congrArg some hp)) (hn r) (hf r) (by rw [List.length_map]; exact hlen) hd (fun H1 locs1 hP hD hS => ?_)
  have e9 : (g_ws r tc h).set a (r a, .inr (ci, (fs.map (g_tv r)).set kf (g_tv r v))) = g_ws r tc (g_put h a (.inr (ci, fs.set kf v))) := by
    rw [← g_ws_put r tc h ha, ← List.map_set]
    rfl
  rw [e9] at hP hD
  exact k p l e R s m args below meth c D tc r0 A r H1 locs1 ls hC ⟨hR.1, hP, hD, hS, hR.2.2.2.2⟩ hL h1 h2 h3 h0
theorem q_putF {Y : gY} {M : gM} {d : Nat} {b : gB} {Q : Option Value → gH → Prop} {pc : Nat} {L : List (Option Value)} {S : List Value} {h : gH} {a ci kf i : Nat} {fs : List Value} {C : String} {T : u_T} {N : Nat} {ty : FieldType} {v : Value} (hd : decode M.2.1 pc = .ok (.putfield i, 3)) (hl : Cond.fieldLink M.1.cls i (T kf).1 (T kf).2.1 (T kf).2.2.1 ∈ g_W) (hin : ∀ w ∈ u_ws C T N, w ∈ g_W) (ty0 : Nat → FieldType) (hty : ∀ k, k < N → parseFieldDescriptor (T k).2.2.1 = some (ty0 k)) (hnm : ∀ a, a < N → ∀ b, b < N → a ≠ b → (T a).2.1 ≠ (T b).2.1) (hcl : vwCl[ci]? = some (C, T, N)) (hk : kf < N) (hfin : (T kf).2.2.2 = true) (hini : M.1.name = "<init>") (hdecl : (T kf).1 = M.1.cls) (hp : ty0 kf = ty) (ha : a < h.2.1) (hc : h.1 a = .inr (ci, fs)) (hlen : kf < fs.length) (hn : ∀ r, narrow ty (g_tv r v) = g_tv r v) (hf : ∀ r, fits ty (g_tv r v) = true) (k : gE Y M d b Q (pc + 3) L S (g_put h a (.inr (ci, fs.set kf v)))) : gE Y M d b Q pc L (v :: .ref a :: S) h := by
  intro p l e R s m args below meth c D tc r0 A r H locs ls hC hR hL h1 h2 h3 h0
  have he : (g_ws r tc h)[a]? = some (r a, .inr (ci, fs.map (g_tv r))) := by rw [g_ws_at r tc h ha, hc]; rfl
  refine va_putF hC.1 hC.2.1 hC.2.2.2.2.2.1 hin ty0 hty hnm hC.2.2.2.2.1 hR.1 hR.2.1 hR.2.2.1 hR.2.2.2.1 a he hcl kf hk (hC.2.2.2.2.2.1 _ hl) (fun _ h9 => h9) hfin (hC.2.2.2.2.2.2.2.1.trans hini) hdecl ((hty kf hk).trans (congrArg some hp)) (hn r) (hf r) (by rw [List.length_map]; exact hlen) hd (fun H1 locs1 hP hD hS => ?_)
  have e9 : (g_ws r tc h).set a (r a, .inr (ci, (fs.map (g_tv r)).set kf (g_tv r v))) = g_ws r tc (g_put h a (.inr (ci, fs.set kf v))) := by
    rw [← g_ws_put r tc h ha, ← List.map_set]
    rfl
  rw [e9] at hP hD
  exact k p l e R s m args below meth c D tc r0 A r H1 locs1 ls hC ⟨hR.1, hP, hD, hS, hR.2.2.2.2⟩ hL h1 h2 h3 h0
theorem q_iald {Y : gY} {M : gM} {d : Nat} {b : gB} {Q : Option Value → gH → Prop} {pc : Nat} {L : List (Option Value)} {S : List Value} {h : gH} {a n : Nat} {f : Nat → Int32} {i : Int32} (hd : decode M.2.1 pc = .ok (.iaload, 1)) (ha : a < h.2.1) (hc : h.1 a = .inl (0, n, .inl f)) (hi : vp_in i n) (k : gE Y M d b Q (pc + 1) L (.int (f i.toNatClampNeg) :: S) h) : gE Y M d b Q pc L (.int i :: .ref a :: S) h := by
  intro p l e R s m args below meth c D tc r0 A r H locs ls hC hR hL h1 h2 h3 h0
  have he : (g_ws r tc h)[a]? = some (r a, .inl (tc 0, n, .inl f)) := by rw [g_ws_at r tc h ha, hc]; rfl
  exact va_iald hC.1 hC.2.1 hR.1 hR.2.1 a 0 he rfl hi hd (k p l e R s m args below meth c D tc r0 A r H locs ls hC hR hL h1 h2 h3 h0)
theorem q_zald {Y : gY} {M : gM} {d : Nat} {b : gB} {Q : Option Value → gH → Prop} {pc : Nat} {L : List (Option Value)} {S : List Value} {h : gH} {a n : Nat} {f : Nat → Int32} {i : Int32} (hd : decode M.2.1 pc = .ok (.baload, 1)) (ha : a < h.2.1) (hc : h.1 a = .inl (2, n, .inl f)) (hi : vp_in i n) (k : gE Y M d b Q (pc + 1) L (.int (f i.toNatClampNeg) :: S) h) : gE Y M d b Q pc L (.int i :: .ref a :: S) h := by
  intro p l e R s m args below meth c D tc r0 A r H locs ls hC hR hL h1 h2 h3 h0
  have he : (g_ws r tc h)[a]? = some (r a, .inl (tc 2, n, .inl f)) := by rw [g_ws_at r tc h ha, hc]; rfl
  exact va_zald hC.1 hC.2.1 hR.1 hR.2.1 a 2 he rfl hi hd (k p l e R s m args below meth c D tc r0 A r H locs ls hC hR hL h1 h2 h3 h0)
theorem q_lald {Y : gY} {M : gM} {d : Nat} {b : gB} {Q : Option Value → gH → Prop} {pc : Nat} {L : List (Option Value)} {S : List Value} {h : gH} {a n : Nat} {f : Nat → Int64} {i : Int32} (hd : decode M.2.1 pc = .ok (.laload, 1)) (ha : a < h.2.1) (hc : h.1 a = .inl (1, n, .inr (.inl f))) (hi : vp_in i n) (k : gE Y M d b Q (pc + 1) L (.long (f i.toNatClampNeg) :: S) h) : gE Y M d b Q pc L (.int i :: .ref a :: S) h := by
  intro p l e R s m args below meth c D tc r0 A r H locs ls hC hR hL h1 h2 h3 h0
  have he : (g_ws r tc h)[a]? = some (r a, .inl (tc 1, n, .inr (.inl f))) := by rw [g_ws_at r tc h ha, hc]; rfl
  exact va_lald hC.1 hC.2.1 hR.1 hR.2.1 a 1 he rfl hi hd (k p l e R s m args below meth c D tc r0 A r H locs ls hC hR hL h1 h2 h3 h0)
theorem q_iast {Y : gY} {M : gM} {d : Nat} {b : gB} {Q : Option Value → gH → Prop} {pc : Nat} {L : List (Option Value)} {S : List Value} {h : gH} {a n : Nat} {f : Nat → Int32} {i : Int32} {x : Int32} (hd : decode M.2.1 pc = .ok (.iastore, 1)) (ha : a < h.2.1) (hc : h.1 a = .inl (0, n, .inl f)) (hi : vp_in i n) (k : gE Y M d b Q (pc + 1) L S (g_put h a (.inl (0, n, .inl (upd f i.toNatClampNeg x))))) : gE Y M d b Q pc L (.int x :: .int i :: .ref a :: S) h := by
  intro p l e R s m args below meth c D tc r0 A r H locs ls hC hR hL h1 h2 h3 h0
  have he : (g_ws r tc h)[a]? = some (r a, .inl (tc 0, n, .inl f)) := by rw [g_ws_at r tc h ha, hc]; rfl
  refine va_iast hC.1 hC.2.1 hR.1 hR.2.1 hR.2.2.1 hR.2.2.2.1 a 0 he rfl hi hd (fun H1 locs1 hP hD hS => ?_)
  have e9 : (g_ws r tc h).set a (r a, .inl (tc 0, n, .inl (upd f i.toNatClampNeg x))) = g_ws r tc (g_put h a (.inl (0, n, .inl (upd f i.toNatClampNeg x)))) := by
    rw [← g_ws_put r tc h ha]
    rfl
  rw [e9] at hP hD
  exact k p l e R s m args below meth c D tc r0 A r H1 locs1 ls hC ⟨hR.1, hP, hD, hS, hR.2.2.2.2⟩ hL h1 h2 h3 h0
theorem q_zast {Y : gY} {M : gM} {d : Nat} {b : gB} {Q : Option Value → gH → Prop} {pc : Nat} {L : List (Option Value)} {S : List Value} {h : gH} {a n : Nat} {f : Nat → Int32} {i : Int32} {x : Int32} (hd : decode M.2.1 pc = .ok (.bastore, 1)) (ha : a < h.2.1) (hc : h.1 a = .inl (2, n, .inl f)) (hi : vp_in i n) (k : gE Y M d b Q (pc + 1) L S (g_put h a (.inl (2, n, .inl (upd f i.toNatClampNeg (vp_nar .boolean x)))))) : gE Y M d b Q pc L (.int x :: .int i :: .ref a :: S) h := by
  intro p l e R s m args below meth c D tc r0 A r H locs ls hC hR hL h1 h2 h3 h0
  have he : (g_ws r tc h)[a]? = some (r a, .inl (tc 2, n, .inl f)) := by rw [g_ws_at r tc h ha, hc]; rfl
  refine va_zast hC.1 hC.2.1 hR.1 hR.2.1 hR.2.2.1 hR.2.2.2.1 a 2 he rfl hi hd (fun H1 locs1 hP hD hS => ?_)
  have e9 : (g_ws r tc h).set a (r a, .inl (tc 2, n, .inl (upd f i.toNatClampNeg (vp_nar .boolean x)))) = g_ws r tc (g_put h a (.inl (2, n, .inl (upd f i.toNatClampNeg (vp_nar .boolean x))))) := by
    rw [← g_ws_put r tc h ha]
    rfl
  rw [e9] at hP hD
  exact k p l e R s m args below meth c D tc r0 A r H1 locs1 ls hC ⟨hR.1, hP, hD, hS, hR.2.2.2.2⟩ hL h1 h2 h3 h0
theorem q_last {Y : gY} {M : gM} {d : Nat} {b : gB} {Q : Option Value → gH → Prop} {pc : Nat} {L : List (Option Value)} {S : List Value} {h : gH} {a n : Nat} {f : Nat → Int64} {i : Int32} {x : Int64} (hd : decode M.2.1 pc = .ok (.lastore, 1)) (ha : a < h.2.1) (hc : h.1 a = .inl (1, n, .inr (.inl f))) (hi : vp_in i n) (k : gE Y M d b Q (pc + 1) L S (g_put h a (.inl (1, n, .inr (.inl (vp_updL f i.toNatClampNeg x)))))) : gE Y M d b Q pc L (.long x :: .int i :: .ref a :: S) h := by
  intro p l e R s m args below meth c D tc r0 A r H locs ls hC hR hL h1 h2 h3 h0
  have he : (g_ws r tc h)[a]? = some (r a, .inl (tc 1, n, .inr (.inl f))) := by rw [g_ws_at r tc h ha, hc]; rfl
  refine va_last hC.1 hC.2.1 hR.1 hR.2.1 hR.2.2.1 hR.2.2.2.1 a 1 he rfl hi hd (fun H1 locs1 hP hD hS => ?_)
  have e9 : (g_ws r tc h).set a (r a, .inl (tc 1, n, .inr (.inl (vp_updL f i.toNatClampNeg x)))) = g_ws r tc (g_put h a (.inl (1, n, .inr (.inl (vp_updL f i.toNatClampNeg x))))) := by
    rw [← g_ws_put r tc h ha]
    rfl
  rw [e9] at hP hD
  exact k p l e R s m args below meth c D tc r0 A r H1 locs1 ls hC ⟨hR.1, hP, hD, hS, hR.2.2.2.2⟩ hL h1 h2 h3 h0
theorem g_tys_q {tc : Nat → Nat} {t : Nat} {C : String} (h : (t = 3 ∧ C = RX2) ∨ (t = 4 ∧ C = RX4)) : (g_tys tc)[t]? = some (tc t, .object C) := by
  rcases h with ⟨rfl, rfl⟩ | ⟨rfl, rfl⟩ <;> rfl
theorem q_aald {Y : gY} {M : gM} {d : Nat} {b : gB} {Q : Option Value → gH → Prop} {pc : Nat} {L : List (Option Value)} {S : List Value} {h : gH} {a n t x : Nat} {C : String} {f : Nat → Option Nat} {i : Int32} (hd : decode M.2.1 pc = .ok (.aaload, 1)) (ht : (t = 3 ∧ C = RX2) ∨ (t = 4 ∧ C = RX4)) (ha : a < h.2.1) (hc : h.1 a = .inl (t, n, .inr (.inr (.inr (.inr f))))) (hi : vp_in i n) (hv : f i.toNatClampNeg = some x) (k : gE Y M d b Q (pc + 1) L (.ref x :: S) h) : gE Y M d b Q pc L (.int i :: .ref a :: S) h := by
  intro p l e R s m args below meth c D tc r0 A r H locs ls hC hR hL h1 h2 h3 h0
  have he : (g_ws r tc h)[a]? = some (r a, .inl (tc t, n, .inr (.inr (.inr (.inr (fun j => (f j).map r)))))) := by rw [g_ws_at r tc h ha, hc]; rfl
  refine va_aldq hC.1 hC.2.1 hR.1 hR.2.1 a t he (g_tys_q ht) hi hd ?_
  rw [show va_rf ((fun j => (f j).map r) i.toNatClampNeg) = g_tv r (.ref x) by simp only [hv]; rfl]
  exact k p l e R s m args below meth c D tc r0 A r H locs ls hC hR hL h1 h2 h3 h0
theorem q_aast {Y : gY} {M : gM} {d : Nat} {b : gB} {Q : Option Value → gH → Prop} {pc : Nat} {L : List (Option Value)} {S : List Value} {h : gH} {a n t v ci : Nat} {C : String} {T : u_T} {N : Nat} {fs : List Value} {f : Nat → Option Nat} {i : Int32} (hd : decode M.2.1 pc = .ok (.aastore, 1)) (ht : (t = 3 ∧ C = RX2) ∨ (t = 4 ∧ C = RX4)) (hcl : vwCl[ci]? = some (C, T, N)) (ha : a < h.2.1) (hc : h.1 a = .inl (t, n, .inr (.inr (.inr (.inr f))))) (hv : v < h.2.1) (hvc : h.1 v = .inr (ci, fs)) (hi : vp_in i n) (k : gE Y M d b Q (pc + 1) L S (g_put h a (.inl (t, n, .inr (.inr (.inr (.inr (va_up f i.toNatClampNeg (some v))))))))) : gE Y M d b Q pc L (.ref v :: .int i :: .ref a :: S) h := by
  intro p l e R s m args below meth c D tc r0 A r H locs ls hC hR hL h1 h2 h3 h0
  have he : (g_ws r tc h)[a]? = some (r a, .inl (tc t, n, .inr (.inr (.inr (.inr (fun j => (f j).map r)))))) := by rw [g_ws_at r tc h ha, hc]; rfl
  have hw : (g_ws r tc h)[v]? = some (r v, .inr (ci, fs.map (g_tv r))) := by rw [g_ws_at r tc h hv, hvc]; rfl
  refine va_astq hC.1 hC.2.1 hR.1 hR.2.1 hR.2.2.1 hR.2.2.2.1 a t v ci he (g_tys_q ht) hw hcl hi hd (fun H1 locs1 hP hD hS => ?_)
  have e9 : (g_ws r tc h).set a (r a, .inl (tc t, n, .inr (.inr (.inr (.inr (va_up (fun j => (f j).map r) i.toNatClampNeg (some (r v)))))))) = g_ws r tc (g_put h a (.inl (t, n, .inr (.inr (.inr (.inr (va_up f i.toNatClampNeg (some v)))))))) := by
    rw [← g_ws_put r tc h ha]
    have e8 : (va_up (fun j => (f j).map r) i.toNatClampNeg (some (r v))) = (fun j => (va_up f i.toNatClampNeg (some v) j).map r) := by
      funext j
      by_cases e : j = i.toNatClampNeg
      · simp [va_up, e]
      · simp [va_up, e]
    rw [e8]
    rfl
  rw [e9] at hP hD
  exact k p l e R s m args below meth c D tc r0 A r H1 locs1 ls hC ⟨hR.1, hP, hD, hS, hR.2.2.2.2⟩ hL h1 h2 h3 h0
theorem q_alen {Y : gY} {M : gM} {d : Nat} {b : gB} {Q : Option Value → gH → Prop} {pc : Nat} {L : List (Option Value)} {S : List Value} {h : gH} {a n t : Nat} {x : vp_A} {v : Int32} (hd : decode M.2.1 pc = .ok (.arraylength, 1)) (ht : t < 5) (ha : a < h.2.1) (hc : h.1 a = .inl (t, x)) (hv : Int32.ofNat x.1 = v) (k : gE Y M d b Q (pc + 1) L (.int v :: S) h) : gE Y M d b Q pc L (.ref a :: S) h := by
  intro p l e R s m args below meth c D tc r0 A r H locs ls hC hR hL h1 h2 h3 h0
  have he : (g_ws r tc h)[a]? = some (r a, .inl (tc t, g_ta r x)) := by rw [g_ws_at r tc h ha, hc]; rfl
  obtain ⟨ty, hty⟩ : ∃ ty, (g_tys tc)[t]? = some (tc t, ty) := by
    match t, ht with
    | 0, _ => exact ⟨_, rfl⟩
    | 1, _ => exact ⟨_, rfl⟩
    | 2, _ => exact ⟨_, rfl⟩
    | 3, _ => exact ⟨_, rfl⟩
    | 4, _ => exact ⟨_, rfl⟩
  exact va_alen hC.1 hC.2.1 hR.1 hR.2.1 a t he hty hv hd (k p l e R s m args below meth c D tc r0 A r H locs ls hC hR hL h1 h2 h3 h0)
theorem g_nfw : nativeFrameWords "java/lang/System" "arraycopy" 5 ≤ 40 := by decide +kernel
theorem g_map_cat (r : Nat → Nat) (S : List Value) : ((S.map (g_tv r)).map fun v => v.category).sum = (S.map fun v => v.category).sum := by
  rw [List.map_map]
  congr 1
  apply List.map_congr_left
  intro v _
  exact g_tv_cat r v
theorem q_copy {Y : gY} {M : gM} {d : Nat} {b : gB} {Q : Option Value → gH → Prop} {pc : Nat} {L : List (Option Value)} {S : List Value} {h : gH} {a0 a n0 n1 i : Nat} {f g : Nat → Int32} {sp dp n : Int32} (hd : decode M.2.1 pc = .ok (.invokestatic i, 3)) (hl : Cond.methodLink M.1.cls i arraycopyName ∈ g_W) (hw1 : Cond.native arraycopyName ∈ g_W) (hw2 : Cond.static arraycopyName ∈ g_W) (hw3 : Cond.initialized "java/lang/System" ∈ g_W) (hd1 : 1 ≤ d) (hS8 : (S.map fun v => v.category).sum ≤ 8) (ha0 : a0 < h.2.1) (hc0 : h.1 a0 = .inl (0, n0, .inl f)) (ha : a < h.2.1) (hc : h.1 a = .inl (0, n1, .inl g)) (k1 : ¬ sp < 0) (k2 : ¬ dp < 0) (k3 : ¬ n < 0) (k4 : sp.toNatClampNeg + n.toNatClampNeg ≤ n0) (k5 : dp.toNatClampNeg + n.toNatClampNeg ≤ n1) (k : gE Y M d b Q (pc + 3) L S (g_put h a (.inl (0, n1, .inl (va_cpy f g sp.toNatClampNeg dp.toNatClampNeg n.toNatClampNeg))))) : gE Y M d b Q pc L (.int n :: .int dp :: .ref a :: .int sp :: .ref a0 :: S) h := by
  intro p l e R s m args below meth c D tc r0 A r H locs ls hC hR hL h1 h2 h3 h0
  have he0 : (g_ws r tc h)[a0]? = some (r a0, .inl (tc 0, n0, .inl f)) := by rw [g_ws_at r tc h ha0, hc0]; rfl
  have he : (g_ws r tc h)[a]? = some (r a, .inl (tc 0, n1, .inl g)) := by rw [g_ws_at r tc h ha, hc]; rfl
  have hr1 : d ≤ R.frames := hC.2.2.2.2.2.2.2.2.1
  have hr2 : 64 * d ≤ R.locals := hC.2.2.2.2.2.2.2.2.2.1
  refine va_copyi hC.1 hC.2.1 (hC.2.2.2.1.trans hL.1.symm) hC.2.2.2.2.1 (hC.2.2.2.2.2.1 _ hl) (hC.2.2.2.2.2.1 _ hw1) (hC.2.2.2.2.2.1 _ hw2) (hC.2.2.2.2.2.1 _ hw3) hR.1 hR.2.1 hR.2.2.1 hR.2.2.2.1 a0 a 0 0 he0 he rfl rfl rfl k1 k2 k3 k4 k5 (fun _ _ => rfl) (by omega) ?_ hd (fun H1 locs1 hP hD hS => ?_)
  · rw [g_map_cat]
    have := g_nfw
    omega
  · have e9 : (g_ws r tc h).set a (r a, .inl (tc 0, n1, .inl (va_cpy f g sp.toNatClampNeg dp.toNatClampNeg n.toNatClampNeg))) = g_ws r tc (g_put h a (.inl (0, n1, .inl (va_cpy f g sp.toNatClampNeg dp.toNatClampNeg n.toNatClampNeg)))) := by
      rw [← g_ws_put r tc h ha]
      rfl
    rw [e9] at hP hD
    exact k p l e R s m args below meth c D tc r0 A r H1 locs1 ls hC ⟨hR.1, hP, hD, hS, hR.2.2.2.2⟩ hL h1 h2 h3 h0
theorem q_mmax {Y : gY} {M : gM} {d : Nat} {b : gB} {Q : Option Value → gH → Prop} {pc : Nat} {L : List (Option Value)} {S : List Value} {h : gH} {i : Nat} {x y : Int32} (hd : decode M.2.1 pc = .ok (.invokestatic i, 3)) (hl : Cond.methodLink M.1.cls i Lib.Math.max.name ∈ g_W) (hw1 : Cond.static Lib.Math.max.name ∈ g_W) (hw2 : Cond.initialized "java/lang/Math" ∈ g_W) (hw3 : Cond.code Lib.Math.max.name Lib.Math.max.code 2 (some .int) ∈ g_W) (hd1 : 1 ≤ d) (hS8 : (S.map fun v => v.category).sum ≤ 8) (k : gE Y M d b Q (pc + 3) L (.int (if x < y then y else x) :: S) h) : gE Y M d b Q pc L (.int y :: .int x :: S) h := by
  intro p l e R s m args below meth c D tc r0 A r H locs ls hC hR hL h1 h2 h3 h0
  have hr1 : d ≤ R.frames := hC.2.2.2.2.2.2.2.2.1
  have hr2 : 64 * d ≤ R.locals := hC.2.2.2.2.2.2.2.2.2.1
  have hr3 := hC.2.2.2.2.2.2.2.2.2.2
  refine va_mmax hC.1 hC.2.1 (hC.2.2.2.1.trans hL.1.symm) hC.2.2.2.2.1 (hC.2.2.2.2.2.1 _ hl) (hC.2.2.2.2.2.1 _ hw1) (hC.2.2.2.2.2.1 _ hw2) (hC.2.2.2.2.2.1 _ hw3) (by omega) (by rw [g_map_cat]; omega) (by have := h3.1; have := h3.2.2.1; omega) (by have := h3.2.1; have := h3.2.2.2; omega) hd (k p l e R s m args below meth c D tc r0 A r H locs ls hC hR hL h1 h2 h3 h0)
theorem q_mmin {Y : gY} {M : gM} {d : Nat} {b : gB} {Q : Option Value → gH → Prop} {pc : Nat} {L : List (Option Value)} {S : List Value} {h : gH} {i : Nat} {x y : Int32} (hd : decode M.2.1 pc = .ok (.invokestatic i, 3)) (hl : Cond.methodLink M.1.cls i Lib.Math.min.name ∈ g_W) (hw1 : Cond.static Lib.Math.min.name ∈ g_W) (hw2 : Cond.initialized "java/lang/Math" ∈ g_W) (hw3 : Cond.code Lib.Math.min.name Lib.Math.min.code 2 (some .int) ∈ g_W) (hd1 : 1 ≤ d) (hS8 : (S.map fun v => v.category).sum ≤ 8) (k : gE Y M d b Q (pc + 3) L (.int (if y < x then y else x) :: S) h) : gE Y M d b Q pc L (.int y :: .int x :: S) h := by
  intro p l e R s m args below meth c D tc r0 A r H locs ls hC hR hL h1 h2 h3 h0
  have hr1 : d ≤ R.frames := hC.2.2.2.2.2.2.2.2.1
  have hr2 : 64 * d ≤ R.locals := hC.2.2.2.2.2.2.2.2.2.1
  have hr3 := hC.2.2.2.2.2.2.2.2.2.2
  refine va_mmin hC.1 hC.2.1 (hC.2.2.2.1.trans hL.1.symm) hC.2.2.2.2.1 (hC.2.2.2.2.2.1 _ hl) (hC.2.2.2.2.2.1 _ hw1) (hC.2.2.2.2.2.1 _ hw2) (hC.2.2.2.2.2.1 _ hw3) (by omega) (by rw [g_map_cat]; omega) (by have := h3.1; have := h3.2.2.1; omega) (by have := h3.2.1; have := h3.2.2.2; omega) hd (k p l e R s m args below meth c D tc r0 A r H locs ls hC hR hL h1 h2 h3 h0)
theorem q_mabs {Y : gY} {M : gM} {d : Nat} {b : gB} {Q : Option Value → gH → Prop} {pc : Nat} {L : List (Option Value)} {S : List Value} {h : gH} {i : Nat} {x : Int32} (hd : decode M.2.1 pc = .ok (.invokestatic i, 3)) (hl : Cond.methodLink M.1.cls i Lib.Math.abs.name ∈ g_W) (hw1 : Cond.static Lib.Math.abs.name ∈ g_W) (hw2 : Cond.initialized "java/lang/Math" ∈ g_W) (hw3 : Cond.code Lib.Math.abs.name Lib.Math.abs.code 1 (some .int) ∈ g_W) (hd1 : 1 ≤ d) (hS8 : (S.map fun v => v.category).sum ≤ 8) (k : gE Y M d b Q (pc + 3) L (.int (if 0 ≤ x then x else 0 - x) :: S) h) : gE Y M d b Q pc L (.int x :: S) h := by
  intro p l e R s m args below meth c D tc r0 A r H locs ls hC hR hL h1 h2 h3 h0
  have hr1 : d ≤ R.frames := hC.2.2.2.2.2.2.2.2.1
  have hr2 : 64 * d ≤ R.locals := hC.2.2.2.2.2.2.2.2.2.1
  have hr3 := hC.2.2.2.2.2.2.2.2.2.2
  refine va_mabs hC.1 hC.2.1 (hC.2.2.2.1.trans hL.1.symm) hC.2.2.2.2.1 (hC.2.2.2.2.2.1 _ hl) (hC.2.2.2.2.2.1 _ hw1) (hC.2.2.2.2.2.1 _ hw2) (hC.2.2.2.2.2.1 _ hw3) (by omega) (by rw [g_map_cat]; omega) (by have := h3.1; have := h3.2.2.1; omega) (by have := h3.2.1; have := h3.2.2.2; omega) hd (k p l e R s m args below meth c D tc r0 A r H locs ls hC hR hL h1 h2 h3 h0)
theorem q_mmaxl {Y : gY} {M : gM} {d : Nat} {b : gB} {Q : Option Value → gH → Prop} {pc : Nat} {L : List (Option Value)} {S : List Value} {h : gH} {i : Nat} {x y : Int64} (hd : decode M.2.1 pc = .ok (.invokestatic i, 3)) (hl : Cond.methodLink M.1.cls i Lib.MathLoose.max_long.x ∈ g_W) (hw1 : Cond.static Lib.MathLoose.max_long.x ∈ g_W) (hw2 : Cond.initialized "java/lang/Math" ∈ g_W) (hw3 : Cond.code Lib.MathLoose.max_long.x Lib.MathLoose.max_long.code 4 (some .long) ∈ g_W) (hd1 : 1 ≤ d) (hS8 : (S.map fun v => v.category).sum ≤ 8) (k : gE Y M d b Q (pc + 3) L (.long (if y < x then x else y) :: S) h) : gE Y M d b Q pc L (.long y :: .long x :: S) h := by
  intro p l e R s m args below meth c D tc r0 A r H locs ls hC hR hL h1 h2 h3 h0
  have hr1 : d ≤ R.frames := hC.2.2.2.2.2.2.2.2.1
  have hr2 : 64 * d ≤ R.locals := hC.2.2.2.2.2.2.2.2.2.1
  have hr3 := hC.2.2.2.2.2.2.2.2.2.2
  refine va_mmax_long hC.1 hC.2.1 (hC.2.2.2.1.trans hL.1.symm) hC.2.2.2.2.1 (hC.2.2.2.2.2.1 _ hl) (hC.2.2.2.2.2.1 _ hw1) (hC.2.2.2.2.2.1 _ hw2) (hC.2.2.2.2.2.1 _ hw3) (by omega) (by rw [g_map_cat]; omega) (by have := h3.1; have := h3.2.2.1; omega) (by have := h3.2.1; have := h3.2.2.2; omega) hd (k p l e R s m args below meth c D tc r0 A r H locs ls hC hR hL h1 h2 h3 h0)
theorem q_mminl {Y : gY} {M : gM} {d : Nat} {b : gB} {Q : Option Value → gH → Prop} {pc : Nat} {L : List (Option Value)} {S : List Value} {h : gH} {i : Nat} {x y : Int64} (hd : decode M.2.1 pc = .ok (.invokestatic i, 3)) (hl : Cond.methodLink M.1.cls i Lib.MathLoose.min_long.x ∈ g_W) (hw1 : Cond.static Lib.MathLoose.min_long.x ∈ g_W) (hw2 : Cond.initialized "java/lang/Math" ∈ g_W) (hw3 : Cond.code Lib.MathLoose.min_long.x Lib.MathLoose.min_long.code 4 (some .long) ∈ g_W) (hd1 : 1 ≤ d) (hS8 : (S.map fun v => v.category).sum ≤ 8) (k : gE Y M d b Q (pc + 3) L (.long (if y < x then y else x) :: S) h) : gE Y M d b Q pc L (.long y :: .long x :: S) h := by
  intro p l e R s m args below meth c D tc r0 A r H locs ls hC hR hL h1 h2 h3 h0
  have hr1 : d ≤ R.frames := hC.2.2.2.2.2.2.2.2.1
  have hr2 : 64 * d ≤ R.locals := hC.2.2.2.2.2.2.2.2.2.1
  have hr3 := hC.2.2.2.2.2.2.2.2.2.2
  refine va_mmin_long hC.1 hC.2.1 (hC.2.2.2.1.trans hL.1.symm) hC.2.2.2.2.1 (hC.2.2.2.2.2.1 _ hl) (hC.2.2.2.2.2.1 _ hw1) (hC.2.2.2.2.2.1 _ hw2) (hC.2.2.2.2.2.1 _ hw3) (by omega) (by rw [g_map_cat]; omega) (by have := h3.1; have := h3.2.2.1; omega) (by have := h3.2.1; have := h3.2.2.2; omega) hd (k p l e R s m args below meth c D tc r0 A r H locs ls hC hR hL h1 h2 h3 h0)
theorem q_iret {Y : gY} {M : gM} {d : Nat} {b : gB} {Q : Option Value → gH → Prop} {pc : Nat} {L : List (Option Value)} {h : gH} {v : Int32} (hd : decode M.2.1 pc = .ok (.ireturn, 1)) (hrt : M.2.2.2 = some .int) (he : h.2.1 = b.2.2.1 ∧ h.2.2 = b.2.2.2) (hq : Q (some (.int v)) h) : gE Y M d b Q pc L [.int v] h := by
  intro p l e R s m args below meth c D tc r0 A r H locs ls hC hR hL h1 h2 h3 h0
  rw [he.1, he.2]
  exact W.iret hC.1 hC.2.1 (hC.2.2.1.trans hrt) (fun t ht hW => ⟨⟨(some (.int v)), h, r, rfl, hq, he.1, he.2, h1, fun e9 => h2 (he.1.trans e9), by rw [ht]; exact hR.2.1, va_K.moved hW.alike hR.1, hR.2.2.1⟩, hR.2.2.2.1.F ht⟩) hR.2.2.2.1.2.2 hd hC.2.2.2.2.2.2.1
theorem q_zret {Y : gY} {M : gM} {d : Nat} {b : gB} {Q : Option Value → gH → Prop} {pc : Nat} {L : List (Option Value)} {h : gH} {v : Int32} (hz : narrow .boolean (.int v) = .int v) (hd : decode M.2.1 pc = .ok (.ireturn, 1)) (hrt : M.2.2.2 = some .boolean) (he : h.2.1 = b.2.2.1 ∧ h.2.2 = b.2.2.2) (hq : Q (some (.int v)) h) : gE Y M d b Q pc L [.int v] h := by
  intro p l e R s m args below meth c D tc r0 A r H locs ls hC hR hL h1 h2 h3 h0
  rw [he.1, he.2]
  exact W.zret hC.1 hC.2.1 (hC.2.2.1.trans hrt) hz (fun t ht hW => ⟨⟨(some (.int v)), h, r, rfl, hq, he.1, he.2, h1, fun e9 => h2 (he.1.trans e9), by rw [ht]; exact hR.2.1, va_K.moved hW.alike hR.1, hR.2.2.1⟩, hR.2.2.2.1.F ht⟩) hR.2.2.2.1.2.2 hd hC.2.2.2.2.2.2.1
theorem q_lret {Y : gY} {M : gM} {d : Nat} {b : gB} {Q : Option Value → gH → Prop} {pc : Nat} {L : List (Option Value)} {h : gH} {v : Int64} (hd : decode M.2.1 pc = .ok (.lreturn, 1)) (hrt : M.2.2.2 = some .long) (he : h.2.1 = b.2.2.1 ∧ h.2.2 = b.2.2.2) (hq : Q (some (.long v)) h) : gE Y M d b Q pc L [.long v] h := by
  intro p l e R s m args below meth c D tc r0 A r H locs ls hC hR hL h1 h2 h3 h0
  rw [he.1, he.2]
  exact W.lret hC.1 hC.2.1 (hC.2.2.1.trans hrt) (fun t ht hW => ⟨⟨(some (.long v)), h, r, rfl, hq, he.1, he.2, h1, fun e9 => h2 (he.1.trans e9), by rw [ht]; exact hR.2.1, va_K.moved hW.alike hR.1, hR.2.2.1⟩, hR.2.2.2.1.F ht⟩) hR.2.2.2.1.2.2 hd hC.2.2.2.2.2.2.1
theorem q_vret {Y : gY} {M : gM} {d : Nat} {b : gB} {Q : Option Value → gH → Prop} {pc : Nat} {L : List (Option Value)} {h : gH}  (hd : decode M.2.1 pc = .ok (.return_, 1)) (hrt : M.2.2.2 = none) (he : h.2.1 = b.2.2.1 ∧ h.2.2 = b.2.2.2) (hq : Q none h) : gE Y M d b Q pc L [] h := by
  intro p l e R s m args below meth c D tc r0 A r H locs ls hC hR hL h1 h2 h3 h0
  rw [he.1, he.2]
  exact W.vret hC.1 hC.2.1 (hC.2.2.1.trans hrt) (fun t ht hW => ⟨⟨none, h, r, rfl, hq, he.1, he.2, h1, fun e9 => h2 (he.1.trans e9), by rw [ht]; exact hR.2.1, va_K.moved hW.alike hR.1, hR.2.2.1⟩, hR.2.2.2.1.F ht⟩) hR.2.2.2.1.2.2 hd hC.2.2.2.2.2.2.1
theorem q_aret {Y : gY} {M : gM} {d : Nat} {b : gB} {Q : Option Value → gH → Prop} {pc : Nat} {L : List (Option Value)} {h : gH} {v : Nat} {C : String} (hd : decode M.2.1 pc = .ok (.areturn, 1)) (hrt : M.2.2.2 = some (.object C)) (he : h.2.1 = b.2.2.1 ∧ h.2.2 = b.2.2.2) (hq : Q (some (.ref v)) h) : gE Y M d b Q pc L [.ref v] h := by
  intro p l e R s m args below meth c D tc r0 A r H locs ls hC hR hL h1 h2 h3 h0
  rw [he.1, he.2]
  exact W.aret hC.1 hC.2.1 (hC.2.2.1.trans hrt) (Or.inl ⟨_, rfl⟩) (Or.inr ⟨_, rfl⟩) (fun t ht hW => ⟨⟨(some (.ref v)), h, r, rfl, hq, he.1, he.2, h1, fun e9 => h2 (he.1.trans e9), by rw [ht]; exact hR.2.1, va_K.moved hW.alike hR.1, hR.2.2.1⟩, hR.2.2.2.1.F ht⟩) hR.2.2.2.1.2.2 hd hC.2.2.2.2.2.2.1
