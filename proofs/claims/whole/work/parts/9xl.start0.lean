/-! ===== the start: places as they are made ===== -/
def I0 (a j : Nat) : Int := if kd a = 2 then (if j = 7 then 347 else 0) else if kd a = 4 then (if 2 ≤ j ∧ j ≤ 5 then -1 else 0) else if kd a = 1 then (if j ≤ 1 then -1 else if j = 6 then 39 else 0) else if kd a = 0 then (if j = 2 then -1 else 0) else if kd a = 5 then (if j = 8 then -1 else 0) else if kd a = 7 then (if j = 5 ∨ j = 6 then -1 else if j = 23 then 1 else 0) else 0
def R0 (a j : Nat) : Int := if a = 8 ∨ a = 168 then (if j < 8 then -1 else 0) else if a = 385 ∨ a = 386 then (if j = 2 then -1 else if j = 6 then 347 else 0) else 0
def T0 (a j : Nat) : Option Nat := if a = 7 ∨ a = 167 then (if j < 30 then some (a + 4 + 5 * j) else none) else if a = 321 then (if j < 4 then some (340 + 6 * j) else none) else if a = 334 then (if j < 4 then some (364 + 5 * j) else none) else if a = 333 then (if j = 2 then some 328 else if j = 3 then some 322 else none) else none
def σ0 : gS := (I0, R0, fun _ _ => 0, 0, T0)
def F0c (a : Nat) : va_E := (hE σ0).1 a
theorem F0_r {a N : Nat} (h : kd a = 100 + N) (hN : N < 90000) (h8 : a ≠ 8 ∧ a ≠ 168 ∧ a ≠ 385 ∧ a ≠ 386) : F0c a = .inl (0, N, .inl (fun _ => 0)) := by
  unfold F0c
  rw [hE_ri σ0 h hN]
  have e : (fun j => iZ (σ0.2.1 a j)) = fun _ => 0 := by
    funext j
    show iZ (R0 a j) = 0
    unfold R0
    rw [if_neg (by omega), if_neg (by omega)]
    rfl
  rw [e]
theorem F0_o {a ci : Nat} (h : kd a = ci) (hc : ci < 10) : F0c a = .inr (ci, obOf ci a (I0 a) 0 (T0 a)) := hE_ob σ0 h hc
def cls (h : gH) : Prop := ∀ i, i < h.2.1 → g_ce h.2.1 (h.1 i)
theorem g_lt_m {n m : Nat} {v : Value} (h : g_lt n v) (hm : n ≤ m) : g_lt m v := by
  cases v with
  | ref a =>
    rcases h with h | h
    · exact Or.inl (Nat.lt_of_lt_of_le h hm)
    · exact Or.inr h
  | _ => trivial
theorem g_ce_m {n m : Nat} {x : va_E} (h : g_ce n x) (hm : n ≤ m) : g_ce m x := by
  unfold g_ce at *
  split
  · rename_i y
    dsimp only at h
    split
    · rename_i f e
      rw [e] at h
      exact fun j a q => Nat.lt_of_lt_of_le (h j a q) hm
    · trivial
  · rename_i y
    exact fun v q => g_lt_m (h v q) hm
theorem va_same {f : Nat → va_E} {a : Nat} {x : va_E} (h : f a = x) : va_up f a x = f := by
  funext y
  by_cases e : y = a
  · rw [e, va_up_self, h]
  · exact va_up_ne _ _ e
section
variable {Y : gY} {M : gM} {d : Nat} {b : gB} {Q : Option Value → gH → Prop} {pc : Nat} {L : List (Option Value)} {S : List Value}
theorem cls_put {g : Nat → va_E} {n z s ci kf : Nat} {fs : List Value} {v : Value} (hs : s < n) (K : cls (va_up g s (.inr (ci, fs)), n, z)) (hv : g_lt n v) : cls (va_up g s (.inr (ci, fs.set kf v)), n, z) := by
  intro i hi
  have hi : i < n := hi
  show g_ce n (va_up g s (.inr (ci, fs.set kf v)) i)
  by_cases e : i = s
  · rw [e, va_up_self]
    have k := K s hs
    have k : g_ce n (va_up g s (.inr (ci, fs)) s) := k
    rw [va_up_self] at k
    intro w hw
    rcases List.mem_or_eq_of_mem_set hw with q | q
    · exact k w q
    · rw [q]; exact hv
  · have k : g_ce n (va_up g s (.inr (ci, fs)) i) := K i hi
    rw [va_up_ne _ _ e] at k ⊢
    exact k
theorem cls_new {g : Nat → va_E} {n z N : Nat} (K : cls (g, n, z)) (h : g_ce (n + 1) (g n)) : cls (g, n + 1, z + N) := by
  intro i hi
  have hi : i < n + 1 := hi
  show g_ce (n + 1) (g i)
  by_cases e : i = n
  · rw [e]; exact h
  · exact g_ce_m (K i (by show i < n; omega)) (Nat.le_succ n)
theorem r_putF {g : Nat → va_E} {n z s ci kf i : Nat} {fs fs' : List Value} {C : String} {T : u_T} {N : Nat} {ty : FieldType} {v : Value} (hd : decode M.2.1 pc = .ok (.putfield i, 3)) (hl : Cond.fieldLink M.1.cls i (T kf).1 (T kf).2.1 (T kf).2.2.1 ∈ g_W) (hin : ∀ w ∈ u_ws C T N, w ∈ g_W) (ty0 : Nat → FieldType) (hty : ∀ k, k < N → parseFieldDescriptor (T k).2.2.1 = some (ty0 k)) (hnm : ∀ a, a < N → ∀ b, b < N → a ≠ b → (T a).2.1 ≠ (T b).2.1) (hcl : vwCl[ci]? = some (C, T, N)) (hk : kf < N) (hfin : (T kf).2.2.2 = true) (hini : M.1.name = "<init>") (hdecl : (T kf).1 = M.1.cls) (hp : ty0 kf = ty) (hs : s < n) (hlen : kf < fs.length) (hn : ∀ r, narrow ty (g_tv r v) = g_tv r v) (hf : ∀ r, fits ty (g_tv r v) = true) (he : fs.set kf v = fs') (K : cls (va_up g s (.inr (ci, fs)), n, z)) (hv : g_lt n v) (k : cls (va_up g s (.inr (ci, fs')), n, z) → gE Y M d b Q (pc + 3) L S (va_up g s (.inr (ci, fs')), n, z)) : gE Y M d b Q pc L (v :: .ref s :: S) (va_up g s (.inr (ci, fs)), n, z) := by
  refine q_putF hd hl hin ty0 hty hnm hcl hk hfin hini hdecl hp hs (va_up_self _ _ _) hlen hn hf ?_
  have e : g_put (va_up g s (.inr (ci, fs)), n, z) s (.inr (ci, fs.set kf v)) = (va_up g s (.inr (ci, fs')), n, z) := by
    unfold g_put
    rw [he]
    simp only [bx_uu]
  rw [e]
  have K2 := cls_put (kf := kf) hs K hv
  rw [he] at K2
  exact k K2
theorem r_put {g : Nat → va_E} {n z s ci kf i : Nat} {fs fs' : List Value} {C : String} {T : u_T} {N : Nat} {ty : FieldType} {v : Value} (hd : decode M.2.1 pc = .ok (.putfield i, 3)) (hl : Cond.fieldLink M.1.cls i (T kf).1 (T kf).2.1 (T kf).2.2.1 ∈ g_W) (hin : ∀ w ∈ u_ws C T N, w ∈ g_W) (ty0 : Nat → FieldType) (hty : ∀ k, k < N → parseFieldDescriptor (T k).2.2.1 = some (ty0 k)) (hnm : ∀ a, a < N → ∀ b, b < N → a ≠ b → (T a).2.1 ≠ (T b).2.1) (hcl : vwCl[ci]? = some (C, T, N)) (hk : kf < N) (hfin : (T kf).2.2.2 = false) (hp : ty0 kf = ty) (hs : s < n) (hlen : kf < fs.length) (hn : ∀ r, narrow ty (g_tv r v) = g_tv r v) (hf : ∀ r, fits ty (g_tv r v) = true) (he : fs.set kf v = fs') (K : cls (va_up g s (.inr (ci, fs)), n, z)) (hv : g_lt n v) (k : cls (va_up g s (.inr (ci, fs')), n, z) → gE Y M d b Q (pc + 3) L S (va_up g s (.inr (ci, fs')), n, z)) : gE Y M d b Q pc L (v :: .ref s :: S) (va_up g s (.inr (ci, fs)), n, z) := by
  refine q_put hd hl hin ty0 hty hnm hcl hk hfin hp hs (va_up_self _ _ _) hlen hn hf ?_
  have e : g_put (va_up g s (.inr (ci, fs)), n, z) s (.inr (ci, fs.set kf v)) = (va_up g s (.inr (ci, fs')), n, z) := by
    unfold g_put
    rw [he]
    simp only [bx_uu]
  rw [e]
  have K2 := cls_put (kf := kf) hs K hv
  rw [he] at K2
  exact k K2
theorem r_newI {g : Nat → va_E} {n z N : Nat} {m : Int32} (hd : decode M.2.1 pc = .ok (.newarray .int, 2)) (hw1 : Cond.arrayClass .int ∈ g_W) (hn0 : ¬ m < 0) (hN : m.toNatClampNeg = N) (hN2 : N ≤ 10000) (hg : g n = .inl (0, N, .inl (fun _ => 0))) (hsm : n < 1000000) (hB : n + 1 ≤ b.2.2.1 ∧ z + N ≤ b.2.2.2) (K : cls (g, n, z)) (hSr : ∀ v ∈ S, g_lt n v) (hLr : ∀ v, some v ∈ L → g_lt n v) (hY : ∀ (r r' : Nat → Nat) (A : Nat → Prop) (s : State), (∀ i, i < n ∨ 1000000 ≤ i → r' i = r i) → Y r A s → Y r' A s) (k : cls (g, n + 1, z + N) → gE Y M d b Q (pc + 2) L (.ref n :: S) (g, n + 1, z + N)) : gE Y M d b Q pc L (.int m :: S) (g, n, z) := by
  refine q_newI (h := (g, n, z)) hd hw1 hn0 hN hN2 hsm hB K hSr hLr hY ?_
  have e : g_new (g, n, z) (.inl (0, N, .inl (fun _ => 0))) N = (g, n + 1, z + N) := by
    unfold g_new
    show (va_up g n _, n + 1, z + N) = _
    rw [va_same hg]
  rw [e]
  exact k (cls_new K (by rw [hg]; trivial))
theorem r_newJ {g : Nat → va_E} {n z N : Nat} {m : Int32} (hd : decode M.2.1 pc = .ok (.newarray .long, 2)) (hw1 : Cond.arrayClass .long ∈ g_W) (hn0 : ¬ m < 0) (hN : m.toNatClampNeg = N) (hN2 : N ≤ 10000) (hg : g n = .inl (1, N, .inr (.inl (fun _ => 0)))) (hsm : n < 1000000) (hB : n + 1 ≤ b.2.2.1 ∧ z + N ≤ b.2.2.2) (K : cls (g, n, z)) (hSr : ∀ v ∈ S, g_lt n v) (hLr : ∀ v, some v ∈ L → g_lt n v) (hY : ∀ (r r' : Nat → Nat) (A : Nat → Prop) (s : State), (∀ i, i < n ∨ 1000000 ≤ i → r' i = r i) → Y r A s → Y r' A s) (k : cls (g, n + 1, z + N) → gE Y M d b Q (pc + 2) L (.ref n :: S) (g, n + 1, z + N)) : gE Y M d b Q pc L (.int m :: S) (g, n, z) := by
  refine q_newJ (h := (g, n, z)) hd hw1 hn0 hN hN2 hsm hB K hSr hLr hY ?_
  have e : g_new (g, n, z) (.inl (1, N, .inr (.inl (fun _ => 0)))) N = (g, n + 1, z + N) := by
    unfold g_new
    show (va_up g n _, n + 1, z + N) = _
    rw [va_same hg]
  rw [e]
  exact k (cls_new K (by rw [hg]; trivial))
theorem r_newZ {g : Nat → va_E} {n z N : Nat} {m : Int32} (hd : decode M.2.1 pc = .ok (.newarray .boolean, 2)) (hw1 : Cond.arrayClass .boolean ∈ g_W) (hn0 : ¬ m < 0) (hN : m.toNatClampNeg = N) (hN2 : N ≤ 10000) (hg : g n = .inl (2, N, .inl (fun _ => 0))) (hsm : n < 1000000) (hB : n + 1 ≤ b.2.2.1 ∧ z + N ≤ b.2.2.2) (K : cls (g, n, z)) (hSr : ∀ v ∈ S, g_lt n v) (hLr : ∀ v, some v ∈ L → g_lt n v) (hY : ∀ (r r' : Nat → Nat) (A : Nat → Prop) (s : State), (∀ i, i < n ∨ 1000000 ≤ i → r' i = r i) → Y r A s → Y r' A s) (k : cls (g, n + 1, z + N) → gE Y M d b Q (pc + 2) L (.ref n :: S) (g, n + 1, z + N)) : gE Y M d b Q pc L (.int m :: S) (g, n, z) := by
  refine q_newZ (h := (g, n, z)) hd hw1 hn0 hN hN2 hsm hB K hSr hLr hY ?_
  have e : g_new (g, n, z) (.inl (2, N, .inl (fun _ => 0))) N = (g, n + 1, z + N) := by
    unfold g_new
    show (va_up g n _, n + 1, z + N) = _
    rw [va_same hg]
  rw [e]
  exact k (cls_new K (by rw [hg]; trivial))
end
theorem lt_self {s n : Nat} (h : s < n) : ∀ v, some v ∈ [some (Value.ref s)] → g_lt n v := by
  intro v hv
  rw [List.mem_singleton] at hv
  cases hv
  exact Or.inl h
theorem lt_one {s n : Nat} (h : s < n) : ∀ v ∈ [Value.ref s], g_lt n v := by
  intro v hv
  rw [List.mem_singleton] at hv
  rw [hv]
  exact Or.inl h
theorem tt_Y {n : Nat} : ∀ (r r' : Nat → Nat) (A : Nat → Prop) (s : State), (∀ i, i < n ∨ 1000000 ≤ i → r' i = r i) → g_tt r A s → g_tt r' A s := fun _ _ _ _ _ h => h
