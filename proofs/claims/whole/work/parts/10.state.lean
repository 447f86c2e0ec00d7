/-! ===== the places of the small heap: what kind lies where (0 .. 7 objects of that class; rows of so many: 100 + n ints, 100000 + n longs, 200000 + n booleans, 300000 + n Streets, 400000 + n Texts) ===== -/
def kdL : List Nat := [6, 5, 2, 108, 105, 130, 108, 300030, 108, 108, 108, 2, 108, 105, 130, 108, 2, 108, 105, 130, 108, 2, 108, 105, 130, 108, 2, 108, 105, 130, 108, 2, 108, 105, 130, 108, 2, 108, 105, 130, 108, 2, 108, 105, 130, 108, 2, 108, 105, 130, 108, 2, 108, 105, 130, 108, 2, 108, 105, 130, 108, 2, 108, 105, 130, 108, 2, 108, 105, 130, 108, 2, 108, 105, 130, 108, 2, 108, 105, 130, 108, 2, 108, 105, 130, 108, 2, 108, 105, 130, 108, 2, 108, 105, 130, 108, 2, 108, 105, 130, 108, 2, 108, 105, 130, 108, 2, 108, 105, 130, 108, 2, 108, 105, 130, 108, 2, 108, 105, 130, 108, 2, 108, 105, 130, 108, 2, 108, 105, 130, 108, 2, 108, 105, 130, 108, 2, 108, 105, 130, 108, 2, 108, 105, 130, 108, 2, 108, 105, 130, 108, 2, 108, 105, 130, 108, 2, 108, 105, 130, 108, 5, 2, 108, 105, 130, 108, 300030, 108, 108, 108, 2, 108, 105, 130, 108, 2, 108, 105, 130, 108, 2, 108, 105, 130, 108, 2, 108, 105, 130, 108, 2, 108, 105, 130, 108, 2, 108, 105, 130, 108, 2, 108, 105, 130, 108, 2, 108, 105, 130, 108, 2, 108, 105, 130, 108, 2, 108, 105, 130, 108, 2, 108, 105, 130, 108, 2, 108, 105, 130, 108, 2, 108, 105, 130, 108, 2, 108, 105, 130, 108, 2, 108, 105, 130, 108, 2, 108, 105, 130, 108, 2, 108, 105, 130, 108, 2, 108, 105, 130, 108, 2, 108, 105, 130, 108, 2, 108, 105, 130, 108, 2, 108, 105, 130, 108, 2, 108, 105, 130, 108, 2, 108, 105, 130, 108, 2, 108, 105, 130, 108, 2, 108, 105, 130, 108, 2, 108, 105, 130, 108, 2, 108, 105, 130, 108, 2, 108, 105, 130, 108, 2, 108, 105, 130, 108, 2, 108, 105, 130, 108, 400004, 4, 400, 124, 124, 124, 164, 3, 400, 401, 401, 401, 1, 300004, 103, 100101, 0, 108, 108, 4, 400, 124, 124, 124, 164, 4, 400, 124, 124, 124, 164, 4, 400, 124, 124, 124, 164, 4, 400, 124, 124, 124, 164, 2, 108, 105, 130, 108, 2, 108, 105, 130, 108, 2, 108, 105, 130, 108, 2, 108, 105, 130, 108, 7, 1683, 1683, 2824, 400, 260, 108, 100330, 200330, 124, 108, 908, 108, 108]
def kd (a : Nat) : Nat := kdL.getD a 9000000
theorem kd_lt {a k : Nat} (h : kd a = k) (hk : k < 9000000) : a < 398 := by
  by_cases q : a < 398
  · exact q
  · have e : kdL.length = 398 := by decide +kernel
    have : kd a = 9000000 := by
      unfold kd
      rw [List.getD_eq_getElem?_getD, List.getElem?_eq_none (by rw [e]; omega)]
      rfl
    omega
theorem g_nz {z : Int} (hz : z = 0 ∨ z = 1) (r : Nat → Nat) : narrow .boolean (g_tv r (.int (iZ z))) = g_tv r (.int (iZ z)) := by
  show narrow .boolean (.int (iZ z)) = .int (iZ z)
  rcases hz with rfl | rfl <;> decide +kernel
theorem g_fz {z : Int} (hz : z = 0 ∨ z = 1) (r : Nat → Nat) : fits .boolean (g_tv r (.int (iZ z))) = true := by
  show fits .boolean (.int (iZ z)) = true
  rcases hz with rfl | rfl <;> decide +kernel
/-- a state: int fields by place and slot, rows of ints, rows of longs, the one long field, references by place and slot -/
abbrev gS : Type := (Nat → Nat → Int) × (Nat → Nat → Int) × (Nat → Nat → Int) × Int × (Nat → Nat → Option Nat)
def obOf (k a : Nat) (I : Nat → Int) (w : Int) (T : Nat → Option Nat) : List Value := match k with
  | 0 => [.ref (a + 1), .int (iZ (I 1)), .int (iZ (I 2)), .ref (a + 2), .int (iZ (I 4))]
  | 1 => [.int (iZ (I 0)), .int (iZ (I 1)), va_rf (T 2), va_rf (T 3), .int (iZ (I 4)), .int (iZ (I 5)), .int (iZ (I 6))]
  | 2 => [.ref (a + 1), .ref (a + 2), .int (iZ (I 2)), .int (iZ (I 3)), .int (iZ (I 4)), .int (iZ (I 5)), .int (iZ (I 6)), .int (iZ (I 7)), .ref (a + 3), .int (iZ (I 9)), .ref (a + 4), .int (iZ (I 11))]
  | 3 => [.ref (a + 1), .int (iZ (I 1)), .ref (a + 2), .ref (a + 3), .ref (a + 4), .int (iZ (I 5)), .int (iZ (I 6))]
  | 4 => [.ref (a + 1), .int (iZ (I 1)), .int (iZ (I 2)), .int (iZ (I 3)), .int (iZ (I 4)), .int (iZ (I 5)), .ref (a + 2), .ref (a + 3), .ref (a + 4), .int (iZ (I 9)), .int (iZ (I 10)), .ref (a + 5)]
  | 5 => [.ref (a + 1), .ref (a + 6), .int (iZ (I 2)), .ref (a + 7), .ref (a + 8), .ref (a + 9), .int (iZ (I 6)), .int (iZ (I 7)), .int (iZ (I 8))]
  | 6 => [.ref 1, .ref 161, .ref 321, .ref 322, .ref 328, .ref 333, .ref 334, .ref 335, .ref 336, .ref 337]
  | 7 => [.ref 385, .ref 386, .ref 387, .ref 388, .int (iZ (I 4)), .int (iZ (I 5)), .int (iZ (I 6)), .int (iZ (I 7)), .int (iZ (I 8)), .int (iZ (I 9)), .int (iZ (I 10)), .long (lZ w), .int (iZ (I 12)), .int (iZ (I 13)), .int (iZ (I 14)), .ref 389, .int (iZ (I 16)), .int (iZ (I 17)), .int (iZ (I 18)), .int (iZ (I 19)), .ref 390, .ref 391, .ref 392, .int (iZ (I 23)), .int (iZ (I 24)), .int (iZ (I 25)), .int (iZ (I 26)), .ref 393, .ref 394, .int (iZ (I 29)), .int (iZ (I 30)), .int (iZ (I 31)), .ref 395, .ref 396, .ref 397, .int (iZ (I 35))]
  | _ => []
def cellOf (k a : Nat) (I R J : Nat → Int) (w : Int) (T : Nat → Option Nat) : va_E :=
  if k < 10 then .inr (k, obOf k a I w T)
  else if k < 100000 then .inl (0, k - 100, .inl (fun j => iZ (R j)))
  else if k < 200000 then .inl (1, k - 100000, .inr (.inl (fun j => lZ (J j))))
  else if k < 300000 then .inl (2, k - 200000, .inl (fun j => iZ (R j)))
  else if k < 400000 then .inl (3, k - 300000, .inr (.inr (.inr (.inr T))))
  else .inl (4, k - 400000, .inr (.inr (.inr (.inr T))))
/-- the small heap of a state -/
def hE (σ : gS) : gH := (fun a => cellOf (kd a) a (σ.1 a) (σ.2.1 a) (σ.2.2.1 a) σ.2.2.2.1 (σ.2.2.2.2 a), 398, 15794)
def up2 {α : Type} (f : Nat → Nat → α) (a k : Nat) (v : α) : Nat → Nat → α := va_up f a (va_up (f a) k v)
theorem up2_eq {α : Type} (f : Nat → Nat → α) (a k : Nat) (v : α) : up2 f a k v a = va_up (f a) k v := va_up_self _ _ _
theorem up2_ne {α : Type} (f : Nat → Nat → α) {a x : Nat} (k : Nat) (v : α) (h : x ≠ a) : up2 f a k v x = f x := va_up_ne _ _ h
theorem up2_at {α : Type} (f : Nat → Nat → α) (a k : Nat) (v : α) : up2 f a k v a k = v := by rw [up2_eq, va_up_self]
theorem up2_k {α : Type} (f : Nat → Nat → α) {a k j : Nat} (v : α) (h : j ≠ k) : up2 f a k v a j = f a j := by rw [up2_eq, va_up_ne _ _ h]
def sI (σ : gS) (a k : Nat) (z : Int) : gS := (up2 σ.1 a k z, σ.2)
def sR (σ : gS) (a k : Nat) (z : Int) : gS := (σ.1, up2 σ.2.1 a k z, σ.2.2)
def sRw (σ : gS) (a : Nat) (f : Nat → Int) : gS := (σ.1, va_up σ.2.1 a f, σ.2.2)
def sJ (σ : gS) (a k : Nat) (z : Int) : gS := (σ.1, σ.2.1, up2 σ.2.2.1 a k z, σ.2.2.2)
def sW (σ : gS) (z : Int) : gS := (σ.1, σ.2.1, σ.2.2.1, z, σ.2.2.2.2)
def sT (σ : gS) (a k : Nat) (z : Option Nat) : gS := (σ.1, σ.2.1, σ.2.2.1, σ.2.2.2.1, up2 σ.2.2.2.2 a k z)
theorem hE_ob (σ : gS) {a ci : Nat} (h : kd a = ci) (hc : ci < 10) : (hE σ).1 a = .inr (ci, obOf ci a (σ.1 a) σ.2.2.2.1 (σ.2.2.2.2 a)) := by
  simp only [hE, cellOf, h, if_pos hc]
theorem hE_ri (σ : gS) {a n : Nat} (h : kd a = 100 + n) (hn : n < 90000) : (hE σ).1 a = .inl (0, n, .inl (fun j => iZ (σ.2.1 a j))) := by
  simp only [hE, cellOf, h]
  rw [if_neg (by omega), if_pos (by omega), Nat.add_sub_cancel_left]
theorem hE_rj (σ : gS) {a n : Nat} (h : kd a = 100000 + n) (hn : n < 90000) : (hE σ).1 a = .inl (1, n, .inr (.inl (fun j => lZ (σ.2.2.1 a j)))) := by
  simp only [hE, cellOf, h]
  rw [if_neg (by omega), if_neg (by omega), if_pos (by omega), Nat.add_sub_cancel_left]
theorem hE_rz (σ : gS) {a n : Nat} (h : kd a = 200000 + n) (hn : n < 90000) : (hE σ).1 a = .inl (2, n, .inl (fun j => iZ (σ.2.1 a j))) := by
  simp only [hE, cellOf, h]
  rw [if_neg (by omega), if_neg (by omega), if_neg (by omega), if_pos (by omega), Nat.add_sub_cancel_left]
theorem hE_rS (σ : gS) {a n : Nat} (h : kd a = 300000 + n) (hn : n < 90000) : (hE σ).1 a = .inl (3, n, .inr (.inr (.inr (.inr (σ.2.2.2.2 a))))) := by
  simp only [hE, cellOf, h]
  rw [if_neg (by omega), if_neg (by omega), if_neg (by omega), if_neg (by omega), if_pos (by omega), Nat.add_sub_cancel_left]
theorem hE_rT (σ : gS) {a n : Nat} (h : kd a = 400000 + n) (hn : n < 90000) : (hE σ).1 a = .inl (4, n, .inr (.inr (.inr (.inr (σ.2.2.2.2 a))))) := by
  simp only [hE, cellOf, h]
  rw [if_neg (by omega), if_neg (by omega), if_neg (by omega), if_neg (by omega), if_neg (by omega), Nat.add_sub_cancel_left]
/-- two states whose heaps differ at one place alone -/
theorem hE_put {σ σ' : gS} {a : Nat} {x : va_E} (h1 : (hE σ').1 a = x) (h2 : ∀ y, y ≠ a → (hE σ').1 y = (hE σ).1 y) : g_put (hE σ) a x = hE σ' := by
  refine Prod.ext (funext fun y => ?_) rfl
  by_cases e : y = a
  · subst e; rw [h1]; exact va_up_self _ _ _
  · rw [h2 y e]; exact va_up_ne _ _ e
theorem hE_putI {σ : gS} {a ci kf : Nat} {z : Int} (hk : kd a = ci) (hc : ci < 10) (h : ∀ I w T, (obOf ci a I w T).set kf (.int (iZ z)) = obOf ci a (va_up I kf z) w T) : g_put (hE σ) a (.inr (ci, (obOf ci a (σ.1 a) σ.2.2.2.1 (σ.2.2.2.2 a)).set kf (.int (iZ z)))) = hE (sI σ a kf z) := by
  refine hE_put ?_ (fun y hy => ?_)
  · rw [hE_ob _ hk hc, h]
    simp only [sI, up2_eq]
  · simp only [hE, sI, up2_ne _ _ _ hy]
theorem hE_putT {σ : gS} {a ci kf : Nat} {z : Option Nat} (hk : kd a = ci) (hc : ci < 10) (h : ∀ I w T, (obOf ci a I w T).set kf (va_rf z) = obOf ci a I w (va_up T kf z)) : g_put (hE σ) a (.inr (ci, (obOf ci a (σ.1 a) σ.2.2.2.1 (σ.2.2.2.2 a)).set kf (va_rf z))) = hE (sT σ a kf z) := by
  refine hE_put ?_ (fun y hy => ?_)
  · rw [hE_ob _ hk hc, h]
    simp only [sT, up2_eq]
  · simp only [hE, sT, up2_ne _ _ _ hy]
theorem obOf_w {k a : Nat} {I : Nat → Int} {w w' : Int} {T : Nat → Option Nat} (h : k ≠ 7) : obOf k a I w T = obOf k a I w' T := by
  unfold obOf
  split <;> first | rfl | exact absurd rfl h
theorem kd_7 {a : Nat} (h : kd a = 7) : a = 384 := by
  have h1 := kd_lt h (by decide)
  have h2 : ∀ x, x < 398 → kd x = 7 → x = 384 := by decide +kernel
  exact h2 a h1 h
theorem hE_putW {σ : gS} {z : Int} : g_put (hE σ) 384 (.inr (7, (obOf 7 384 (σ.1 384) σ.2.2.2.1 (σ.2.2.2.2 384)).set 11 (.long (lZ z)))) = hE (sW σ z) := by
  have hk : kd 384 = 7 := by decide +kernel
  refine hE_put ?_ (fun y hy => ?_)
  · rw [hE_ob _ hk (by decide)]
    rfl
  · simp only [hE, sW, cellOf]
    by_cases c : kd y < 10
    · rw [if_pos c, if_pos c, obOf_w (fun e => hy (kd_7 e))]
    · rw [if_neg c, if_neg c]
theorem iZ_upd (f : Nat → Int) (k : Nat) (z : Int) : upd (fun j => iZ (f j)) k (iZ z) = fun j => iZ (va_up f k z j) := by
  funext j
  by_cases e : j = k <;> simp [upd, va_up, e]
theorem lZ_upd (f : Nat → Int) (k : Nat) (z : Int) : vp_updL (fun j => lZ (f j)) k (lZ z) = fun j => lZ (va_up f k z j) := by
  funext j
  by_cases e : j = k <;> simp [vp_updL, va_up, e]
theorem iZ_cpy (f g : Nat → Int) (sp dp n : Nat) : va_cpy (fun j => iZ (f j)) (fun j => iZ (g j)) sp dp n = fun j => iZ (va_cpy f g sp dp n j) := by
  funext j
  by_cases e : dp ≤ j ∧ j < dp + n <;> simp [va_cpy, e]
theorem hE_putR {σ : gS} {a n k : Nat} {z : Int} (hk : kd a = 100 + n) (hn : n < 90000) : g_put (hE σ) a (.inl (0, n, .inl (fun j => iZ (va_up (σ.2.1 a) k z j)))) = hE (sR σ a k z) := by
  refine hE_put ?_ (fun y hy => ?_)
  · rw [hE_ri _ hk hn]
    simp only [sR, up2_eq]
  · simp only [hE, sR, up2_ne _ _ _ hy]
theorem hE_putRw {σ : gS} {a n : Nat} {f : Nat → Int} (hk : kd a = 100 + n) (hn : n < 90000) : g_put (hE σ) a (.inl (0, n, .inl (fun j => iZ (f j)))) = hE (sRw σ a f) := by
  refine hE_put ?_ (fun y hy => ?_)
  · rw [hE_ri _ hk hn]
    simp only [sRw, va_up_self]
  · simp only [hE, sRw, va_up_ne _ _ hy]
theorem hE_putZ {σ : gS} {a n k : Nat} {z : Int} (hk : kd a = 200000 + n) (hn : n < 90000) : g_put (hE σ) a (.inl (2, n, .inl (fun j => iZ (va_up (σ.2.1 a) k z j)))) = hE (sR σ a k z) := by
  refine hE_put ?_ (fun y hy => ?_)
  · rw [hE_rz _ hk hn]
    simp only [sR, up2_eq]
  · simp only [hE, sR, up2_ne _ _ _ hy]
theorem hE_putJ {σ : gS} {a n k : Nat} {z : Int} (hk : kd a = 100000 + n) (hn : n < 90000) : g_put (hE σ) a (.inl (1, n, .inr (.inl (fun j => lZ (va_up (σ.2.2.1 a) k z j))))) = hE (sJ σ a k z) := by
  refine hE_put ?_ (fun y hy => ?_)
  · rw [hE_rj _ hk hn]
    simp only [sJ, up2_eq]
  · simp only [hE, sJ, up2_ne _ _ _ hy]
theorem hE_putS {σ : gS} {a n k v : Nat} (hk : kd a = 300000 + n) (hn : n < 90000) : g_put (hE σ) a (.inl (3, n, .inr (.inr (.inr (.inr (va_up (σ.2.2.2.2 a) k (some v))))))) = hE (sT σ a k (some v)) := by
  refine hE_put ?_ (fun y hy => ?_)
  · rw [hE_rS _ hk hn]
    simp only [sT, up2_eq]
  · simp only [hE, sT, up2_ne _ _ _ hy]
/-- the walk over states, and a contract over states -/
abbrev sE (Y : gY) (M : gM) (d : Nat) (Q : Option Value → gS → Prop) (pc : Nat) (L : List (Option Value)) (S : List Value) (σ : gS) : Prop :=
  gE Y M d (398, 15794, 398, 15794) (fun v h' => ∃ σ', h' = hE σ' ∧ Q v σ') pc L S (hE σ)
def sC (M : gM) (d : Nat) (avs : List Value) (σ : gS) (Q : Option Value → gS → Prop) : Prop :=
  gC M d (398, 15794, 398, 15794) avs (hE σ) (fun v h' => ∃ σ', h' = hE σ' ∧ Q v σ')
theorem sC_of {M : gM} {d : Nat} {avs : List Value} {σ : gS} {Q : Option Value → gS → Prop} (hy : plainName M.1.cls = true) (hn : (g_ent0 avs).length ≤ M.2.2.1) (k : sE g_tt M d Q 0 (g_ent M.2.2.1 avs) [] σ) : sC M d avs σ Q :=
  gC_of (h := hE σ) (B1 := 398) (B2 := 15794) hy hn (Nat.le_refl _) (Nat.le_refl _) k
theorem sg0 {Y : gY} {M : gM} {d : Nat} {Q : Option Value → gS → Prop} {pc : Nat} {L : List (Option Value)} {S : List Value} {σ : gS} {a kf i : Nat} {v : Value} (hd : decode M.2.1 pc = .ok (.getfield i, 3)) (hl : Cond.fieldLink M.1.cls i (TX0 kf).1 (TX0 kf).2.1 (TX0 kf).2.2.1 ∈ g_W) (ha : kd a = 0) (hk : kf < 5) (hv : (obOf 0 a (σ.1 a) σ.2.2.2.1 (σ.2.2.2.2 a))[kf]? = some v) (k : sE Y M d Q (pc + 3) L (v :: S) σ) : sE Y M d Q pc L (.ref a :: S) σ :=
  q_get (C := RX0) (T := TX0) (N := 5) (ci := 0) hd hl uwX0 rfl hk (kd_lt ha (by decide)) (hE_ob σ ha (by decide)) hv k
theorem obI0 {kf : Nat} (h : kf ∈ [1, 2, 4]) (a : Nat) (z : Int) (I : Nat → Int) (w : Int) (T : Nat → Option Nat) : (obOf 0 a I w T).set kf (.int (iZ z)) = obOf 0 a (va_up I kf z) w T := by
  simp only [List.mem_cons, List.not_mem_nil, or_false] at h
  rcases h with rfl | rfl | rfl <;> rfl
theorem sp0 {Y : gY} {M : gM} {d : Nat} {Q : Option Value → gS → Prop} {pc : Nat} {L : List (Option Value)} {S : List Value} {σ : gS} {a kf i : Nat} {z : Int} (hd : decode M.2.1 pc = .ok (.putfield i, 3)) (hl : Cond.fieldLink M.1.cls i (TX0 kf).1 (TX0 kf).2.1 (TX0 kf).2.2.1 ∈ g_W) (ha : kd a = 0) (hk : kf ∈ [1, 2, 4]) (k : sE Y M d Q (pc + 3) L S (sI σ a kf z)) : sE Y M d Q pc L (.int (iZ z) :: .ref a :: S) σ := by
  have e := hE_putI (σ := σ) (kf := kf) (z := z) ha (by decide) (obI0 hk a z)
  have q1 : ∀ x ∈ [1, 2, 4], x < 5 := by decide
  have q2 : ∀ x ∈ [1, 2, 4], (TX0 x).2.2.2 = false := by decide
  have q3 : ∀ x ∈ [1, 2, 4], tyX0 x = .int := by decide
  have q4 := q1 kf hk
  exact q_put (C := RX0) (T := TX0) (N := 5) (ci := 0) (kf := kf) (ty := .int) hd hl uwX0 tyX0 tyX0_ok nmX0 rfl q4 (q2 kf hk) (q3 kf hk) (kd_lt ha (by decide)) (hE_ob σ ha (by decide)) q4 (fun _ => rfl) (fun _ => rfl) (by rw [e]; exact k)
theorem sg1 {Y : gY} {M : gM} {d : Nat} {Q : Option Value → gS → Prop} {pc : Nat} {L : List (Option Value)} {S : List Value} {σ : gS} {a kf i : Nat} {v : Value} (hd : decode M.2.1 pc = .ok (.getfield i, 3)) (hl : Cond.fieldLink M.1.cls i (TX1 kf).1 (TX1 kf).2.1 (TX1 kf).2.2.1 ∈ g_W) (ha : kd a = 1) (hk : kf < 7) (hv : (obOf 1 a (σ.1 a) σ.2.2.2.1 (σ.2.2.2.2 a))[kf]? = some v) (k : sE Y M d Q (pc + 3) L (v :: S) σ) : sE Y M d Q pc L (.ref a :: S) σ :=
  q_get (C := RX1) (T := TX1) (N := 7) (ci := 1) hd hl uwX1 rfl hk (kd_lt ha (by decide)) (hE_ob σ ha (by decide)) hv k
theorem obI1 {kf : Nat} (h : kf ∈ [0, 1, 5, 6]) (a : Nat) (z : Int) (I : Nat → Int) (w : Int) (T : Nat → Option Nat) : (obOf 1 a I w T).set kf (.int (iZ z)) = obOf 1 a (va_up I kf z) w T := by
  simp only [List.mem_cons, List.not_mem_nil, or_false] at h
  rcases h with rfl | rfl | rfl | rfl <;> rfl
theorem sp1 {Y : gY} {M : gM} {d : Nat} {Q : Option Value → gS → Prop} {pc : Nat} {L : List (Option Value)} {S : List Value} {σ : gS} {a kf i : Nat} {z : Int} (hd : decode M.2.1 pc = .ok (.putfield i, 3)) (hl : Cond.fieldLink M.1.cls i (TX1 kf).1 (TX1 kf).2.1 (TX1 kf).2.2.1 ∈ g_W) (ha : kd a = 1) (hk : kf ∈ [0, 1, 5, 6]) (k : sE Y M d Q (pc + 3) L S (sI σ a kf z)) : sE Y M d Q pc L (.int (iZ z) :: .ref a :: S) σ := by
  have e := hE_putI (σ := σ) (kf := kf) (z := z) ha (by decide) (obI1 hk a z)
  have q1 : ∀ x ∈ [0, 1, 5, 6], x < 7 := by decide
  have q2 : ∀ x ∈ [0, 1, 5, 6], (TX1 x).2.2.2 = false := by decide
  have q3 : ∀ x ∈ [0, 1, 5, 6], tyX1 x = .int := by decide
  have q4 := q1 kf hk
  exact q_put (C := RX1) (T := TX1) (N := 7) (ci := 1) (kf := kf) (ty := .int) hd hl uwX1 tyX1 tyX1_ok nmX1 rfl q4 (q2 kf hk) (q3 kf hk) (kd_lt ha (by decide)) (hE_ob σ ha (by decide)) q4 (fun _ => rfl) (fun _ => rfl) (by rw [e]; exact k)
theorem sz1_4 {Y : gY} {M : gM} {d : Nat} {Q : Option Value → gS → Prop} {pc : Nat} {L : List (Option Value)} {S : List Value} {σ : gS} {a i : Nat} {z : Int} (hd : decode M.2.1 pc = .ok (.putfield i, 3)) (hl : Cond.fieldLink M.1.cls i (TX1 4).1 (TX1 4).2.1 (TX1 4).2.2.1 ∈ g_W) (ha : kd a = 1) (hz : z = 0 ∨ z = 1) (k : sE Y M d Q (pc + 3) L S (sI σ a 4 z)) : sE Y M d Q pc L (.int (iZ z) :: .ref a :: S) σ := by
  have e := hE_putI (σ := σ) (kf := 4) (z := z) ha (by decide) (fun _ _ _ => rfl)
  exact q_put (C := RX1) (T := TX1) (N := 7) (ci := 1) (kf := 4) (ty := .boolean) hd hl uwX1 tyX1 tyX1_ok nmX1 rfl (by decide) rfl rfl (kd_lt ha (by decide)) (hE_ob σ ha (by decide)) (by show 4 < 7; decide) (g_nz hz) (g_fz hz) (by rw [e]; exact k)
theorem sg2 {Y : gY} {M : gM} {d : Nat} {Q : Option Value → gS → Prop} {pc : Nat} {L : List (Option Value)} {S : List Value} {σ : gS} {a kf i : Nat} {v : Value} (hd : decode M.2.1 pc = .ok (.getfield i, 3)) (hl : Cond.fieldLink M.1.cls i (TX2 kf).1 (TX2 kf).2.1 (TX2 kf).2.2.1 ∈ g_W) (ha : kd a = 2) (hk : kf < 12) (hv : (obOf 2 a (σ.1 a) σ.2.2.2.1 (σ.2.2.2.2 a))[kf]? = some v) (k : sE Y M d Q (pc + 3) L (v :: S) σ) : sE Y M d Q pc L (.ref a :: S) σ :=
  q_get (C := RX2) (T := TX2) (N := 12) (ci := 2) hd hl uwX2 rfl hk (kd_lt ha (by decide)) (hE_ob σ ha (by decide)) hv k
theorem obI2 {kf : Nat} (h : kf ∈ [2, 3, 4, 5, 6, 7, 9, 11]) (a : Nat) (z : Int) (I : Nat → Int) (w : Int) (T : Nat → Option Nat) : (obOf 2 a I w T).set kf (.int (iZ z)) = obOf 2 a (va_up I kf z) w T := by
  simp only [List.mem_cons, List.not_mem_nil, or_false] at h
  rcases h with rfl | rfl | rfl | rfl | rfl | rfl | rfl | rfl <;> rfl
theorem sp2 {Y : gY} {M : gM} {d : Nat} {Q : Option Value → gS → Prop} {pc : Nat} {L : List (Option Value)} {S : List Value} {σ : gS} {a kf i : Nat} {z : Int} (hd : decode M.2.1 pc = .ok (.putfield i, 3)) (hl : Cond.fieldLink M.1.cls i (TX2 kf).1 (TX2 kf).2.1 (TX2 kf).2.2.1 ∈ g_W) (ha : kd a = 2) (hk : kf ∈ [2, 3, 4, 5, 6, 7, 9, 11]) (k : sE Y M d Q (pc + 3) L S (sI σ a kf z)) : sE Y M d Q pc L (.int (iZ z) :: .ref a :: S) σ := by
  have e := hE_putI (σ := σ) (kf := kf) (z := z) ha (by decide) (obI2 hk a z)
  have q1 : ∀ x ∈ [2, 3, 4, 5, 6, 7, 9, 11], x < 12 := by decide
  have q2 : ∀ x ∈ [2, 3, 4, 5, 6, 7, 9, 11], (TX2 x).2.2.2 = false := by decide
  have q3 : ∀ x ∈ [2, 3, 4, 5, 6, 7, 9, 11], tyX2 x = .int := by decide
  have q4 := q1 kf hk
  exact q_put (C := RX2) (T := TX2) (N := 12) (ci := 2) (kf := kf) (ty := .int) hd hl uwX2 tyX2 tyX2_ok nmX2 rfl q4 (q2 kf hk) (q3 kf hk) (kd_lt ha (by decide)) (hE_ob σ ha (by decide)) q4 (fun _ => rfl) (fun _ => rfl) (by rw [e]; exact k)
theorem sg3 {Y : gY} {M : gM} {d : Nat} {Q : Option Value → gS → Prop} {pc : Nat} {L : List (Option Value)} {S : List Value} {σ : gS} {a kf i : Nat} {v : Value} (hd : decode M.2.1 pc = .ok (.getfield i, 3)) (hl : Cond.fieldLink M.1.cls i (TX3 kf).1 (TX3 kf).2.1 (TX3 kf).2.2.1 ∈ g_W) (ha : kd a = 3) (hk : kf < 7) (hv : (obOf 3 a (σ.1 a) σ.2.2.2.1 (σ.2.2.2.2 a))[kf]? = some v) (k : sE Y M d Q (pc + 3) L (v :: S) σ) : sE Y M d Q pc L (.ref a :: S) σ :=
  q_get (C := RX3) (T := TX3) (N := 7) (ci := 3) hd hl uwX3 rfl hk (kd_lt ha (by decide)) (hE_ob σ ha (by decide)) hv k
theorem obI3 {kf : Nat} (h : kf ∈ [1, 5, 6]) (a : Nat) (z : Int) (I : Nat → Int) (w : Int) (T : Nat → Option Nat) : (obOf 3 a I w T).set kf (.int (iZ z)) = obOf 3 a (va_up I kf z) w T := by
  simp only [List.mem_cons, List.not_mem_nil, or_false] at h
  rcases h with rfl | rfl | rfl <;> rfl
theorem sp3 {Y : gY} {M : gM} {d : Nat} {Q : Option Value → gS → Prop} {pc : Nat} {L : List (Option Value)} {S : List Value} {σ : gS} {a kf i : Nat} {z : Int} (hd : decode M.2.1 pc = .ok (.putfield i, 3)) (hl : Cond.fieldLink M.1.cls i (TX3 kf).1 (TX3 kf).2.1 (TX3 kf).2.2.1 ∈ g_W) (ha : kd a = 3) (hk : kf ∈ [1, 5, 6]) (k : sE Y M d Q (pc + 3) L S (sI σ a kf z)) : sE Y M d Q pc L (.int (iZ z) :: .ref a :: S) σ := by
  have e := hE_putI (σ := σ) (kf := kf) (z := z) ha (by decide) (obI3 hk a z)
  have q1 : ∀ x ∈ [1, 5, 6], x < 7 := by decide
  have q2 : ∀ x ∈ [1, 5, 6], (TX3 x).2.2.2 = false := by decide
  have q3 : ∀ x ∈ [1, 5, 6], tyX3 x = .int := by decide
  have q4 := q1 kf hk
  exact q_put (C := RX3) (T := TX3) (N := 7) (ci := 3) (kf := kf) (ty := .int) hd hl uwX3 tyX3 tyX3_ok nmX3 rfl q4 (q2 kf hk) (q3 kf hk) (kd_lt ha (by decide)) (hE_ob σ ha (by decide)) q4 (fun _ => rfl) (fun _ => rfl) (by rw [e]; exact k)
theorem sg4 {Y : gY} {M : gM} {d : Nat} {Q : Option Value → gS → Prop} {pc : Nat} {L : List (Option Value)} {S : List Value} {σ : gS} {a kf i : Nat} {v : Value} (hd : decode M.2.1 pc = .ok (.getfield i, 3)) (hl : Cond.fieldLink M.1.cls i (TX4 kf).1 (TX4 kf).2.1 (TX4 kf).2.2.1 ∈ g_W) (ha : kd a = 4) (hk : kf < 12) (hv : (obOf 4 a (σ.1 a) σ.2.2.2.1 (σ.2.2.2.2 a))[kf]? = some v) (k : sE Y M d Q (pc + 3) L (v :: S) σ) : sE Y M d Q pc L (.ref a :: S) σ :=
  q_get (C := RX4) (T := TX4) (N := 12) (ci := 4) hd hl uwX4 rfl hk (kd_lt ha (by decide)) (hE_ob σ ha (by decide)) hv k
theorem obI4 {kf : Nat} (h : kf ∈ [1, 2, 3, 4, 5, 9]) (a : Nat) (z : Int) (I : Nat → Int) (w : Int) (T : Nat → Option Nat) : (obOf 4 a I w T).set kf (.int (iZ z)) = obOf 4 a (va_up I kf z) w T := by
  simp only [List.mem_cons, List.not_mem_nil, or_false] at h
  rcases h with rfl | rfl | rfl | rfl | rfl | rfl <;> rfl
theorem sp4 {Y : gY} {M : gM} {d : Nat} {Q : Option Value → gS → Prop} {pc : Nat} {L : List (Option Value)} {S : List Value} {σ : gS} {a kf i : Nat} {z : Int} (hd : decode M.2.1 pc = .ok (.putfield i, 3)) (hl : Cond.fieldLink M.1.cls i (TX4 kf).1 (TX4 kf).2.1 (TX4 kf).2.2.1 ∈ g_W) (ha : kd a = 4) (hk : kf ∈ [1, 2, 3, 4, 5, 9]) (k : sE Y M d Q (pc + 3) L S (sI σ a kf z)) : sE Y M d Q pc L (.int (iZ z) :: .ref a :: S) σ := by
  have e := hE_putI (σ := σ) (kf := kf) (z := z) ha (by decide) (obI4 hk a z)
  have q1 : ∀ x ∈ [1, 2, 3, 4, 5, 9], x < 12 := by decide
  have q2 : ∀ x ∈ [1, 2, 3, 4, 5, 9], (TX4 x).2.2.2 = false := by decide
  have q3 : ∀ x ∈ [1, 2, 3, 4, 5, 9], tyX4 x = .int := by decide
  have q4 := q1 kf hk
  exact q_put (C := RX4) (T := TX4) (N := 12) (ci := 4) (kf := kf) (ty := .int) hd hl uwX4 tyX4 tyX4_ok nmX4 rfl q4 (q2 kf hk) (q3 kf hk) (kd_lt ha (by decide)) (hE_ob σ ha (by decide)) q4 (fun _ => rfl) (fun _ => rfl) (by rw [e]; exact k)
theorem sz4_10 {Y : gY} {M : gM} {d : Nat} {Q : Option Value → gS → Prop} {pc : Nat} {L : List (Option Value)} {S : List Value} {σ : gS} {a i : Nat} {z : Int} (hd : decode M.2.1 pc = .ok (.putfield i, 3)) (hl : Cond.fieldLink M.1.cls i (TX4 10).1 (TX4 10).2.1 (TX4 10).2.2.1 ∈ g_W) (ha : kd a = 4) (hz : z = 0 ∨ z = 1) (k : sE Y M d Q (pc + 3) L S (sI σ a 10 z)) : sE Y M d Q pc L (.int (iZ z) :: .ref a :: S) σ := by
  have e := hE_putI (σ := σ) (kf := 10) (z := z) ha (by decide) (fun _ _ _ => rfl)
  exact q_put (C := RX4) (T := TX4) (N := 12) (ci := 4) (kf := 10) (ty := .boolean) hd hl uwX4 tyX4 tyX4_ok nmX4 rfl (by decide) rfl rfl (kd_lt ha (by decide)) (hE_ob σ ha (by decide)) (by show 10 < 12; decide) (g_nz hz) (g_fz hz) (by rw [e]; exact k)
theorem sg5 {Y : gY} {M : gM} {d : Nat} {Q : Option Value → gS → Prop} {pc : Nat} {L : List (Option Value)} {S : List Value} {σ : gS} {a kf i : Nat} {v : Value} (hd : decode M.2.1 pc = .ok (.getfield i, 3)) (hl : Cond.fieldLink M.1.cls i (TX5 kf).1 (TX5 kf).2.1 (TX5 kf).2.2.1 ∈ g_W) (ha : kd a = 5) (hk : kf < 9) (hv : (obOf 5 a (σ.1 a) σ.2.2.2.1 (σ.2.2.2.2 a))[kf]? = some v) (k : sE Y M d Q (pc + 3) L (v :: S) σ) : sE Y M d Q pc L (.ref a :: S) σ :=
  q_get (C := RX5) (T := TX5) (N := 9) (ci := 5) hd hl uwX5 rfl hk (kd_lt ha (by decide)) (hE_ob σ ha (by decide)) hv k
theorem obI5 {kf : Nat} (h : kf ∈ [2, 6, 7, 8]) (a : Nat) (z : Int) (I : Nat → Int) (w : Int) (T : Nat → Option Nat) : (obOf 5 a I w T).set kf (.int (iZ z)) = obOf 5 a (va_up I kf z) w T := by
  simp only [List.mem_cons, List.not_mem_nil, or_false] at h
  rcases h with rfl | rfl | rfl | rfl <;> rfl
theorem sp5 {Y : gY} {M : gM} {d : Nat} {Q : Option Value → gS → Prop} {pc : Nat} {L : List (Option Value)} {S : List Value} {σ : gS} {a kf i : Nat} {z : Int} (hd : decode M.2.1 pc = .ok (.putfield i, 3)) (hl : Cond.fieldLink M.1.cls i (TX5 kf).1 (TX5 kf).2.1 (TX5 kf).2.2.1 ∈ g_W) (ha : kd a = 5) (hk : kf ∈ [2, 6, 7, 8]) (k : sE Y M d Q (pc + 3) L S (sI σ a kf z)) : sE Y M d Q pc L (.int (iZ z) :: .ref a :: S) σ := by
  have e := hE_putI (σ := σ) (kf := kf) (z := z) ha (by decide) (obI5 hk a z)
  have q1 : ∀ x ∈ [2, 6, 7, 8], x < 9 := by decide
  have q2 : ∀ x ∈ [2, 6, 7, 8], (TX5 x).2.2.2 = false := by decide
  have q3 : ∀ x ∈ [2, 6, 7, 8], tyX5 x = .int := by decide
  have q4 := q1 kf hk
  exact q_put (C := RX5) (T := TX5) (N := 9) (ci := 5) (kf := kf) (ty := .int) hd hl uwX5 tyX5 tyX5_ok nmX5 rfl q4 (q2 kf hk) (q3 kf hk) (kd_lt ha (by decide)) (hE_ob σ ha (by decide)) q4 (fun _ => rfl) (fun _ => rfl) (by rw [e]; exact k)
theorem sg6 {Y : gY} {M : gM} {d : Nat} {Q : Option Value → gS → Prop} {pc : Nat} {L : List (Option Value)} {S : List Value} {σ : gS} {a kf i : Nat} {v : Value} (hd : decode M.2.1 pc = .ok (.getfield i, 3)) (hl : Cond.fieldLink M.1.cls i (TX6 kf).1 (TX6 kf).2.1 (TX6 kf).2.2.1 ∈ g_W) (ha : kd a = 6) (hk : kf < 10) (hv : (obOf 6 a (σ.1 a) σ.2.2.2.1 (σ.2.2.2.2 a))[kf]? = some v) (k : sE Y M d Q (pc + 3) L (v :: S) σ) : sE Y M d Q pc L (.ref a :: S) σ :=
  q_get (C := RX6) (T := TX6) (N := 10) (ci := 6) hd hl uwX6 rfl hk (kd_lt ha (by decide)) (hE_ob σ ha (by decide)) hv k
theorem sg7 {Y : gY} {M : gM} {d : Nat} {Q : Option Value → gS → Prop} {pc : Nat} {L : List (Option Value)} {S : List Value} {σ : gS} {a kf i : Nat} {v : Value} (hd : decode M.2.1 pc = .ok (.getfield i, 3)) (hl : Cond.fieldLink M.1.cls i (TX7 kf).1 (TX7 kf).2.1 (TX7 kf).2.2.1 ∈ g_W) (ha : kd a = 7) (hk : kf < 36) (hv : (obOf 7 a (σ.1 a) σ.2.2.2.1 (σ.2.2.2.2 a))[kf]? = some v) (k : sE Y M d Q (pc + 3) L (v :: S) σ) : sE Y M d Q pc L (.ref a :: S) σ :=
  q_get (C := RX7) (T := TX7) (N := 36) (ci := 7) hd hl uwX7 rfl hk (kd_lt ha (by decide)) (hE_ob σ ha (by decide)) hv k
theorem obI7 {kf : Nat} (h : kf ∈ [4, 5, 6, 7, 8, 9, 10, 12, 13, 14, 16, 17, 19, 24, 25, 26, 29, 30, 31, 35]) (a : Nat) (z : Int) (I : Nat → Int) (w : Int) (T : Nat → Option Nat) : (obOf 7 a I w T).set kf (.int (iZ z)) = obOf 7 a (va_up I kf z) w T := by
  simp only [List.mem_cons, List.not_mem_nil, or_false] at h
  rcases h with rfl | rfl | rfl | rfl | rfl | rfl | rfl | rfl | rfl | rfl | rfl | rfl | rfl | rfl | rfl | rfl | rfl | rfl | rfl | rfl <;> rfl
theorem sp7 {Y : gY} {M : gM} {d : Nat} {Q : Option Value → gS → Prop} {pc : Nat} {L : List (Option Value)} {S : List Value} {σ : gS} {a kf i : Nat} {z : Int} (hd : decode M.2.1 pc = .ok (.putfield i, 3)) (hl : Cond.fieldLink M.1.cls i (TX7 kf).1 (TX7 kf).2.1 (TX7 kf).2.2.1 ∈ g_W) (ha : kd a = 7) (hk : kf ∈ [4, 5, 6, 7, 8, 9, 10, 12, 13, 14, 16, 17, 19, 24, 25, 26, 29, 30, 31, 35]) (k : sE Y M d Q (pc + 3) L S (sI σ a kf z)) : sE Y M d Q pc L (.int (iZ z) :: .ref a :: S) σ := by
  have e := hE_putI (σ := σ) (kf := kf) (z := z) ha (by decide) (obI7 hk a z)
  have q1 : ∀ x ∈ [4, 5, 6, 7, 8, 9, 10, 12, 13, 14, 16, 17, 19, 24, 25, 26, 29, 30, 31, 35], x < 36 := by decide
  have q2 : ∀ x ∈ [4, 5, 6, 7, 8, 9, 10, 12, 13, 14, 16, 17, 19, 24, 25, 26, 29, 30, 31, 35], (TX7 x).2.2.2 = false := by decide
  have q3 : ∀ x ∈ [4, 5, 6, 7, 8, 9, 10, 12, 13, 14, 16, 17, 19, 24, 25, 26, 29, 30, 31, 35], tyX7 x = .int := by decide
  have q4 := q1 kf hk
  exact q_put (C := RX7) (T := TX7) (N := 36) (ci := 7) (kf := kf) (ty := .int) hd hl uwX7 tyX7 tyX7_ok nmX7 rfl q4 (q2 kf hk) (q3 kf hk) (kd_lt ha (by decide)) (hE_ob σ ha (by decide)) q4 (fun _ => rfl) (fun _ => rfl) (by rw [e]; exact k)
theorem sz7_18 {Y : gY} {M : gM} {d : Nat} {Q : Option Value → gS → Prop} {pc : Nat} {L : List (Option Value)} {S : List Value} {σ : gS} {a i : Nat} {z : Int} (hd : decode M.2.1 pc = .ok (.putfield i, 3)) (hl : Cond.fieldLink M.1.cls i (TX7 18).1 (TX7 18).2.1 (TX7 18).2.2.1 ∈ g_W) (ha : kd a = 7) (hz : z = 0 ∨ z = 1) (k : sE Y M d Q (pc + 3) L S (sI σ a 18 z)) : sE Y M d Q pc L (.int (iZ z) :: .ref a :: S) σ := by
  have e := hE_putI (σ := σ) (kf := 18) (z := z) ha (by decide) (fun _ _ _ => rfl)
  exact q_put (C := RX7) (T := TX7) (N := 36) (ci := 7) (kf := 18) (ty := .boolean) hd hl uwX7 tyX7 tyX7_ok nmX7 rfl (by decide) rfl rfl (kd_lt ha (by decide)) (hE_ob σ ha (by decide)) (by show 18 < 36; decide) (g_nz hz) (g_fz hz) (by rw [e]; exact k)
theorem sz7_23 {Y : gY} {M : gM} {d : Nat} {Q : Option Value → gS → Prop} {pc : Nat} {L : List (Option Value)} {S : List Value} {σ : gS} {a i : Nat} {z : Int} (hd : decode M.2.1 pc = .ok (.putfield i, 3)) (hl : Cond.fieldLink M.1.cls i (TX7 23).1 (TX7 23).2.1 (TX7 23).2.2.1 ∈ g_W) (ha : kd a = 7) (hz : z = 0 ∨ z = 1) (k : sE Y M d Q (pc + 3) L S (sI σ a 23 z)) : sE Y M d Q pc L (.int (iZ z) :: .ref a :: S) σ := by
  have e := hE_putI (σ := σ) (kf := 23) (z := z) ha (by decide) (fun _ _ _ => rfl)
  exact q_put (C := RX7) (T := TX7) (N := 36) (ci := 7) (kf := 23) (ty := .boolean) hd hl uwX7 tyX7 tyX7_ok nmX7 rfl (by decide) rfl rfl (kd_lt ha (by decide)) (hE_ob σ ha (by decide)) (by show 23 < 36; decide) (g_nz hz) (g_fz hz) (by rw [e]; exact k)
theorem st1_3 {Y : gY} {M : gM} {d : Nat} {Q : Option Value → gS → Prop} {pc : Nat} {L : List (Option Value)} {S : List Value} {σ : gS} {a i x : Nat} (hd : decode M.2.1 pc = .ok (.putfield i, 3)) (hl : Cond.fieldLink M.1.cls i (TX1 3).1 (TX1 3).2.1 (TX1 3).2.2.1 ∈ g_W) (ha : kd a = 1) (k : sE Y M d Q (pc + 3) L S (sT σ a 3 (some x))) : sE Y M d Q pc L (.ref x :: .ref a :: S) σ := by
  have e := hE_putT (σ := σ) (kf := 3) (z := some x) ha (by decide) (fun _ _ _ => rfl)
  exact q_put (C := RX1) (T := TX1) (N := 7) (ci := 1) (kf := 3) (ty := .object RX4) (v := .ref x) hd hl uwX1 tyX1 tyX1_ok nmX1 rfl (by decide) rfl rfl (kd_lt ha (by decide)) (hE_ob σ ha (by decide)) (by show 3 < 7; decide) (fun _ => rfl) (fun _ => rfl) (by rw [show (Value.ref x) = va_rf (some x) from rfl, e]; exact k)
theorem spw {Y : gY} {M : gM} {d : Nat} {Q : Option Value → gS → Prop} {pc : Nat} {L : List (Option Value)} {S : List Value} {σ : gS} {i : Nat} {z : Int} (hd : decode M.2.1 pc = .ok (.putfield i, 3)) (hl : Cond.fieldLink M.1.cls i (TX7 11).1 (TX7 11).2.1 (TX7 11).2.2.1 ∈ g_W) (k : sE Y M d Q (pc + 3) L S (sW σ z)) : sE Y M d Q pc L (.long (lZ z) :: .ref 384 :: S) σ := by
  have e := hE_putW (σ := σ) (z := z)
  have ha : kd 384 = 7 := by decide +kernel
  exact q_put (C := RX7) (T := TX7) (N := 36) (ci := 7) (kf := 11) (ty := .long) hd hl uwX7 tyX7 tyX7_ok nmX7 rfl (by decide) rfl rfl (kd_lt ha (by decide)) (hE_ob σ ha (by decide)) (by show 11 < 36; decide) (fun _ => rfl) (fun _ => rfl) (by rw [e]; exact k)
theorem s_iald {Y : gY} {M : gM} {d : Nat} {Q : Option Value → gS → Prop} {pc : Nat} {L : List (Option Value)} {S : List Value} {σ : gS} {a n : Nat} {z x : Int} (hd : decode M.2.1 pc = .ok (.iaload, 1)) (ha : kd a = 100 + n) (h0 : 0 ≤ z) (h1 : z < n) (hn : n < 90000) (hv : σ.2.1 a z.toNat = x) (k : sE Y M d Q (pc + 1) L (.int (iZ x) :: S) σ) : sE Y M d Q pc L (.int (iZ z) :: .ref a :: S) σ := by
  have e := iZ_clamp (z := z) ⟨by omega, by omega⟩
  refine q_iald hd (kd_lt ha (by omega)) (hE_ri σ ha hn) (iZ_in h0 h1 (by omega)) ?_
  rw [e, hv]
  exact k
theorem s_zald {Y : gY} {M : gM} {d : Nat} {Q : Option Value → gS → Prop} {pc : Nat} {L : List (Option Value)} {S : List Value} {σ : gS} {a n : Nat} {z x : Int} (hd : decode M.2.1 pc = .ok (.baload, 1)) (ha : kd a = 200000 + n) (h0 : 0 ≤ z) (h1 : z < n) (hn : n < 90000) (hv : σ.2.1 a z.toNat = x) (k : sE Y M d Q (pc + 1) L (.int (iZ x) :: S) σ) : sE Y M d Q pc L (.int (iZ z) :: .ref a :: S) σ := by
  have e := iZ_clamp (z := z) ⟨by omega, by omega⟩
  refine q_zald hd (kd_lt ha (by omega)) (hE_rz σ ha hn) (iZ_in h0 h1 (by omega)) ?_
  rw [e, hv]
  exact k
theorem s_lald {Y : gY} {M : gM} {d : Nat} {Q : Option Value → gS → Prop} {pc : Nat} {L : List (Option Value)} {S : List Value} {σ : gS} {a n : Nat} {z x : Int} (hd : decode M.2.1 pc = .ok (.laload, 1)) (ha : kd a = 100000 + n) (h0 : 0 ≤ z) (h1 : z < n) (hn : n < 90000) (hv : σ.2.2.1 a z.toNat = x) (k : sE Y M d Q (pc + 1) L (.long (lZ x) :: S) σ) : sE Y M d Q pc L (.int (iZ z) :: .ref a :: S) σ := by
  have e := iZ_clamp (z := z) ⟨by omega, by omega⟩
  refine q_lald hd (kd_lt ha (by omega)) (hE_rj σ ha hn) (iZ_in h0 h1 (by omega)) ?_
  rw [e, hv]
  exact k
theorem s_iast {Y : gY} {M : gM} {d : Nat} {Q : Option Value → gS → Prop} {pc : Nat} {L : List (Option Value)} {S : List Value} {σ : gS} {a n : Nat} {z x : Int} (hd : decode M.2.1 pc = .ok (.iastore, 1)) (ha : kd a = 100 + n) (h0 : 0 ≤ z) (h1 : z < n) (hn : n < 90000) (k : sE Y M d Q (pc + 1) L S (sR σ a z.toNat x)) : sE Y M d Q pc L (.int (iZ x) :: .int (iZ z) :: .ref a :: S) σ := by
  have e := iZ_clamp (z := z) ⟨by omega, by omega⟩
  refine q_iast hd (kd_lt ha (by omega)) (hE_ri σ ha hn) (iZ_in h0 h1 (by omega)) ?_
  rw [e, iZ_upd, hE_putR ha hn]
  exact k
theorem s_zast {Y : gY} {M : gM} {d : Nat} {Q : Option Value → gS → Prop} {pc : Nat} {L : List (Option Value)} {S : List Value} {σ : gS} {a n : Nat} {z x : Int} (hd : decode M.2.1 pc = .ok (.bastore, 1)) (ha : kd a = 200000 + n) (h0 : 0 ≤ z) (h1 : z < n) (hn : n < 90000) (hx : x = 0 ∨ x = 1) (k : sE Y M d Q (pc + 1) L S (sR σ a z.toNat x)) : sE Y M d Q pc L (.int (iZ x) :: .int (iZ z) :: .ref a :: S) σ := by
  have e := iZ_clamp (z := z) ⟨by omega, by omega⟩
  refine q_zast hd (kd_lt ha (by omega)) (hE_rz σ ha hn) (iZ_in h0 h1 (by omega)) ?_
  rw [e, show vp_nar .boolean (iZ x) = iZ x by rcases hx with rfl | rfl <;> decide +kernel, iZ_upd, hE_putZ ha hn]
  exact k
theorem s_last {Y : gY} {M : gM} {d : Nat} {Q : Option Value → gS → Prop} {pc : Nat} {L : List (Option Value)} {S : List Value} {σ : gS} {a n : Nat} {z x : Int} (hd : decode M.2.1 pc = .ok (.lastore, 1)) (ha : kd a = 100000 + n) (h0 : 0 ≤ z) (h1 : z < n) (hn : n < 90000) (k : sE Y M d Q (pc + 1) L S (sJ σ a z.toNat x)) : sE Y M d Q pc L (.long (lZ x) :: .int (iZ z) :: .ref a :: S) σ := by
  have e := iZ_clamp (z := z) ⟨by omega, by omega⟩
  refine q_last hd (kd_lt ha (by omega)) (hE_rj σ ha hn) (iZ_in h0 h1 (by omega)) ?_
  rw [e, lZ_upd, hE_putJ ha hn]
  exact k
theorem s_aaldS {Y : gY} {M : gM} {d : Nat} {Q : Option Value → gS → Prop} {pc : Nat} {L : List (Option Value)} {S : List Value} {σ : gS} {a n x : Nat} {z : Int} (hd : decode M.2.1 pc = .ok (.aaload, 1)) (ha : kd a = 300000 + n) (h0 : 0 ≤ z) (h1 : z < n) (hn : n < 90000) (hx : σ.2.2.2.2 a z.toNat = some x) (k : sE Y M d Q (pc + 1) L (.ref x :: S) σ) : sE Y M d Q pc L (.int (iZ z) :: .ref a :: S) σ := by
  have e := iZ_clamp (z := z) ⟨by omega, by omega⟩
  exact q_aald hd (Or.inl ⟨rfl, rfl⟩) (kd_lt ha (by omega)) (hE_rS σ ha hn) (iZ_in h0 h1 (by omega)) (by rw [e]; exact hx) k
theorem s_aaldT {Y : gY} {M : gM} {d : Nat} {Q : Option Value → gS → Prop} {pc : Nat} {L : List (Option Value)} {S : List Value} {σ : gS} {a n x : Nat} {z : Int} (hd : decode M.2.1 pc = .ok (.aaload, 1)) (ha : kd a = 400000 + n) (h0 : 0 ≤ z) (h1 : z < n) (hn : n < 90000) (hx : σ.2.2.2.2 a z.toNat = some x) (k : sE Y M d Q (pc + 1) L (.ref x :: S) σ) : sE Y M d Q pc L (.int (iZ z) :: .ref a :: S) σ := by
  have e := iZ_clamp (z := z) ⟨by omega, by omega⟩
  exact q_aald hd (Or.inr ⟨rfl, rfl⟩) (kd_lt ha (by omega)) (hE_rT σ ha hn) (iZ_in h0 h1 (by omega)) (by rw [e]; exact hx) k
theorem s_aastS {Y : gY} {M : gM} {d : Nat} {Q : Option Value → gS → Prop} {pc : Nat} {L : List (Option Value)} {S : List Value} {σ : gS} {a n v : Nat} {z : Int} (hd : decode M.2.1 pc = .ok (.aastore, 1)) (ha : kd a = 300000 + n) (hv : kd v = 2) (h0 : 0 ≤ z) (h1 : z < n) (hn : n < 90000) (k : sE Y M d Q (pc + 1) L S (sT σ a z.toNat (some v))) : sE Y M d Q pc L (.ref v :: .int (iZ z) :: .ref a :: S) σ := by
  have e := iZ_clamp (z := z) ⟨by omega, by omega⟩
  refine q_aast (ci := 2) (C := RX2) (T := TX2) (N := 12) hd (Or.inl ⟨rfl, rfl⟩) rfl (kd_lt ha (by omega)) (hE_rS σ ha hn) (kd_lt hv (by decide)) (hE_ob σ hv (by decide)) (iZ_in h0 h1 (by omega)) ?_
  rw [e, hE_putS ha hn]
  exact k
theorem s_alen {Y : gY} {M : gM} {d : Nat} {Q : Option Value → gS → Prop} {pc : Nat} {L : List (Option Value)} {S : List Value} {σ : gS} {a n t0 t : Nat} (hd : decode M.2.1 pc = .ok (.arraylength, 1)) (ha : kd a = t0 + n) (ht : (t0 = 100 ∧ t = 0) ∨ (t0 = 100000 ∧ t = 1) ∨ (t0 = 200000 ∧ t = 2) ∨ (t0 = 300000 ∧ t = 3) ∨ (t0 = 400000 ∧ t = 4)) (hn : n < 90000) (k : sE Y M d Q (pc + 1) L (.int (iZ n) :: S) σ) : sE Y M d Q pc L (.ref a :: S) σ := by
  rw [iZ_nat] at k
  rcases ht with ⟨rfl, rfl⟩ | ⟨rfl, rfl⟩ | ⟨rfl, rfl⟩ | ⟨rfl, rfl⟩ | ⟨rfl, rfl⟩
  · exact q_alen (n := n) (t := 0) hd (by decide) (kd_lt ha (by omega)) (hE_ri σ ha hn) rfl k
  · exact q_alen (n := n) (t := 1) hd (by decide) (kd_lt ha (by omega)) (hE_rj σ ha hn) rfl k
  · exact q_alen (n := n) (t := 2) hd (by decide) (kd_lt ha (by omega)) (hE_rz σ ha hn) rfl k
  · exact q_alen (n := n) (t := 3) hd (by decide) (kd_lt ha (by omega)) (hE_rS σ ha hn) rfl k
  · exact q_alen (n := n) (t := 4) hd (by decide) (kd_lt ha (by omega)) (hE_rT σ ha hn) rfl k
theorem s_copy {Y : gY} {M : gM} {d : Nat} {Q : Option Value → gS → Prop} {pc : Nat} {L : List (Option Value)} {S : List Value} {σ : gS} {a0 a n0 n1 i : Nat} {sp dp n : Int} (hd : decode M.2.1 pc = .ok (.invokestatic i, 3)) (hl : Cond.methodLink M.1.cls i arraycopyName ∈ g_W) (hd1 : 1 ≤ d) (hS8 : (S.map fun v => v.category).sum ≤ 8) (ha0 : kd a0 = 100 + n0) (ha : kd a = 100 + n1) (hn0 : n0 < 90000) (hn1 : n1 < 90000) (k1 : 0 ≤ sp) (k2 : 0 ≤ dp) (k3 : 0 ≤ n) (k4 : sp + n ≤ n0) (k5 : dp + n ≤ n1) (k : sE Y M d Q (pc + 3) L S (sRw σ a (va_cpy (σ.2.1 a0) (σ.2.1 a) sp.toNat dp.toNat n.toNat))) : sE Y M d Q pc L (.int (iZ n) :: .int (iZ dp) :: .ref a :: .int (iZ sp) :: .ref a0 :: S) σ := by
  have e1 := iZ_clamp (z := sp) ⟨by omega, by omega⟩
  have e2 := iZ_clamp (z := dp) ⟨by omega, by omega⟩
  have e3 := iZ_clamp (z := n) ⟨by omega, by omega⟩
  have nz : ∀ z : Int, 0 ≤ z → z < 200000 → ¬ iZ z < 0 := fun z q1 q2 q3 => by
    rw [← iZ_0, iZ_lt ⟨by omega, by omega⟩ ⟨by omega, by omega⟩] at q3
    omega
  refine q_copy hd hl wn_copy ws_copy in_System hd1 hS8 (kd_lt ha0 (by omega)) (hE_ri σ ha0 hn0) (kd_lt ha (by omega)) (hE_ri σ ha hn1) (nz sp k1 (by omega)) (nz dp k2 (by omega)) (nz n k3 (by omega)) (by rw [e1, e3]; omega) (by rw [e2, e3]; omega) ?_
  rw [e1, e2, e3, iZ_cpy, hE_putRw ha hn1]
  exact k
theorem s_callV {Y : gY} {M : gM} {d : Nat} {Q : Option Value → gS → Prop} {pc : Nat} {L : List (Option Value)} {S : List Value} {σ : gS} {M' : gM} {d' n i : Nat} {a ci : Nat} {T : u_T} {N : Nat} {As S1 : List Value} {Q' : Option Value → gS → Prop} (hd : decode M.2.1 pc = .ok (.invokevirtual i, 3)) (hok : g_okV M' n) (hl : Cond.methodLink M.1.cls i M'.1 ∈ g_W) (hn : As.length = n) (hdd : d' + 1 ≤ d) (hS1 : S1 = As.reverse ++ .ref a :: S) (hS8 : (S.map fun v => v.category).sum ≤ 8) (ha : kd a = ci) (hci : ci < 10) (hcl : vwCl[ci]? = some (M'.1.cls, T, N)) (hM : sC M' d' (.ref a :: As) σ Q') (k : ∀ (v : Option Value) (σ' : gS), Q' v σ' → sE Y M d Q (pc + 3) L (v.toList ++ S) σ') : sE Y M d Q pc L S1 σ :=
  q_callV hd hok hl hn hdd hS1 hS8 (kd_lt ha (by omega)) (hE_ob σ ha hci) hcl hM (fun v h' hq _ => by
    obtain ⟨σ', rfl, hq⟩ := hq
    exact k v σ' hq)
theorem s_callS {Y : gY} {M : gM} {d : Nat} {Q : Option Value → gS → Prop} {pc : Nat} {L : List (Option Value)} {S : List Value} {σ : gS} {M' : gM} {d' n i : Nat}  {As S1 : List Value} {Q' : Option Value → gS → Prop} (hd : decode M.2.1 pc = .ok (.invokestatic i, 3)) (hok : g_okS M' n) (hl : Cond.methodLink M.1.cls i M'.1 ∈ g_W) (hn : As.length = n) (hdd : d' + 1 ≤ d) (hS1 : S1 = As.reverse ++ S) (hS8 : (S.map fun v => v.category).sum ≤ 8)  (hM : sC M' d' As σ Q') (k : ∀ (v : Option Value) (σ' : gS), Q' v σ' → sE Y M d Q (pc + 3) L (v.toList ++ S) σ') : sE Y M d Q pc L S1 σ :=
  q_callS hd hok hl hn hdd hS1 hS8  hM (fun v h' hq _ => by
    obtain ⟨σ', rfl, hq⟩ := hq
    exact k v σ' hq)
theorem s_callSN {Y : gY} {M : gM} {d : Nat} {Q : Option Value → gS → Prop} {pc : Nat} {L : List (Option Value)} {S : List Value} {σ : gS} {M' : gM} {d' n i : Nat} {host : String} {As S1 : List Value} {Q' : Option Value → gS → Prop} (hd : decode M.2.1 pc = .ok (.invokestatic i, 3)) (hok : g_okS M' n) (hl : (M.1.cls, i, M'.1, host) ∈ g_N) (hn : As.length = n) (hdd : d' + 1 ≤ d) (hS1 : S1 = As.reverse ++ S) (hS8 : (S.map fun v => v.category).sum ≤ 8)  (hM : sC M' d' As σ Q') (k : ∀ (v : Option Value) (σ' : gS), Q' v σ' → sE Y M d Q (pc + 3) L (v.toList ++ S) σ') : sE Y M d Q pc L S1 σ :=
  q_callSN hd hok hl hn hdd hS1 hS8  hM (fun v h' hq _ => by
    obtain ⟨σ', rfl, hq⟩ := hq
    exact k v σ' hq)
theorem s_iret {Y : gY} {M : gM} {d : Nat} {Q : Option Value → gS → Prop} {pc : Nat} {L : List (Option Value)} {σ : gS} {v : Int32} (hd : decode M.2.1 pc = .ok (.ireturn, 1)) (hrt : M.2.2.2 = some .int) (hq : Q (some (.int v)) σ) : sE Y M d Q pc L [.int v] σ :=
  q_iret hd hrt ⟨rfl, rfl⟩ ⟨σ, rfl, hq⟩
theorem s_lret {Y : gY} {M : gM} {d : Nat} {Q : Option Value → gS → Prop} {pc : Nat} {L : List (Option Value)} {σ : gS} {v : Int64} (hd : decode M.2.1 pc = .ok (.lreturn, 1)) (hrt : M.2.2.2 = some .long) (hq : Q (some (.long v)) σ) : sE Y M d Q pc L [.long v] σ :=
  q_lret hd hrt ⟨rfl, rfl⟩ ⟨σ, rfl, hq⟩
theorem s_vret {Y : gY} {M : gM} {d : Nat} {Q : Option Value → gS → Prop} {pc : Nat} {L : List (Option Value)} {σ : gS}  (hd : decode M.2.1 pc = .ok (.return_, 1)) (hrt : M.2.2.2 = none) (hq : Q none σ) : sE Y M d Q pc L [] σ :=
  q_vret hd hrt ⟨rfl, rfl⟩ ⟨σ, rfl, hq⟩
theorem s_aret {Y : gY} {M : gM} {d : Nat} {Q : Option Value → gS → Prop} {pc : Nat} {L : List (Option Value)} {σ : gS} {v : Nat} {C : String} (hd : decode M.2.1 pc = .ok (.areturn, 1)) (hrt : M.2.2.2 = some (.object C)) (hq : Q (some (.ref v)) σ) : sE Y M d Q pc L [.ref v] σ :=
  q_aret hd hrt ⟨rfl, rfl⟩ ⟨σ, rfl, hq⟩
theorem s_zret {Y : gY} {M : gM} {d : Nat} {Q : Option Value → gS → Prop} {pc : Nat} {L : List (Option Value)} {σ : gS} {z : Int} (hd : decode M.2.1 pc = .ok (.ireturn, 1)) (hrt : M.2.2.2 = some .boolean) (hz : z = 0 ∨ z = 1) (hq : Q (some (.int (iZ z))) σ) : sE Y M d Q pc L [.int (iZ z)] σ :=
  q_zret (v := iZ z) (by rcases hz with rfl | rfl <;> decide +kernel) hd hrt ⟨rfl, rfl⟩ ⟨σ, rfl, hq⟩
theorem s_iretZ {Y : gY} {M : gM} {d : Nat} {Q : Option Value → gS → Prop} {pc : Nat} {L : List (Option Value)} {σ : gS} {z : Int} (hd : decode M.2.1 pc = .ok (.ireturn, 1)) (hrt : M.2.2.2 = some .int) (hq : Q (some (.int (iZ z))) σ) : sE Y M d Q pc L [.int (iZ z)] σ :=
  q_iret hd hrt ⟨rfl, rfl⟩ ⟨σ, rfl, hq⟩
