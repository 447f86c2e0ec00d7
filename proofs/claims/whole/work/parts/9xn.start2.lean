/-! ===== blocks of the start ===== -/
theorem kd_s5 {s : Nat} (h : kd s = 2) : s + 4 < 398 ∧ kd (s + 1) = 100 + 8 ∧ kd (s + 2) = 100 + 5 ∧ kd (s + 3) = 100 + 30 ∧ kd (s + 4) = 100 + 8 ∧ (∀ j, 1 ≤ j → j ≤ 4 → s + j ≠ 8 ∧ s + j ≠ 168 ∧ s + j ≠ 385 ∧ s + j ≠ 386) := by
  have q : ∀ x, x < 398 → kd x = 2 → kd (x + 1) = 100 + 8 ∧ kd (x + 2) = 100 + 5 ∧ kd (x + 3) = 100 + 30 ∧ kd (x + 4) = 100 + 8 := by decide +kernel
  have q2 : ∀ x, x < 398 → kd x = 2 → (x + 1 ≠ 8 ∧ x + 2 ≠ 8) ∧ (x + 3 ≠ 8 ∧ x + 4 ≠ 8) ∧ (x + 1 ≠ 168 ∧ x + 2 ≠ 168) ∧ (x + 3 ≠ 168 ∧ x + 4 ≠ 168) ∧ x + 4 < 385 := by decide +kernel
  have k := q s (kd_lt h (by decide)) h
  have k2 := q2 s (kd_lt h (by decide)) h
  exact ⟨by omega, k.1, k.2.1, k.2.2.1, k.2.2.2, fun j a b => by omega⟩
theorem F0_2 {s : Nat} (h : kd s = 2) : F0c s = .inr (2, [.ref (s + 1), .ref (s + 2), .int (iZ 0), .int (iZ 0), .int (iZ 0), .int (iZ 0), .int (iZ 0), .int (iZ 347), .ref (s + 3), .int (iZ 0), .ref (s + 4), .int (iZ 0)]) := by
  rw [F0_o h (by decide)]
  have e : I0 s = fun j => if j = 7 then 347 else 0 := by funext j; unfold I0; rw [if_pos h]
  rw [e]
  rfl
theorem F0_st {s : Nat} (h : kd s = 2) : F0c (s + 1) = .inl (0, 8, .inl (fun _ => 0)) ∧ F0c (s + 2) = .inl (0, 5, .inl (fun _ => 0)) ∧ F0c (s + 3) = .inl (0, 30, .inl (fun _ => 0)) ∧ F0c (s + 4) = .inl (0, 8, .inl (fun _ => 0)) := by
  have k := kd_s5 h
  exact ⟨F0_r k.2.1 (by decide) (k.2.2.2.2.2 1 (by decide) (by decide)), F0_r k.2.2.1 (by decide) (k.2.2.2.2.2 2 (by decide) (by decide)), F0_r k.2.2.2.1 (by decide) (k.2.2.2.2.2 3 (by decide) (by decide)), F0_r k.2.2.2.2.1 (by decide) (k.2.2.2.2.2 4 (by decide) (by decide))⟩
theorem F0_4 {s : Nat} (h : kd s = 4) : F0c s = .inr (4, [.ref (s + 1), .int (iZ 0), .int (iZ (-1)), .int (iZ (-1)), .int (iZ (-1)), .int (iZ (-1)), .ref (s + 2), .ref (s + 3), .ref (s + 4), .int (iZ 0), .int (iZ 0), .ref (s + 5)]) := by
  rw [F0_o h (by decide)]
  have e : I0 s = fun j => if 2 ≤ j ∧ j ≤ 5 then -1 else 0 := by funext j; unfold I0; rw [if_neg (by omega), if_pos h]
  rw [e]
  rfl
theorem F0_tx {s : Nat} (h : kd s = 4) : F0c (s + 1) = .inl (0, 300, .inl (fun _ => 0)) ∧ F0c (s + 2) = .inl (0, 24, .inl (fun _ => 0)) ∧ F0c (s + 3) = .inl (0, 24, .inl (fun _ => 0)) ∧ F0c (s + 4) = .inl (0, 24, .inl (fun _ => 0)) ∧ F0c (s + 5) = .inl (0, 64, .inl (fun _ => 0)) := by
  have k := kd_tx h
  have k2 := kd_tx3 h
  exact ⟨F0_r k.1 (by decide) (by omega), F0_r k2.1 (by decide) (by omega), F0_r k2.2.1 (by decide) (by omega), F0_r k2.2.2 (by decide) (by omega), F0_r k.2.1 (by decide) (by omega)⟩
/-- a place more, its cell another than at the end -/
theorem cls_newx {g : Nat → va_E} {n z N : Nat} {x : va_E} (K : cls (g, n, z)) (h : g_ce (n + 1) x) : cls (va_up g n x, n + 1, z + N) := by
  intro i hi
  have hi : i < n + 1 := hi
  show g_ce (n + 1) (va_up g n x i)
  by_cases e : i = n
  · rw [e, va_up_self]; exact h
  · rw [va_up_ne _ _ e]; exact g_ce_m (K i (by show i < n; omega)) (Nat.le_succ n)
/-- a block more -/
theorem cls_blk {g : Nat → va_E} {n m z w : Nat} (K : cls (g, n, z)) (h : ∀ i, n ≤ i → i < m → g_ce m (g i)) (hm : n ≤ m) : cls (g, m, w) := by
  intro i hi
  have hi : i < m := hi
  show g_ce m (g i)
  by_cases e : i < n
  · exact g_ce_m (K i e) hm
  · exact h i (by omega) hi
theorem ce_ob {n ci : Nat} {fs : List Value} (h : ∀ v ∈ fs, g_lt n v) : g_ce n (.inr (ci, fs)) := h
theorem ce_r {n N : Nat} {f : Nat → Int32} {t : Nat} : g_ce n (.inl (t, N, .inl f)) := trivial
theorem ce_2 {g : Nat → va_E} {s : Nat} (h : kd s = 2) (hg : ∀ a, s ≤ a → a < s + 5 → g a = F0c a) : ∀ i, s ≤ i → i < s + 5 → g_ce (s + 5) (g i) := by
  intro i a b
  rw [hg i a b]
  have r := F0_st h
  rcases (by omega : i = s ∨ i = s + 1 ∨ i = s + 2 ∨ i = s + 3 ∨ i = s + 4) with e | e | e | e | e
  · rw [e, F0_2 h]
    intro v hv
    simp only [List.mem_cons, List.not_mem_nil, or_false] at hv
    rcases hv with rfl | rfl | rfl | rfl | rfl | rfl | rfl | rfl | rfl | rfl | rfl | rfl
    all_goals first | trivial | exact Or.inl (show (s + 1 : Nat) < s + 5 by omega) | exact Or.inl (show (s + 2 : Nat) < s + 5 by omega) | exact Or.inl (show (s + 3 : Nat) < s + 5 by omega) | exact Or.inl (show (s + 4 : Nat) < s + 5 by omega)
  · rw [e, r.1]; trivial
  · rw [e, r.2.1]; trivial
  · rw [e, r.2.2.1]; trivial
  · rw [e, r.2.2.2]; trivial
theorem ce_4 {g : Nat → va_E} {s : Nat} (h : kd s = 4) (hg : ∀ a, s ≤ a → a < s + 6 → g a = F0c a) : ∀ i, s ≤ i → i < s + 6 → g_ce (s + 6) (g i) := by
  intro i a b
  rw [hg i a b]
  have r := F0_tx h
  rcases (by omega : i = s ∨ i = s + 1 ∨ i = s + 2 ∨ i = s + 3 ∨ i = s + 4 ∨ i = s + 5) with e | e | e | e | e | e
  · rw [e, F0_4 h]
    intro v hv
    simp only [List.mem_cons, List.not_mem_nil, or_false] at hv
    rcases hv with rfl | rfl | rfl | rfl | rfl | rfl | rfl | rfl | rfl | rfl | rfl | rfl
    all_goals first | trivial | exact Or.inl (show (s + 1 : Nat) < s + 6 by omega) | exact Or.inl (show (s + 2 : Nat) < s + 6 by omega) | exact Or.inl (show (s + 3 : Nat) < s + 6 by omega) | exact Or.inl (show (s + 4 : Nat) < s + 6 by omega) | exact Or.inl (show (s + 5 : Nat) < s + 6 by omega)
  · rw [e, r.1]; trivial
  · rw [e, r.2.1]; trivial
  · rw [e, r.2.2.1]; trivial
  · rw [e, r.2.2.2.1]; trivial
  · rw [e, r.2.2.2.2]; trivial
abbrev d2 : List Value := [.null, .null, .int (iZ 0), .int (iZ 0), .int (iZ 0), .int (iZ 0), .int (iZ 0), .int (iZ 0), .null, .int (iZ 0), .null, .int (iZ 0)]
abbrev d4 : List Value := [.null, .int (iZ 0), .int (iZ 0), .int (iZ 0), .int (iZ 0), .int (iZ 0), .null, .null, .null, .int (iZ 0), .int (iZ 0), .null]
/-- the constructor of a street, a text, at its place -/
theorem k_st {d : Nat} (hd : 1 ≤ d) {g : Nat → va_E} {s z : Nat} (h : kd s = 2) (hg : ∀ a, s ≤ a → a < s + 5 → g a = F0c a) (K : cls (va_up g s (.inr (2, d2)), s + 1, z)) : gC mX2_init d (s + 1, z, s + 5, z + 51) [.ref s] (va_up g s (.inr (2, d2)), s + 1, z) (fun v h' => v = none ∧ h' = (g, s + 5, z + 51)) := by
  have r := F0_st h
  have k := kd_s5 h
  exact k_X2_init hd (by omega) ((hg s (by omega) (by omega)).trans (F0_2 h)) ((hg _ (by omega) (by omega)).trans r.1) ((hg _ (by omega) (by omega)).trans r.2.1) ((hg _ (by omega) (by omega)).trans r.2.2.1) ((hg _ (by omega) (by omega)).trans r.2.2.2) K
theorem k_tx {d : Nat} (hd : 1 ≤ d) {g : Nat → va_E} {s z : Nat} (h : kd s = 4) (hg : ∀ a, s ≤ a → a < s + 6 → g a = F0c a) (K : cls (va_up g s (.inr (4, d4)), s + 1, z)) : gC mX4_init d (s + 1, z, s + 6, z + 436) [.ref s] (va_up g s (.inr (4, d4)), s + 1, z) (fun v h' => v = none ∧ h' = (g, s + 6, z + 436)) := by
  have r := F0_tx h
  have k := kd_tx h
  exact k_X4_init hd (by omega) ((hg s (by omega) (by omega)).trans (F0_4 h)) ((hg _ (by omega) (by omega)).trans r.1) ((hg _ (by omega) (by omega)).trans r.2.1) ((hg _ (by omega) (by omega)).trans r.2.2.1) ((hg _ (by omega) (by omega)).trans r.2.2.2.1) ((hg _ (by omega) (by omega)).trans r.2.2.2.2) K
