/-! ===== the key of a street at rest says its kindness ===== -/
theorem kKey_inj {K L : Nat → Int} : ∀ n, (∀ j, j < n → 0 ≤ K j ∧ K j ≤ 15) → (∀ j, j < n → 0 ≤ L j ∧ L j ≤ 15) → kKey K n = kKey L n → ∀ j, j < n → K j = L j := by
  intro n
  induction n with
  | zero => intro _ _ _ j hj; exact absurd hj (by omega)
  | succ n ih =>
    intro hK hL e j hj
    have a := hK n (by omega)
    have b := hL n (by omega)
    rw [kKey, kKey] at e
    by_cases q : j = n
    · rw [q]; omega
    · exact ih (fun i hi => hK i (by omega)) (fun i hi => hL i (by omega)) (by omega) j (by omega)
theorem kKey_eqv {K L : Nat → Int} : ∀ n, (∀ j, j < n → K j = L j) → kKey K n = kKey L n := by
  intro n
  induction n with
  | zero => intro _; rfl
  | succ n ih => intro h; rw [kKey, kKey, ih (fun j hj => h j (by omega)), h n (by omega)]
theorem kKey_ran {K : Nat → Int} : ∀ n, (∀ j, j < n → 0 ≤ K j ∧ K j ≤ 15) → 0 ≤ kKey K n ∧ kKey K n < 16 ^ n := by
  intro n
  induction n with
  | zero => intro _; exact ⟨Int.le_refl _, by show (0 : Int) < 16 ^ 0; decide⟩
  | succ n ih =>
    intro h
    have a := h n (by omega)
    have i := ih (fun j hj => h j (by omega))
    rw [kKey, Int.pow_succ]
    omega
/-- the key of a row -/
def keyA (A : Nat → Int) : Int := kKey (fun j => A (11 + j)) 8
theorem keyA_eq {A B : Nat → Int} (hA : ∀ j, j < 8 → 0 ≤ A (11 + j) ∧ A (11 + j) ≤ 15) (hB : ∀ j, j < 8 → 0 ≤ B (11 + j) ∧ B (11 + j) ≤ 15) : keyA A = keyA B ↔ kE A B = 1 := by
  unfold kE
  constructor
  · intro e
    rw [if_pos (kKey_inj 8 hA hB e)]
  · intro e
    by_cases q : ∀ j, j < 8 → A (11 + j) = B (11 + j)
    · exact kKey_eqv 8 q
    · rw [if_neg q] at e
      exact absurd e (by decide)
theorem keyA_ran {A : Nat → Int} (hA : ∀ j, j < 8 → 0 ≤ A (11 + j) ∧ A (11 + j) ≤ 15) : 0 ≤ keyA A ∧ keyA A < 4294967296 := by
  have q := kKey_ran (K := fun j => A (11 + j)) 8 hA
  exact ⟨q.1, Int.lt_of_lt_of_le q.2 (by decide)⟩
