/-! ===== the class's reader between clauses ===== -/
section
variable {σ σ1 σ2 : gS} {x n : Nat} {tk st nu : Nat → Int} {so : Int} {B : rB}
/-- the state itself as the base -/
theorem rd_self (K : rdK σ x n tk st nu) (h : rdR σ x tk so σ1 B) : rdK σ1 x n tk st nu ∧ rdR σ1 x tk so σ1 B :=
  ⟨⟨K.1, rd_cnt K h, K.2.2.1, K.2.2.2.1, fun i hi => ⟨rd_tk K h hi, rd_st K h hi, rd_nu K h hi, (K.2.2.2.2 i hi).2.2.2⟩⟩, chg_rf _ _, h.2.1, h.2.2.1, h.2.2.2.1, h.2.2.2.2.1, h.2.2.2.2.2.1, h.2.2.2.2.2.2.1, h.2.2.2.2.2.2.2.1, h.2.2.2.2.2.2.2.2.1, h.2.2.2.2.2.2.2.2.2.1, h.2.2.2.2.2.2.2.2.2.2.1, fun _ _ _ => rfl⟩
/-- another state with the same tape, reader, length, far, code -/
theorem rd_same (K : rdK σ1 x n tk st nu) (h : rdR σ1 x tk so σ1 B) (a1 : σ2.1 328 = σ1.1 328) (a2 : σ2.2.1 330 = σ1.2.1 330) (a3 : σ2.2.1 331 = σ1.2.1 331) (a4 : σ2.2.1 332 = σ1.2.1 332) (a5 : σ2.1 333 = σ1.1 333) (a6 : σ2.2.2.2.2 333 = σ1.2.2.2.2 333) (a7 : σ2.1 x 1 = σ1.1 x 1) (a8 : σ2.1 x 10 = σ1.1 x 10) (a9 : σ2.2.1 (x + 1) = σ1.2.1 (x + 1)) : rdK σ2 x n tk st nu ∧ rdR σ2 x tk so σ2 B := by
  refine ⟨⟨K.1, by rw [a1]; exact K.2.1, K.2.2.1, K.2.2.2.1, fun i hi => by rw [a2, a3, a4]; exact K.2.2.2.2 i hi⟩, chg_rf _ _, by rw [a6]; exact h.2.1, by rw [a6]; exact h.2.2.1, by rw [a5]; exact h.2.2.2.1, by rw [a5]; exact h.2.2.2.2.1, by rw [a5]; exact h.2.2.2.2.2.1, by rw [a5]; exact h.2.2.2.2.2.2.1, by rw [a5]; exact h.2.2.2.2.2.2.2.1, a7.trans h.2.2.2.2.2.2.2.2.1, a8.trans h.2.2.2.2.2.2.2.2.2.1, a9.trans h.2.2.2.2.2.2.2.2.2.2.1, fun _ _ _ => rfl⟩
theorem xne (K : rdK σ x n tk st nu) : x ≠ 328 ∧ x ≠ 333 ∧ x ≠ 330 ∧ x ≠ 331 ∧ x ≠ 332 ∧ (x + 5 < 328 ∨ 333 < x) := by have := (kd_tx K.1).2.2; omega
/-- another number of the text -/
theorem rd_txt (K : rdK σ1 x n tk st nu) (h : rdR σ1 x tk so σ1 B) {j : Nat} (v : Int) (h1 : j ≠ 1) (h10 : j ≠ 10) : rdK (sI σ1 x j v) x n tk st nu ∧ rdR (sI σ1 x j v) x tk so (sI σ1 x j v) B :=
  rd_same K h (up2_ne σ1.1 j v (xne K).1.symm) rfl rfl rfl (up2_ne σ1.1 j v (xne K).2.1.symm) rfl (up2_k (a := x) (k := j) (j := 1) σ1.1 v h1.symm) (up2_k (a := x) (k := j) (j := 10) σ1.1 v h10.symm) rfl
/-- another row of the text -/
theorem rd_row (K : rdK σ1 x n tk st nu) (h : rdR σ1 x tk so σ1 B) {q i : Nat} (v : Int) (hq : 2 ≤ q ∧ q ≤ 4) : rdK (sR σ1 (x + q) i v) x n tk st nu ∧ rdR (sR σ1 (x + q) i v) x tk so (sR σ1 (x + q) i v) B := by
  have z := (xne K).2.2.2.2.2
  exact rd_same K h rfl (up2_ne σ1.2.1 i v (by omega)) (up2_ne σ1.2.1 i v (by omega)) (up2_ne σ1.2.1 i v (by omega)) rfl rfl rfl rfl (up2_ne σ1.2.1 i v (by omega))
/-- a clause is added -/
theorem rd_ac (K : rdK σ1 x n tk st nu) (h : rdR σ1 x tk so σ1 B) (N : Nat) (a b c : Int) : rdK (acS σ1 x N a b c) x n tk st nu ∧ rdR (acS σ1 x N a b c) x tk so (acS σ1 x N a b c) B := by
  obtain ⟨K1, h1⟩ := rd_row K h (q := 2) (i := N) a (by omega)
  obtain ⟨K2, h2⟩ := rd_row K1 h1 (q := 3) (i := N) b (by omega)
  obtain ⟨K3, h3⟩ := rd_row K2 h2 (q := 4) (i := N) c (by omega)
  exact rd_txt K3 h3 (j := 9) ((N : Int) + 1) (by decide) (by decide)
/-- which law it reads -/
theorem rd_so (K : rdK σ1 x n tk st nu) (h : rdR σ1 x tk so σ1 B) (v : Int) : rdK (sI σ1 333 4 v) x n tk st nu ∧ rdR (sI σ1 333 4 v) x tk v (sI σ1 333 4 v) B := by
  have e := xne K
  have ex : (sI σ1 333 4 v).1 x = σ1.1 x := up2_ne σ1.1 4 v e.2.1
  have e8 : (sI σ1 333 4 v).1 328 = σ1.1 328 := up2_ne (a := 333) (x := 328) σ1.1 4 v (by decide)
  have f : ∀ j, j ≠ 4 → (sI σ1 333 4 v).1 333 j = σ1.1 333 j := fun j hj => up2_k (a := 333) (k := 4) (j := j) σ1.1 v hj
  exact ⟨⟨K.1, by rw [e8]; exact K.2.1, K.2.2⟩, chg_rf _ _, h.2.1, h.2.2.1, (f 0 (by decide)).trans h.2.2.2.1, (f 1 (by decide)).trans h.2.2.2.2.1, up2_at σ1.1 333 4 v, (f 5 (by decide)).trans h.2.2.2.2.2.2.1, (f 6 (by decide)).trans h.2.2.2.2.2.2.2.1, by rw [ex]; exact h.2.2.2.2.2.2.2.2.1, by rw [ex]; exact h.2.2.2.2.2.2.2.2.2.1, h.2.2.2.2.2.2.2.2.2.2.1, fun _ _ _ => rfl⟩
end
