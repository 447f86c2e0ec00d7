/-! ===== the class's reader: its state, small methods ===== -/
def rdP (x a : Nat) : Prop := a = 333 ∨ a = x ∨ a = x + 1
/-- fault, place, token, length of the code, looks far, code -/
abbrev rB : Type := Int × Int × Nat × Nat × Int × (Nat → Int)
/-- what stays: the tape (n tokens and the end), the text at x -/
def rdK (σ : gS) (x n : Nat) (tk st nu : Nat → Int) : Prop := kd x = 4 ∧ σ.1 328 5 = (n : Int) + 1 ∧ n ≤ 300 ∧ tk n = 39 ∧ ∀ i, i ≤ n → σ.2.1 330 i = tk i ∧ σ.2.1 331 i = st i ∧ σ.2.1 332 i = nu i ∧ (0 ≤ nu i ∧ nu i ≤ 10000) ∧ (0 ≤ st i ∧ st i ≤ 300) ∧ 0 ≤ tk i ∧ tk i ≤ 40
/-- the reader under way -/
def rdR (σ : gS) (x : Nat) (tk : Nat → Int) (so : Int) (σ1 : gS) (B : rB) : Prop := chg (rdP x) σ σ1 ∧ σ1.2.2.2.2 333 2 = some 328 ∧ σ1.2.2.2.2 333 3 = some x ∧ σ1.1 333 0 = B.1 ∧ σ1.1 333 1 = B.2.1 ∧ σ1.1 333 4 = so ∧ σ1.1 333 5 = (B.2.2.1 : Int) ∧ σ1.1 333 6 = tk B.2.2.1 ∧ σ1.1 x 1 = (B.2.2.2.1 : Int) ∧ σ1.1 x 10 = B.2.2.2.2.1 ∧ σ1.2.1 (x + 1) = B.2.2.2.2.2 ∧ ∀ j, j ≠ 1 → j ≠ 10 → σ1.1 x j = σ.1 x j
section
variable {σ σ1 : gS} {x n : Nat} {tk st nu : Nat → Int} {so : Int} {B : rB}
theorem rdP_o (K : rdK σ x n tk st nu) {a : Nat} (h : 328 ≤ a ∧ a < 333) : ¬ rdP x a := by
  have := (kd_tx K.1).2.2
  unfold rdP
  omega
theorem rd_cnt (K : rdK σ x n tk st nu) (h : rdR σ x tk so σ1 B) : σ1.1 328 5 = (n : Int) + 1 := by rw [(h.1.1 328 (rdP_o K (by omega))).1]; exact K.2.1
theorem rd_tk (K : rdK σ x n tk st nu) (h : rdR σ x tk so σ1 B) {i : Nat} (hi : i ≤ n) : σ1.2.1 330 i = tk i := by rw [(h.1.1 330 (rdP_o K (by omega))).2.1]; exact (K.2.2.2.2 i hi).1
theorem rd_st (K : rdK σ x n tk st nu) (h : rdR σ x tk so σ1 B) {i : Nat} (hi : i ≤ n) : σ1.2.1 331 i = st i := by rw [(h.1.1 331 (rdP_o K (by omega))).2.1]; exact (K.2.2.2.2 i hi).2.1
theorem rd_nu (K : rdK σ x n tk st nu) (h : rdR σ x tk so σ1 B) {i : Nat} (hi : i ≤ n) : σ1.2.1 332 i = nu i := by rw [(h.1.1 332 (rdP_o K (by omega))).2.1]; exact (K.2.2.2.2 i hi).2.2.1
theorem kt_r (K : rdK σ x n tk st nu) {i : Nat} (hi : i ≤ n) : inR (tk i) := by have := (K.2.2.2.2 i hi).2.2.2.2.2; unfold inR; omega
theorem kn_r (K : rdK σ x n tk st nu) {i : Nat} (hi : i ≤ n) : inR (nu i) := by have := (K.2.2.2.2 i hi).2.2.2.1; unfold inR; omega
theorem x333 (K : rdK σ x n tk st nu) : x ≠ 333 ∧ x + 1 ≠ 333 := by have := (kd_tx K.1).2.2; omega
/-- a number of the reader's own -/
theorem rd_I (K : rdK σ x n tk st nu) {f pl far : Int} {k l : Nat} {C : Nat → Int} (h : rdR σ x tk so σ1 (f, pl, k, l, far, C)) (f' pl' : Int) (k' : Nat) {σ' : gS} (h2 : σ'.2 = σ1.2) (h1 : ∀ a, a ≠ 333 → σ'.1 a = σ1.1 a) (e0 : σ'.1 333 0 = f') (e1 : σ'.1 333 1 = pl') (e4 : σ'.1 333 4 = so) (e5 : σ'.1 333 5 = (k' : Int)) (e6 : σ'.1 333 6 = tk k') : rdR σ x tk so σ' (f', pl', k', l, far, C) := by
  have c : chg (rdP x) σ1 σ' := ⟨fun a q => ⟨h1 a (fun e => q (Or.inl e)), by rw [h2], by rw [h2], by rw [h2]⟩, by rw [h2]⟩
  have ex := h1 x (x333 K).1
  exact ⟨chg_tr h.1 c, by rw [h2]; exact h.2.1, by rw [h2]; exact h.2.2.1, e0, e1, e4, e5, e6, by rw [ex]; exact h.2.2.2.2.2.2.2.2.1, by rw [ex]; exact h.2.2.2.2.2.2.2.2.2.1, by rw [h2]; exact h.2.2.2.2.2.2.2.2.2.2.1, fun j a b => by rw [ex]; exact h.2.2.2.2.2.2.2.2.2.2.2 j a b⟩
/-- a number or the code of the text -/
theorem rd_X (K : rdK σ x n tk st nu) {f pl far : Int} {k l : Nat} {C : Nat → Int} (h : rdR σ x tk so σ1 (f, pl, k, l, far, C)) (l' : Nat) (far' : Int) (C' : Nat → Int) {σ' : gS} (h1 : ∀ a, a ≠ x → σ'.1 a = σ1.1 a) (h2 : ∀ a, a ≠ x + 1 → σ'.2.1 a = σ1.2.1 a) (h3 : σ'.2.2 = σ1.2.2) (e1 : σ'.1 x 1 = (l' : Int)) (e2 : σ'.1 x 10 = far') (e3 : σ'.2.1 (x + 1) = C') (e4 : ∀ j, j ≠ 1 → j ≠ 10 → σ'.1 x j = σ1.1 x j) : rdR σ x tk so σ' (f, pl, k, l', far', C') := by
  have c : chg (rdP x) σ1 σ' := ⟨fun a q => ⟨h1 a (fun e => q (Or.inr (Or.inl e))), h2 a (fun e => q (Or.inr (Or.inr e))), by rw [h3], by rw [h3]⟩, by rw [h3]⟩
  have ex := h1 333 (x333 K).1.symm
  exact ⟨chg_tr h.1 c, by rw [h3]; exact h.2.1, by rw [h3]; exact h.2.2.1, by rw [ex]; exact h.2.2.2.1, by rw [ex]; exact h.2.2.2.2.1, by rw [ex]; exact h.2.2.2.2.2.1, by rw [ex]; exact h.2.2.2.2.2.2.1, by rw [ex]; exact h.2.2.2.2.2.2.2.1, e1, e2, e3, fun j a b => (e4 j a b).trans (h.2.2.2.2.2.2.2.2.2.2.2 j a b)⟩
end
def flB (c : Int) (st : Nat → Int) (B : rB) : rB := (if B.1 = 0 then c else B.1, if B.1 = 0 then st B.2.2.1 else B.2.1, B.2.2)
def emB (op v : Int) (B : rB) : rB := (B.1, B.2.1, B.2.2.1, if B.2.2.2.1 < 300 then B.2.2.2.1 + 1 else B.2.2.2.1, B.2.2.2.2.1, if B.2.2.2.1 < 300 then va_up B.2.2.2.2.2 B.2.2.2.1 (op + 64 * v) else B.2.2.2.2.2)
def laB (p : Int) (B : rB) : rB := (B.1, B.2.1, B.2.2.1, B.2.2.2.1, B.2.2.2.2.1, if 0 ≤ p ∧ p < (B.2.2.2.1 : Int) then va_up B.2.2.2.2.2 p.toNat (B.2.2.2.2.2 p.toNat % 64 + 64 * (B.2.2.2.1 : Int)) else B.2.2.2.2.2)
def exB (t : Int) (tk st : Nat → Int) (B : rB) : rB := if B.1 = 0 ∧ tk B.2.2.1 = t then (B.1, B.2.1, B.2.2.1 + 1, B.2.2.2) else flB 1 st B
/-- within bounds -/
def okB (n : Nat) (B : rB) : Prop := inR B.1 ∧ B.2.2.1 ≤ n ∧ B.2.2.2.1 ≤ 300 ∧ ∀ i, i < 300 → 0 ≤ B.2.2.2.2.2 i ∧ B.2.2.2.2.2 i ≤ 1000000
