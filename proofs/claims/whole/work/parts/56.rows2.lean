/-! ===== rows that hold together: steps kept, kindness bounded ===== -/
theorem mKeepT_at (B : Nat → Int) {q : Nat} (hq : B 3 = (q : Int)) (h9 : q < 30) (i : Nat) : mKeepT B i = if i = 3 then (q : Int) + 1 else if i = 53 + 50 * q then B 0 else if 54 + 50 * q ≤ i ∧ i < 73 + 50 * q then B (5 + (i - (54 + 50 * q))) else if 73 + 50 * q ≤ i ∧ i < 103 + 50 * q then B (1553 + (i - (73 + 50 * q))) else B i := by
  have e3 : (B 3).toNat = q := by omega
  by_cases c0 : i = 3
  · subst c0; rw [if_pos rfl, mKeepT_3 B (by omega), hq]
  · rw [if_neg c0]
    unfold mKeepT
    rw [e3, va_up_ne _ _ c0]
    by_cases c1 : 73 + 50 * q ≤ i ∧ i < 103 + 50 * q
    · rw [if_neg (by omega), if_neg (by omega), if_pos c1]
      unfold mCp
      rw [if_pos (by omega)]
      have e : i - (53 + 50 * q + 20) = i - (73 + 50 * q) := by omega
      rw [e, if_neg (by omega), va_up_ne _ _ (by omega)]
    · rw [mCp_out _ _ _ _ (by omega)]
      by_cases c2 : 54 + 50 * q ≤ i ∧ i < 73 + 50 * q
      · rw [if_neg (by omega), if_pos c2]
        unfold mCp
        rw [if_pos (by omega), va_up_ne _ _ (by omega)]
        exact congrArg B (by omega)
      · rw [mCp_out _ _ _ _ (by omega)]
        by_cases c3 : i = 53 + 50 * q
        · subst c3; rw [if_pos rfl, va_up_self]
        · rw [if_neg c3, if_neg c2, if_neg c1, va_up_ne _ _ c3]
theorem ud_keepT (B : Nat → Int) {q : Nat} (hq : B 3 = (q : Int)) (h9 : q < 30) (h0 : 0 ≤ B 0) (h5 : B 0 ≤ 5) {i : Nat} (hi : i < q) {j : Nat} (hj : idx j) : ud (mKeepT B) i j = ud B i j := by
  have e : ∀ k, k ≠ 3 → k < 53 + 50 * q → mKeepT B k = B k := fun k a b => by
    rw [mKeepT_at B hq h9, if_neg a, if_neg (by omega), if_neg (by omega), if_neg (by omega)]
  have e0 := e 0 (by omega) (by omega)
  have ep : pz (mKeepT B) i = pz B i := by unfold pz; rw [e _ (by omega) (by omega)]
  rw [ud_at _ i j (by omega) (by omega), ud_at _ i j (by omega) h5, ep, e0]
  unfold idx at hj
  by_cases c1 : 1553 ≤ j ∧ j < 1583
  · rw [if_pos c1, if_pos c1]; exact e _ (by omega) (by omega)
  · rw [if_neg c1, if_neg c1]
    by_cases c2 : 19 + pz B i ≤ j ∧ (j : Int) < 19 + B 0
    · rw [if_pos c2, if_pos c2]; exact e _ (by omega) (by omega)
    · rw [if_neg c2, if_neg c2]
      by_cases c3 : 5 ≤ j ∧ j < 24
      · rw [if_pos c3, if_pos c3]; exact e _ (by omega) (by omega)
      · rw [if_neg c3, if_neg c3, if_neg (by omega), if_neg (by omega)]; exact e _ (by omega) (by omega)
theorem ud_keepN (B : Nat → Int) {q : Nat} (hq : B 3 = (q : Int)) (h9 : q < 30) (h0 : 0 ≤ B 0) (h5 : B 0 ≤ 5) {j : Nat} (hj : idx j) : ud (mKeepT B) q j = B j := by
  have e0 : mKeepT B 0 = B 0 := by rw [mKeepT_at B hq h9, if_neg (by omega), if_neg (by omega), if_neg (by omega), if_neg (by omega)]
  have ep : pz (mKeepT B) q = (B 0).toNat := by unfold pz; rw [mKeepT_at B hq h9, if_neg (by omega), if_pos rfl]
  rw [ud_at _ q j h9 (by omega), ep, e0]
  unfold idx at hj
  by_cases c1 : 1553 ≤ j ∧ j < 1583
  · rw [if_pos c1, mKeepT_at B hq h9, if_neg (by omega), if_neg (by omega), if_neg (by omega), if_pos (by omega)]; exact congrArg B (by omega)
  · rw [if_neg c1, if_neg (by omega)]
    by_cases c3 : 5 ≤ j ∧ j < 24
    · rw [if_pos c3, mKeepT_at B hq h9, if_neg (by omega), if_neg (by omega), if_pos (by omega)]; exact congrArg B (by omega)
    · rw [if_neg c3, if_neg (by omega), show j = 0 by omega]; exact e0
/-- the eldest step gone -/
def mEld (A : Nat → Int) : Nat → Int := va_up (mCp A 53 103 1450) 3 (mCp A 53 103 1450 3 - 1)
theorem mEld_at (A : Nat → Int) (i : Nat) : mEld A i = if i = 3 then A 3 - 1 else if 53 ≤ i ∧ i < 1503 then A (i + 50) else A i := by
  unfold mEld
  by_cases c : i = 3
  · subst c; rw [if_pos rfl, va_up_self, mCp_out _ _ _ _ (by omega)]
  · rw [if_neg c, va_up_ne _ _ c]
    unfold mCp
    by_cases c2 : 53 ≤ i ∧ i < 1503
    · rw [if_pos (by omega), if_pos c2]; exact congrArg A (by omega)
    · rw [if_neg (by omega), if_neg c2]
theorem ud_eld (A : Nat → Int) (h5 : A 0 ≤ 5) {i : Nat} (hi : i < 29) {j : Nat} (hj : idx j) : ud (mEld A) i j = ud A (i + 1) j := by
  have ep : pz (mEld A) i = pz A (i + 1) := by unfold pz; rw [mEld_at, if_neg (by omega), if_pos (by omega), show 53 + 50 * i + 50 = 53 + 50 * (i + 1) by omega]
  have e0 : mEld A 0 = A 0 := by rw [mEld_at, if_neg (by omega), if_neg (by omega)]
  rw [ud_at _ i j (by omega) (by omega), ud_at _ (i + 1) j (by omega) h5, ep, e0]
  unfold idx at hj
  by_cases c1 : 1553 ≤ j ∧ j < 1583
  · rw [if_pos c1, if_pos c1, mEld_at, if_neg (by omega), if_pos (by omega)]; exact congrArg A (by omega)
  · rw [if_neg c1, if_neg c1]
    by_cases c2 : 19 + pz A (i + 1) ≤ j ∧ (j : Int) < 19 + A 0
    · rw [if_pos c2, if_pos c2, mEld_at, if_neg (by omega), if_neg (by omega)]
    · rw [if_neg c2, if_neg c2]
      by_cases c3 : 5 ≤ j ∧ j < 24
      · rw [if_pos c3, if_pos c3, mEld_at, if_neg (by omega), if_pos (by omega)]; exact congrArg A (by omega)
      · rw [if_neg c3, if_neg c3, if_neg (by omega), if_neg (by omega), mEld_at, if_neg (by omega), if_neg (by omega)]
theorem mKeep_eq (A : Nat → Int) : mKeep A = if A 3 = 30 then mKeepT (mEld A) else mKeepT A := rfl
/-- kindness, 99 in each house at least -/
def mM (A : Nat → Int) : Int := max 99 (A 11) + max 99 (A 12) + max 99 (A 13) + max 99 (A 14) + max 99 (A 15) + max 99 (A 16) + max 99 (A 17) + max 99 (A 18)
theorem mM_ge (A : Nat → Int) : mSum A 8 ≤ mM A := by
  rw [mSum8]; unfold mM; omega
theorem mM_cong {A B : Nat → Int} (h : ∀ j, j < 8 → B (11 + j) = A (11 + j)) : mM B = mM A := by
  unfold mM
  rw [show B 11 = A 11 from h 0 (by omega), show B 12 = A 12 from h 1 (by omega), show B 13 = A 13 from h 2 (by omega), show B 14 = A 14 from h 3 (by omega), show B 15 = A 15 from h 4 (by omega), show B 16 = A 16 from h 5 (by omega), show B 17 = A 17 from h 6 (by omega), show B 18 = A 18 from h 7 (by omega)]
theorem mM_kind (A : Nat → Int) {h : Nat} (hh : h < 8) {v : Int} (hv : v ≤ 99) : mM (va_up A (11 + h) v) ≤ mM A := by
  have e : ∀ j, j ≠ 11 + h → va_up A (11 + h) v j = A j := fun j q => va_up_ne _ _ q
  have s : va_up A (11 + h) v (11 + h) = v := va_up_self _ _ _
  unfold mM
  match h, hh with
  | 0, _ => rw [show va_up A (11 + 0) v 11 = v from s, e 12 (by omega), e 13 (by omega), e 14 (by omega), e 15 (by omega), e 16 (by omega), e 17 (by omega), e 18 (by omega)]; omega
  | 1, _ => rw [e 11 (by omega), show va_up A (11 + 1) v 12 = v from s, e 13 (by omega), e 14 (by omega), e 15 (by omega), e 16 (by omega), e 17 (by omega), e 18 (by omega)]; omega
  | 2, _ => rw [e 11 (by omega), e 12 (by omega), show va_up A (11 + 2) v 13 = v from s, e 14 (by omega), e 15 (by omega), e 16 (by omega), e 17 (by omega), e 18 (by omega)]; omega
  | 3, _ => rw [e 11 (by omega), e 12 (by omega), e 13 (by omega), show va_up A (11 + 3) v 14 = v from s, e 15 (by omega), e 16 (by omega), e 17 (by omega), e 18 (by omega)]; omega
  | 4, _ => rw [e 11 (by omega), e 12 (by omega), e 13 (by omega), e 14 (by omega), show va_up A (11 + 4) v 15 = v from s, e 16 (by omega), e 17 (by omega), e 18 (by omega)]; omega
  | 5, _ => rw [e 11 (by omega), e 12 (by omega), e 13 (by omega), e 14 (by omega), e 15 (by omega), show va_up A (11 + 5) v 16 = v from s, e 17 (by omega), e 18 (by omega)]; omega
  | 6, _ => rw [e 11 (by omega), e 12 (by omega), e 13 (by omega), e 14 (by omega), e 15 (by omega), e 16 (by omega), show va_up A (11 + 6) v 17 = v from s, e 18 (by omega)]; omega
  | 7, _ => rw [e 11 (by omega), e 12 (by omega), e 13 (by omega), e 14 (by omega), e 15 (by omega), e 16 (by omega), e 17 (by omega), show va_up A (11 + 7) v 18 = v from s]; omega
theorem mM_thank {c nt : Int} {A : Nat → Int} (g : gd c nt A) (F : Nat → Int) {h : Nat} (hh : h < 8) : mM (mThank A F h).1 ≤ mM A + 2 := by
  have e : ∀ j, j < 8 → (mThank A F h).1 (11 + j) = A (11 + j) + (if j = h then -2 else 0) + (if j + 1 = h then 1 else 0) + (if j = h + 1 then 1 else 0) := fun j hj => mThank_k A F hh g.2.2.2.2.1.1 g.2.2.2.2.1.2 hj
  have e0 := e 0 (by omega)
  have e1 := e 1 (by omega)
  have e2 := e 2 (by omega)
  have e3 := e 3 (by omega)
  have e4 := e 4 (by omega)
  have e5 := e 5 (by omega)
  have e6 := e 6 (by omega)
  have e7 := e 7 (by omega)
  simp only [Nat.add_zero, Nat.reduceAdd] at e0 e1 e2 e3 e4 e5 e6 e7
  unfold mM
  rw [e0, e1, e2, e3, e4, e5, e6, e7]
  match h, hh with
  | 0, _ => simp; omega
  | 1, _ => simp; omega
  | 2, _ => simp; omega
  | 3, _ => simp; omega
  | 4, _ => simp; omega
  | 5, _ => simp; omega
  | 6, _ => simp; omega
  | 7, _ => simp; omega
theorem mM_rest {A : Nat → Int} (h : ∀ j, j < 8 → A (11 + j) ≤ 99) : mM A = 792 := by
  have h0 := h 0 (by omega)
  have h1 := h 1 (by omega)
  have h2 := h 2 (by omega)
  have h3 := h 3 (by omega)
  have h4 := h 4 (by omega)
  have h5 := h 5 (by omega)
  have h6 := h 6 (by omega)
  have h7 := h 7 (by omega)
  simp only [Nat.add_zero, Nat.reduceAdd] at h0 h1 h2 h3 h4 h5 h6 h7
  unfold mM
  omega
theorem mM_792 (A : Nat → Int) : 792 ≤ mM A := by unfold mM; omega
/-- a row that holds together: kindness bounded by c, texts nt -/
def okR (c nt : Int) (A : Nat → Int) : Prop :=
  gd c nt A ∧ mM A ≤ c ∧ A 1 = nt ∧ (0 ≤ A 3 ∧ A 3 ≤ 30) ∧ (0 ≤ A 4 ∧ A 4 ≤ 8) ∧ (∀ h, h < 8 → 0 ≤ A (29 + h) ∧ A (29 + h) ≤ 31) ∧ (∀ i : Nat, (i : Int) < A 4 → (0 ≤ A (37 + 2 * i) ∧ A (37 + 2 * i) ≤ 7) ∧ 0 ≤ A (37 + 2 * i + 1) ∧ A (37 + 2 * i + 1) ≤ 9) ∧ (∀ p : Nat, (p : Int) < A 0 → 0 ≤ A (24 + p) ∧ A (24 + p) ≤ 7) ∧ (∀ i : Nat, (i : Int) < A 3 → (0 ≤ A (53 + 50 * i) ∧ A (53 + 50 * i) ≤ A 0) ∧ gd c nt (ud A i) ∧ mM (ud A i) ≤ c ∧ ∀ k, k < 30 → inR (ud A i (1553 + k))) ∧ ∀ i, i < 30 → inR (A (1553 + i))
