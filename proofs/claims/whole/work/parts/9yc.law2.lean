/-! ===== class and model are alike at the start ===== -/
theorem R0_5 {a : Nat} (h : a = 385 ∨ a = 386) : R0 a = fun j => if j = 2 then -1 else if j = 6 then 347 else 0 := by
  funext j
  unfold R0
  rw [if_neg (by omega), if_pos h]
theorem R0_z {a : Nat} (h : ¬ (a = 8 ∨ a = 168) ∧ ¬ (a = 385 ∨ a = 386)) : R0 a = fun _ => 0 := by
  funext j
  unfold R0
  rw [if_neg h.1, if_neg h.2]
def A0 (j : Nat) : Int := if j = 2 then -1 else if j = 6 then 347 else 0
theorem A0_z {j : Nat} (h : j ≠ 2 ∧ j ≠ 6) : A0 j = 0 := by unfold A0; rw [if_neg h.1, if_neg h.2]
theorem R0_A {a : Nat} (h : a = 385 ∨ a = 386) : R0 a = A0 := R0_5 h
theorem inR_k0 : inR 0 := by unfold inR; omega
theorem inR_m1 : inR (-1) := by unfold inR; omega
theorem A0_ok : okR 1000 0 A0 := by
  have z : ∀ j, j ≠ 2 ∧ j ≠ 6 → A0 j = 0 := fun j h => A0_z h
  have e2 : A0 2 = -1 := rfl
  have e6 : A0 6 = 347 := rfl
  have e0 : A0 0 = 0 := rfl
  have e3 : A0 3 = 0 := rfl
  have e4 : A0 4 = 0 := rfl
  refine ⟨⟨?_, ?_, ?_, ?_, ?_, ?_, ?_, ?_, ?_, ?_⟩, ?_, rfl, ?_, ?_, ?_, ?_, ?_, ?_, ?_⟩
  · rw [e0]; exact ⟨by decide, by decide⟩
  · intro p hp; rw [z _ ⟨by omega, by omega⟩]; exact ⟨by decide, by decide⟩
  · intro h hh; rw [z _ ⟨by omega, by omega⟩]; decide
  · decide +kernel
  · rw [z 10 ⟨by decide, by decide⟩]; exact ⟨by decide, by decide⟩
  · rw [z 5 ⟨by decide, by decide⟩]; exact ⟨by decide, by decide⟩
  · rw [e6]; exact ⟨by decide, by decide⟩
  · rw [z 7 ⟨by decide, by decide⟩]; exact ⟨by decide, by decide⟩
  · rw [z 9 ⟨by decide, by decide⟩]; exact ⟨by decide, by decide⟩
  · rw [e2]; exact ⟨by decide, by decide⟩
  · decide +kernel
  · rw [e3]; exact ⟨by decide, by decide⟩
  · rw [e4]; exact ⟨by decide, by decide⟩
  · intro h hh; rw [z _ ⟨by omega, by omega⟩]; exact ⟨by decide, by decide⟩
  · intro i hi; rw [e4] at hi; omega
  · intro i hi; rw [e0] at hi; omega
  · intro i hi; rw [e3] at hi; omega
  · intro i hi; rw [z _ ⟨by omega, by omega⟩]; exact inR_k0
theorem I0_2 {a : Nat} (h : kd a = 2) (j : Nat) : I0 a j = if j = 7 then 347 else 0 := by unfold I0; rw [if_pos h]
theorem I0_4 {a : Nat} (h : kd a = 4) (j : Nat) : I0 a j = if 2 ≤ j ∧ j ≤ 5 then -1 else 0 := by unfold I0; rw [if_neg (by omega), if_pos h]
theorem tw_0 {p : Nat} (hp : p = 1 ∨ p = 161) : twR σ0 p A0 := by
  have z : ∀ j, j ≠ 2 ∧ j ≠ 6 → A0 j = 0 := fun j h => A0_z h
  have k1 : kd (p + 1) = 2 := by rcases hp with rfl | rfl <;> rfl
  have k5 : kd p = 5 := by rcases hp with rfl | rfl <;> rfl
  have i5 : ∀ j, I0 p j = if j = 8 then -1 else 0 := fun j => by
    unfold I0
    rw [if_neg (by omega), if_neg (by omega), if_neg (by omega), if_neg (by omega), if_pos k5]
  refine ⟨⟨?_, ?_, ?_, ?_, ?_⟩, ?_, ?_, ?_, fun i => p + 10 + 5 * i, ?_, ?_, ?_⟩
  · intro h hh
    show R0 (p + 1 + 1) h = _
    rw [R0_z (by omega), z _ ⟨by omega, by omega⟩]
  · intro q hq
    rw [z 0 ⟨by decide, by decide⟩] at hq
    omega
  · show I0 (p + 1) 2 = _ ∧ I0 (p + 1) 3 = _ ∧ I0 (p + 1) 4 = _ ∧ I0 (p + 1) 5 = _ ∧ I0 (p + 1) 6 = _ ∧ I0 (p + 1) 7 = _
    rw [I0_2 k1, I0_2 k1, I0_2 k1, I0_2 k1, I0_2 k1, I0_2 k1]
    exact ⟨rfl, rfl, rfl, rfl, rfl, rfl⟩
  · show 0 ≤ I0 (p + 1) 9 ∧ I0 (p + 1) 9 ≤ 30
    rw [I0_2 k1]
    exact ⟨by decide, by decide⟩
  · intro _
    refine ⟨?_, fun i hi => ?_⟩
    · show I0 (p + 1) 9 = _
      rw [I0_2 k1]
      rfl
    · rw [z 10 ⟨by decide, by decide⟩] at hi
      omega
  · show I0 p 2 = _ ∧ I0 p 6 = _ ∧ I0 p 7 = _ ∧ I0 p 8 = _
    rw [i5, i5, i5, i5]
    exact ⟨rfl, rfl, rfl, rfl⟩
  · intro h hh
    show R0 (p + 7) h = _
    unfold R0
    rw [if_pos (by omega), if_pos hh, z _ ⟨by omega, by omega⟩]
    rfl
  · intro i hi
    rw [z 4 ⟨by decide, by decide⟩] at hi
    omega
  · intro i hi
    refine ⟨?_, by show p + 10 ≤ p + 10 + 5 * i; omega, by show p + 10 + 5 * i + 5 ≤ p + 160; omega, ?_⟩
    · show T0 (p + 6) i = some (p + 10 + 5 * i)
      unfold T0
      rw [if_pos (by omega), if_pos hi]
    · have q1 : ∀ i, i < 30 → kd (1 + 10 + 5 * i) = 2 := by decide +kernel
      have q2 : ∀ i, i < 30 → kd (161 + 10 + 5 * i) = 2 := by decide +kernel
      rcases hp with rfl | rfl
      · exact q1 i hi
      · exact q2 i hi
  · intro i j _ _ e
    have e : p + 10 + 5 * i = p + 10 + 5 * j := e
    omega
  · intro i hi
    rw [z 3 ⟨by decide, by decide⟩] at hi
    omega
def W0 : wF := fun _ _ _ => 0
def V0 : wF := fun _ A _ => 1 + A 7
theorem law_0 : lawR σ0 W0 V0 (-1) := by
  have k4 : kd 322 = 4 := rfl
  have i4 : ∀ j, σ0.1 322 j = if 2 ≤ j ∧ j ≤ 5 then -1 else 0 := fun j => I0_4 k4 j
  have et : txp (-1) = 322 := rfl
  unfold lawR txOK
  rw [et, i4, i4, i4, i4, i4, i4]
  refine ⟨⟨k4, inR_k0, inR_m1, inR_m1, Or.inl ⟨rfl, fun _ _ => rfl⟩, Or.inl ⟨rfl, fun _ _ => rfl⟩⟩, inR_k0, fun _ => fun _ _ _ _ _ _ _ => rfl, fun _ _ _ _ => ⟨by show (0 : Int) ≤ 0; decide, by show (0 : Int) ≤ 9; decide⟩, fun A _ g _ => ?_⟩
  have g7 := g.2.2.2.2.2.2.2.1
  show 0 ≤ 1 + A 7 ∧ 1 + A 7 ≤ 9
  omega
theorem JJ_0 : JJ σ0 1000 := by
  have r5 : σ0.2.1 385 = A0 := R0_A (Or.inl rfl)
  have r6 : σ0.2.1 386 = A0 := R0_A (Or.inr rfl)
  have r7 : σ0.2.1 387 = fun _ => 0 := by show R0 387 = _; exact R0_z (by decide)
  have r8 : σ0.2.1 388 = fun _ => 0 := by show R0 388 = _; exact R0_z (by decide)
  have a1 : A0 1 = 0 := rfl
  refine ⟨W0, V0, ⟨?_, ?_, ?_, ?_, ?_, ?_, ?_, ?_⟩, ⟨?_, ?_, ?_, ?_, ?_, ?_⟩⟩
  · rw [r5, a1]; exact A0_ok
  · rw [r6, a1]; exact A0_ok
  · rw [r5, r6, a1]; exact ⟨by decide, by decide, by decide⟩
  · exact ⟨rfl, by decide +kernel, ⟨by decide +kernel, by decide +kernel⟩, by decide +kernel, by decide +kernel⟩
  · exact ⟨by decide +kernel, by decide +kernel⟩
  · refine ⟨⟨fun _ _ => rfl, fun _ _ => rfl⟩, fun t ht => ?_⟩
    rw [r5, a1] at ht
    omega
  · intro tx _ i _
    rw [r7]
    exact inR_k0
  · intro i
    rw [r8]
    exact ⟨by show (0 : Int) ≤ 0; decide, by show (0 : Int) < 256; decide⟩
  · rw [r5, r6]
    refine ⟨tw_0 (Or.inl rfl), tw_0 (Or.inr rfl), fun t h1 h2 => ?_, fun i hi => ?_, fun i hi => ?_⟩
    · rw [a1] at h2
      obtain rfl : t = -1 := by omega
      exact law_0
    · show T0 321 i = _
      unfold T0
      rw [if_neg (by decide), if_pos rfl, if_pos hi]
    · show T0 334 i = _
      unfold T0
      rw [if_neg (by decide), if_neg (by decide), if_pos rfl, if_pos hi]
  · intro tx h
    rw [r5, a1] at h
    omega
  · refine ⟨rfl, ?_⟩
    rw [r8]
    show R0 329 = _
    exact R0_z (by decide)
  · exact ⟨rfl, rfl⟩
  · intro tx h
    have k4 : kd (340 + 6 * tx) = 4 := kd_sl (by omega)
    have i4 : ∀ j, σ0.1 (340 + 6 * tx) j = if 2 ≤ j ∧ j ≤ 5 then -1 else 0 := fun j => I0_4 k4 j
    rw [i4, i4]
    refine ⟨fun i _ => ?_, inR_m1, inR_m1⟩
    have e : σ0.2.1 (340 + 6 * tx + 1) = fun _ => 0 := R0_z (by omega)
    rw [e]
    exact ⟨by show (0 : Int) ≤ 0; decide, by show (0 : Int) ≤ 1000000; decide⟩
  · show T0 333 2 = _
    unfold T0
    rw [if_neg (by decide), if_neg (by decide), if_neg (by decide), if_pos rfl, if_pos rfl]
