/-! ===== pieces of the class's code ===== -/
def opC (C : Nat → Int) (i : Nat) : Nat := (C i).toNat % 64
def vaC (C : Nat → Int) (i : Nat) : Nat := (C i).toNat / 64
/-- the code from i to j says f, on nd places of the stack -/
def segC (C : Nat → Int) (i j nd : Nat) (f : vF) : Prop := i ≤ j ∧ ∀ C1 : Nat → Int, (∀ k, i ≤ k → k < j → C1 k = C k) → ∀ A h, gd 100000 4 A → h < 8 → ∀ (w : Nat) (S : List Int), j ≤ w → S.length + nd ≤ 64 → ∀ m r, cRun A h (opC C1) (vaC C1) w m j (f A h :: S) = some r → ∃ m', cRun A h (opC C1) (vaC C1) w m' i S = some r
theorem segC_m {C : Nat → Int} {i j n n' : Nat} {f : vF} (h : segC C i j n f) (hn : n ≤ n') : segC C i j n' f := ⟨h.1, fun C1 e A a g ha w S hw hS => h.2 C1 e A a g ha w S hw (by omega)⟩
theorem segC_c {C C' : Nat → Int} {i j n : Nat} {f : vF} (h : segC C i j n f) (e : ∀ k, i ≤ k → k < j → C' k = C k) : segC C' i j n f := ⟨h.1, fun C1 e1 => h.2 C1 (fun k a b => (e1 k a b).trans (e k a b))⟩
theorem opC_at {C : Nat → Int} {i op v : Nat} (h : C i = (op : Int) + 64 * (v : Int)) (hop : op < 64) : opC C i = op ∧ vaC C i = v := by
  unfold opC vaC
  have e : (C i).toNat = op + 64 * v := by rw [h]; omega
  rw [e]
  omega
theorem segC_0 {C : Nat → Int} {i op v : Nat} (hC : C i = (op : Int) + 64 * (v : Int)) (hop : op < 64) (ht : cTk op = 0) (h14 : op ≠ 14) (h12 : op ≠ 12) : segC C i (i + 1) 1 (fun A h => mClip (cNa A h op v)) := by
  refine ⟨by omega, fun C1 e A h g hh w S hw hS m r hr => ⟨m + 1, ?_⟩⟩
  obtain ⟨e1, e2⟩ := opC_at ((e i (by omega) (by omega)).trans hC) hop
  rw [cRun, e1, e2, if_neg (by omega), if_neg h14, if_neg h12, if_pos ht, if_neg (by omega)]
  exact hr
theorem segC_1 {C : Nat → Int} {i j n op v : Nat} {f : vF} (h : segC C i j n f) (hC : C j = (op : Int) + 64 * (v : Int)) (hop : op < 64) (ht : cTk op = 1) (h14 : op ≠ 14) (h12 : op ≠ 12) : segC C i (j + 1) n (fun A h => mClip (cCh A op (f A h))) := by
  refine ⟨by have := h.1; omega, fun C1 e A a g ha w S hw hS m r hr => ?_⟩
  have hij := h.1
  obtain ⟨e1, e2⟩ := opC_at ((e j (by omega) (by omega)).trans hC) hop
  refine h.2 C1 (fun k x y => e k x (by omega)) A a g ha w S (by omega) hS (m + 1) r ?_
  rw [cRun, e1, e2, if_neg (by omega), if_neg h14, if_neg h12, if_neg (by omega), if_pos ht, if_neg (by show ¬ (f A a :: S).length < 1; rw [List.length_cons]; omega)]
  exact hr
def b01 (f : vF) : Prop := ∀ A h, f A h = 0 ∨ f A h = 1
theorem segC_2 {C : Nat → Int} {i j k n1 n2 op v : Nat} {f g : vF} (h1 : segC C i j n1 f) (h2 : segC C j k n2 g) (hC : C k = (op : Int) + 64 * (v : Int)) (hop : op < 64) (ht : cTk op = 2) (h14 : op ≠ 14) (h12 : op ≠ 12) (hb : op = 16 ∨ op = 17 → b01 f ∧ b01 g) {n : Nat} (hn1 : n1 ≤ n) (hn2 : n2 + 1 ≤ n) : segC C i (k + 1) n (fun A h => mClip (cJn op (f A h) (g A h))) := by
  refine ⟨by have := h1.1; have := h2.1; omega, fun C1 e A a gg ha w S hw hS m r hr => ?_⟩
  have hij := h1.1
  have hjk := h2.1
  obtain ⟨e1, e2⟩ := opC_at ((e k (by omega) (by omega)).trans hC) hop
  obtain ⟨m2, hm2⟩ := h2.2 C1 (fun x y z => e x (by omega) (by omega)) A a gg ha w (f A a :: S) (by omega) (by rw [List.length_cons]; omega) (m + 1) r (by
    rw [cRun, e1, e2, if_neg (by omega), if_neg h14, if_neg h12, if_neg (by omega), if_neg (by omega), if_neg]
    · exact hr
    · rintro (q | ⟨q, q2⟩)
      · simp only [List.length_cons] at q; omega
      · have := hb q
        exact q2 ⟨this.1 A a, this.2 A a⟩)
  exact h1.2 C1 (fun x y z => e x (by omega) (by omega)) A a gg ha w S (by omega) (by omega) m2 r hm2
theorem segC_if {C : Nat → Int} {i j k l n1 n2 n3 n : Nat} {c f g : vF} (h1 : segC C i j n1 c) (hI : C j = 12 + 64 * ((k + 1 : Nat) : Int)) (h2 : segC C (j + 1) k n2 f) (hE : C k = 14 + 64 * (l : Int)) (h3 : segC C (k + 1) l n3 g) (hn1 : n1 ≤ n) (hn2 : n2 ≤ n) (hn3 : n3 ≤ n) (hn : 2 ≤ n) : segC C i l n (vI c f g) := by
  have hij := h1.1
  have hjk := h2.1
  have hkl := h3.1
  refine ⟨by omega, fun C1 e A a gg ha w S hw hS m r hr => ?_⟩
  obtain ⟨a1, a2⟩ := opC_at (op := 12) (v := k + 1) ((e j (by omega) (by omega)).trans hI) (by omega)
  obtain ⟨b1, b2⟩ := opC_at (op := 14) (v := l) ((e k (by omega) (by omega)).trans hE) (by omega)
  have key : ∃ m', cRun A a (opC C1) (vaC C1) w m' j (c A a :: S) = some r := by
    by_cases q : c A a = 0
    · have hr2 : cRun A a (opC C1) (vaC C1) w m l (g A a :: S) = some r := by
        rw [show g A a = vI c f g A a by unfold vI; rw [if_pos q]]; exact hr
      obtain ⟨m3, hm3⟩ := h3.2 C1 (fun x y z => e x (by omega) z) A a gg ha w S hw (by omega) m r hr2
      refine ⟨m3 + 1, ?_⟩
      rw [cRun, a1, a2, if_neg (by omega), if_neg (by decide), if_pos rfl, if_neg (by rw [List.length_cons]; omega)]
      show cRun A a (opC C1) (vaC C1) w m3 (if c A a = 0 then jmp j (k + 1) else j + 1) S = some r
      rw [if_pos q]
      unfold jmp
      rw [if_pos (by omega)]
      exact hm3
    · have hr2 : cRun A a (opC C1) (vaC C1) w m l (f A a :: S) = some r := by
        rw [show f A a = vI c f g A a by unfold vI; rw [if_neg q]]; exact hr
      obtain ⟨m2, hm2⟩ := h2.2 C1 (fun x y z => e x (by omega) (by omega)) A a gg ha w S (by omega) (by omega) (m + 1) r (by
        rw [cRun, b1, b2, if_neg (by omega), if_pos rfl, if_neg (by rw [List.length_cons]; omega)]
        unfold jmp
        rw [if_pos (by omega)]
        exact hr2)
      refine ⟨m2 + 1, ?_⟩
      rw [cRun, a1, a2, if_neg (by omega), if_neg (by decide), if_pos rfl, if_neg (by rw [List.length_cons]; omega)]
      show cRun A a (opC C1) (vaC C1) w m2 (if c A a = 0 then jmp j (k + 1) else j + 1) S = some r
      rw [if_neg q]
      exact hm2
  obtain ⟨m', hm'⟩ := key
  exact h1.2 C1 (fun x y z => e x y (by omega)) A a gg ha w S (by omega) (by omega) m' r hm'
/-- a law's code runs: what it says -/
theorem segC_run {C : Nat → Int} {i j n : Nat} {f : vF} (h : segC C i j n f) (hn : n ≤ 64) (A : Nat → Int) (a : Nat) (g : gd 100000 4 A) (ha : a < 8) : ∃ m, cRun A a (opC C) (vaC C) j m i [] = some [f A a] := h.2 C (fun _ _ _ => rfl) A a g ha j [] (Nat.le_refl _) (by simpa using hn) 1 [f A a] (by rw [cRun, if_pos (Nat.le_refl _)])
