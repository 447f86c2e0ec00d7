/-! ===== what is changed; towns of the class and rows of the model ===== -/
/-- places in S alone have changed -/
def chg (S : Nat → Prop) (σ σ' : gS) : Prop := (∀ a, ¬ S a → σ'.1 a = σ.1 a ∧ σ'.2.1 a = σ.2.1 a ∧ σ'.2.2.2.2 a = σ.2.2.2.2 a ∧ σ'.2.2.1 a = σ.2.2.1 a) ∧ σ'.2.2.2.1 = σ.2.2.2.1
theorem chg_rf (S : Nat → Prop) (σ : gS) : chg S σ σ := ⟨fun _ _ => ⟨rfl, rfl, rfl, rfl⟩, rfl⟩
theorem chg_tr {S : Nat → Prop} {σ σ1 σ2 : gS} (h : chg S σ σ1) (h2 : chg S σ1 σ2) : chg S σ σ2 :=
  ⟨fun a q => ⟨(h2.1 a q).1.trans (h.1 a q).1, (h2.1 a q).2.1.trans (h.1 a q).2.1, (h2.1 a q).2.2.1.trans (h.1 a q).2.2.1, (h2.1 a q).2.2.2.trans (h.1 a q).2.2.2⟩, h2.2.trans h.2⟩
theorem chg_mono {S S2 : Nat → Prop} {σ σ1 : gS} (h : chg S σ σ1) (q : ∀ a, S a → S2 a) : chg S2 σ σ1 := ⟨fun a n => h.1 a (fun m => n (q a m)), h.2⟩
theorem chg_st (σ : gS) (s : Nat) (K H E N f : Nat → Int) : chg (fun a => s ≤ a ∧ a < s + 5) σ (st σ s K H E N f) :=
  ⟨fun a q => ⟨st_o1 σ K H E N f (by omega), st_o2 σ K H E N f (by omega), rfl, rfl⟩, rfl⟩
theorem chg_sI (σ : gS) (a k : Nat) (z : Int) : chg (fun b => b = a) σ (sI σ a k z) := ⟨fun b q => ⟨up2_ne _ _ _ q, rfl, rfl, rfl⟩, rfl⟩
theorem chg_sR (σ : gS) (a k : Nat) (z : Int) : chg (fun b => b = a) σ (sR σ a k z) := ⟨fun b q => ⟨rfl, up2_ne _ _ _ q, rfl, rfl⟩, rfl⟩
theorem chg_sRw (σ : gS) (a : Nat) (f : Nat → Int) : chg (fun b => b = a) σ (sRw σ a f) := ⟨fun b q => ⟨rfl, va_up_ne _ _ q, rfl, rfl⟩, rfl⟩
theorem chg_sT (σ : gS) (a k : Nat) (z : Option Nat) : chg (fun b => b = a) σ (sT σ a k z) := ⟨fun b q => ⟨rfl, rfl, up2_ne _ _ _ q, rfl⟩, rfl⟩
theorem chg_sJ (σ : gS) (a k : Nat) (z : Int) : chg (fun b => b = a) σ (sJ σ a k z) := ⟨fun b q => ⟨rfl, rfl, rfl, up2_ne _ _ _ q⟩, rfl⟩
def stkP (a : Nat) : Prop := a = 327 ∨ a = 345 ∨ a = 351 ∨ a = 357 ∨ a = 363
theorem chg_eqT {σ σ1 : gS} (h : eqT σ σ1) : chg stkP σ σ1 :=
  ⟨fun a q => ⟨by rw [h.1], h.2.1 a (fun e => q (Or.inl e)) (fun e => q (Or.inr (Or.inl e))) (fun e => q (Or.inr (Or.inr (Or.inl e)))) (fun e => q (Or.inr (Or.inr (Or.inr (Or.inl e))))) (fun e => q (Or.inr (Or.inr (Or.inr (Or.inr e))))), by rw [h.2.2], by rw [h.2.2]⟩, by rw [h.2.2]⟩
/-- the street at place s is as the row says -/
def trS (on : Int) (σ : gS) (s : Nat) (A : Nat → Int) : Prop := trR on (σ.2.1 (s + 1)) (σ.2.1 (s + 2)) (σ.2.1 (s + 3)) (σ.1 s) A
theorem trS_st {on : Int} {σ : gS} {s : Nat} {K H E N f A : Nat → Int} (h : trR on K H E f A) : trS on (st σ s K H E N f) s A := by
  unfold trS; rw [st_K, st_H, st_E, st_f]; exact h
theorem trS_ch {on : Int} {σ σ1 : gS} {S : Nat → Prop} {s : Nat} {A : Nat → Int} (h : trS on σ s A) (c : chg S σ σ1) (q : ∀ a, s ≤ a → a < s + 5 → ¬ S a) : trS on σ1 s A := by
  unfold trS
  rw [(c.1 (s + 1) (q _ (by omega) (by omega))).2.1, (c.1 (s + 2) (q _ (by omega) (by omega))).2.1, (c.1 (s + 3) (q _ (by omega) (by omega))).2.1, (c.1 s (q _ (by omega) (by omega))).1]
  exact h
/-- places that a street shows -/
def idx (i : Nat) : Prop := i = 0 ∨ (5 ≤ i ∧ i < 24) ∨ (1553 ≤ i ∧ i < 1583)
theorem trR_cong {on : Int} {K H E f A B : Nat → Int} (h : trR on K H E f A) (h5 : A 0 ≤ 5) (h30 : ¬ on = 0 → A 10 ≤ 30) (e : ∀ i, idx i → B i = A i) : trR on K H E f B := by
  have e0 := e 0 (Or.inl rfl)
  have ei : ∀ i, 5 ≤ i → i < 24 → B i = A i := fun i a b => e i (Or.inr (Or.inl ⟨a, b⟩))
  refine ⟨fun j hj => ?_, fun p hp => ?_, ?_, h.2.2.2.1, fun q => ?_⟩
  · rw [ei _ (by omega) (by omega)]; exact h.1 j hj
  · rw [e0] at hp; rw [ei _ (by omega) (by omega)]; exact h.2.1 p hp
  · rw [e0, ei 8 (by omega) (by omega), ei 7 (by omega) (by omega), ei 9 (by omega) (by omega), ei 5 (by omega) (by omega), ei 6 (by omega) (by omega)]; exact h.2.2.1
  · rw [ei 10 (by omega) (by omega)]
    exact ⟨(h.2.2.2.2 q).1, fun i hi => by rw [e (1553 + i) (Or.inr (Or.inr ⟨by omega, by have := h30 q; omega⟩))]; exact (h.2.2.2.2 q).2 i hi⟩
theorem trS_cong {on : Int} {σ : gS} {s : Nat} {A B : Nat → Int} (h : trS on σ s A) (h5 : A 0 ≤ 5) (h30 : ¬ on = 0 → A 10 ≤ 30) (e : ∀ i, idx i → B i = A i) : trS on σ s B := trR_cong h h5 h30 e
/-- how many people there were when step i was kept -/
def pz (A : Nat → Int) (i : Nat) : Nat := (A (53 + 50 * i)).toNat
/-- the row behind step i taken back -/
def ud (A : Nat → Int) (i : Nat) : Nat → Int := mUndo A i (pz A i)
/-- the town at place p is as the row says -/
def twR (σ : gS) (p : Nat) (A : Nat → Int) : Prop :=
  trS 1 σ (p + 1) A ∧ (σ.1 p 2 = A 3 ∧ σ.1 p 6 = A 4 ∧ σ.1 p 7 = A 1 ∧ σ.1 p 8 = A 2) ∧ (∀ h, h < 8 → σ.2.1 (p + 7) h = A (29 + h) - 1) ∧ (∀ i : Nat, (i : Int) < A 4 → σ.2.1 (p + 8) i = A (37 + 2 * i) ∧ σ.2.1 (p + 9) i = A (37 + 2 * i + 1)) ∧
  ∃ π : Nat → Nat, (∀ i, i < 30 → σ.2.2.2.2 (p + 6) i = some (π i) ∧ p + 10 ≤ π i ∧ π i + 5 ≤ p + 160 ∧ kd (π i) = 2) ∧ (∀ i j, i < 30 → j < 30 → π i = π j → i = j) ∧ ∀ i : Nat, (i : Int) < A 3 → trS 1 σ (π i) (ud A i)
theorem twR_ch {σ σ1 : gS} {S : Nat → Prop} {p : Nat} {A : Nat → Int} (h : twR σ p A) (c : chg S σ σ1) (q : ∀ a, p ≤ a → a < p + 160 → ¬ S a) (h3 : A 3 ≤ 30) : twR σ1 p A := by
  obtain ⟨h1, h2, h4, h5, π, h6, h7, h8⟩ := h
  refine ⟨trS_ch h1 c (fun a x y => q a (by omega) (by omega)), ?_, fun k hk => ?_, fun i hi => ?_, π, fun i hi => ?_, h7, fun i hi => ?_⟩
  · rw [(c.1 p (q p (by omega) (by omega))).1]; exact h2
  · rw [(c.1 (p + 7) (q _ (by omega) (by omega))).2.1]; exact h4 k hk
  · rw [(c.1 (p + 8) (q _ (by omega) (by omega))).2.1, (c.1 (p + 9) (q _ (by omega) (by omega))).2.1]; exact h5 i hi
  · rw [(c.1 (p + 6) (q _ (by omega) (by omega))).2.2.1]; exact h6 i hi
  · have := h6 i (by omega); exact trS_ch (h8 i hi) c (fun a x y => q a (by omega) (by omega))
/-- the places of a row that a step taken back shows -/
theorem ud_at (A : Nat → Int) (q i : Nat) (hq : q < 30) (h5 : A 0 ≤ 5) : ud A q i = if 1553 ≤ i ∧ i < 1583 then A (73 + 50 * q + (i - 1553)) else if 19 + pz A q ≤ i ∧ (i : Int) < 19 + A 0 then A (i + 5) else if 5 ≤ i ∧ i < 24 then A (54 + 50 * q + (i - 5)) else if i = 3 then (q : Int) else A i := by
  unfold ud mUndo
  by_cases c1 : 1553 ≤ i ∧ i < 1583
  · rw [if_pos c1]
    unfold mCp
    rw [if_pos (by omega)]
    have e : 53 + 50 * q + 20 + (i - 1553) = 73 + 50 * q + (i - 1553) := by omega
    rw [e, mTo_out _ _ _ (by omega)]
    show (if _ then _ else _) = _
    rw [if_neg (by omega), va_up_ne _ _ (by omega)]
  · rw [if_neg c1, mCp_out _ _ _ _ (by omega)]
    by_cases c2 : 19 + pz A q ≤ i ∧ (i : Int) < 19 + A 0
    · rw [if_pos c2]
      unfold mTo
      rw [if_pos (by omega)]
      show (if _ then _ else _) = _
      rw [if_neg (by omega), va_up_ne _ _ (by omega)]
    · rw [if_neg c2, mTo_out _ _ _ (by omega)]
      unfold mCp
      by_cases c3 : 5 ≤ i ∧ i < 24
      · rw [if_pos (by omega), if_pos c3, va_up_ne _ _ (by omega)]; congr 1; omega
      · rw [if_neg (by omega), if_neg c3]
        by_cases c4 : i = 3
        · subst c4; rw [if_pos rfl, va_up_self]
        · rw [if_neg c4, va_up_ne _ _ c4]
