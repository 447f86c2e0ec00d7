/-! ===== loops of the class's reader; asks are 0 or 1 ===== -/
def lpR (p : Nat → rE) (tk : Nat → Int) (a b : Int) (m : Nat) (r R : rE) : Prop := R = if r.1 = 0 then chL p tk a b m r else r
section
variable {n : Nat} {tk st : Nat → Int} {so : Int} {B B1 : rB} {nd s : Nat} {r R : rE} {p : Nat → rE} {a b : Int}
theorem lp_0 (k : Nat) : lpR p tk a b 300 (p k) (ch p tk a b k) := rfl
theorem lp_end {m : Nat} (h : rdQ n st so B nd s r B1) (e : lpR p tk a b m r R) (q : B1.1 = 0 → ¬ (tk B1.2.2.1 = a ∨ tk B1.2.2.1 = b) ∨ m = 0) : rdQ n st so B nd s R B1 := by
  refine ⟨h.1, h.2.1, fun f => ?_⟩
  have z := h.2.2 f
  by_cases c : r.1 = 0
  · have g := z.1 c
    have eR : R = r := by
      unfold lpR at e
      rw [if_pos c] at e
      rw [e]
      rcases q g.1 with w | w
      · rw [g.2.2.1] at w
        cases m with
        | zero => rfl
        | succ m => rw [chL, if_neg w]
      · rw [w]; rfl
    rw [eR]; exact z
  · unfold lpR at e
    rw [if_neg c] at e
    rw [e]; exact z
theorem lp_step {m : Nat} (e : lpR p tk a b (m + 1) r R) (c : r.1 = 0) (q : tk r.2.1 = a ∨ tk r.2.1 = b) : lpR p tk a b m (jnE (tk r.2.1) r (p (r.2.1 + 1))) R := by
  unfold lpR at *
  rw [if_pos c, chL, if_pos q] at e
  unfold jnE
  rw [if_pos c]
  by_cases c2 : (p (r.2.1 + 1)).1 = 0
  · rw [if_pos c2] at e
    rw [if_pos c2, if_pos (show (0 : Int) = 0 from rfl)]
    exact e
  · rw [if_neg c2] at e
    rw [if_neg c2, if_neg c2]
    exact e
end
theorem rdQ_r0 {n : Nat} {st : Nat → Int} {so : Int} {B B1 : rB} {nd s : Nat} {r : rE} (h : rdQ n st so B nd s r B1) (e : B1.1 = 0) : B.1 = 0 ∧ r.1 = 0 ∧ B1.2.2.1 = r.2.1 := by
  have a : B.1 = 0 := by
    rcases Decidable.em (B.1 = 0) with q | q
    · exact q
    · exact absurd ((h.2.1 q).1.symm.trans e) q
  have b : r.1 = 0 := by
    rcases Decidable.em (r.1 = 0) with q | q
    · exact q
    · exact absurd (((h.2.2 a).2 q).1.symm.trans e) q
  exact ⟨a, b, ((h.2.2 a).1 b).2.2.1⟩
theorem clip01 {v : Int} (h : v = 0 ∨ v = 1) : mClip v = 0 ∨ mClip v = 1 := by
  unfold mClip
  rw [if_neg (by omega), if_neg (by omega)]
  exact h
def cmO (op : Int) : Prop := op = 16 ∨ op = 17 ∨ (25 ≤ op ∧ op ≤ 28) ∨ op = 36 ∨ op = 37
theorem b01_J {op : Int} (h : cmO op) (f g : vF) : b01 (vJ op f g) := by
  intro A x
  refine clip01 ?_
  unfold cmO at h
  unfold cJn
  rw [if_neg (by omega), if_neg (by omega), if_neg (by omega), if_neg (by omega), if_neg (by omega)]
  repeat' split
  all_goals first | exact Or.inl rfl | exact Or.inr rfl
theorem b01_jn {op : Int} (h : cmO op) {r1 r2 : rE} (q : (jnE op r1 r2).1 = 0) : b01 (jnE op r1 r2).2.2.1 := by
  unfold jnE at *
  by_cases c : r1.1 = 0
  · rw [if_pos c] at *
    by_cases c2 : r2.1 = 0
    · rw [if_pos c2] at *
      exact b01_J h _ _
    · rw [if_neg c2] at q
      exact absurd q c2
  · rw [if_neg c] at q
    exact absurd q c
def b0E (r : rE) : Prop := r.1 = 0 → b01 r.2.2.1
theorem b0_chL {p : Nat → rE} {tk : Nat → Int} {a : Int} (ha : cmO a) (hp : ∀ k, b0E (p k)) : ∀ m r, b0E r → b0E (chL p tk a a m r) := by
  intro m
  induction m with
  | zero => intro r h; exact h
  | succ m ih =>
    intro r h
    rw [chL]
    split
    · rename_i c
      split
      · refine ih _ (fun _ => ?_)
        refine b01_J ?_ _ _
        rcases c with c | c <;> rw [c] <;> exact ha
      · exact hp _
    · exact h
theorem b0_ch {p : Nat → rE} {tk : Nat → Int} {a : Int} (ha : cmO a) (hp : ∀ k, b0E (p k)) (k : Nat) : b0E (ch p tk a a k) := by
  unfold ch
  split
  · exact b0_chL ha hp _ _ (hp k)
  · exact hp k
theorem b0_U {op far : Int} (ho : op = 18) {r : rE} : b0E (onU op far r) := by
  intro q
  unfold onU at *
  by_cases c : r.1 = 0
  · rw [if_pos c] at *
    intro A x
    refine clip01 ?_
    show cCh A op.toNat (r.2.2.1 A x) = 0 ∨ cCh A op.toNat (r.2.2.1 A x) = 1
    unfold cCh
    rw [if_neg (by omega), if_pos (by omega)]
    split
    · exact Or.inr rfl
    · exact Or.inl rfl
  · rw [if_neg c] at q
    exact absurd q c
theorem b0_F {c : Int} (hc : c ≠ 0) (k : Nat) : b0E (rF c k) := fun q => absurd q hc
theorem cpI_0 {t : Int} (h : ¬ cpI t < 0) : cmO t := by
  unfold cpI at h
  unfold cmO
  repeat' split at h
  all_goals omega
theorem b0_cm {tk : Nat → Int} {sum : Nat → rE} {r : rE} : b0E (cmR tk sum r) := by
  intro q
  unfold cmR at *
  by_cases c : r.1 = 0
  · rw [if_pos c] at *
    by_cases c2 : cpI (tk r.2.1) < 0
    · rw [if_pos c2] at q
      exact absurd q (by show ¬ (1 : Int) = 0; decide)
    · rw [if_neg c2] at *
      by_cases c3 : (sum (r.2.1 + 1)).1 = 0
      · rw [if_pos c3] at *
        exact b01_J (cpI_0 c2) _ _
      · rw [if_neg c3] at q
        exact absurd q c3
  · rw [if_neg c] at q
    exact absurd q c
theorem b0_ak {tk : Nat → Int} {ok : Int} {low : lQ} {sum : Nat → rE} (k : Nat) : b0E (akB tk ok low sum k) := by
  unfold akB
  split
  · split
    · exact b0_F (by decide) k
    · exact b0_U rfl
  · exact b0_cm
