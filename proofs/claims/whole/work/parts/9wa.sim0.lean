/-! ===== pieces of the model's code, the last of it first ===== -/
def mRr (A nm : Nat → Int) : List (Int × Int) → mX → mX
  | [], X => X
  | x :: E, X => mEs A nm x.1 x.2 (mRr A nm E X)
def mSr (A nm : Nat → Int) : List (Int × Int) → mX → Prop
  | [], _ => True
  | x :: E, X => mSr A nm E X ∧ mOk nm x.1 x.2 (mRr A nm E X)
theorem mRr_app (A nm : Nat → Int) (G E : List (Int × Int)) (X : mX) : mRr A nm (G ++ E) X = mRr A nm G (mRr A nm E X) := by
  induction G with
  | nil => rfl
  | cons x G ih => show mEs A nm x.1 x.2 (mRr A nm (G ++ E) X) = _; rw [ih]; rfl
theorem mSr_app {A nm : Nat → Int} {G E : List (Int × Int)} {X : mX} (h : mSr A nm E X) (h2 : mSr A nm G (mRr A nm E X)) : mSr A nm (G ++ E) X := by
  induction G with
  | nil => exact h
  | cons x G ih => exact ⟨ih h2.1, by show mOk nm x.1 x.2 (mRr A nm (G ++ E) X); rw [mRr_app]; exact h2.2⟩
/-- the same below -/
def loX (X Y : mX) : Prop := (∀ i, i < X.2.2.1 → Y.1 i = X.1 i) ∧ ∀ i, i < X.2.2.2 → Y.2.1 i = X.2.1 i
def rmX (E : List (Int × Int)) (X : mX) : Prop := X.2.2.1 + E.length ≤ 330 ∧ X.2.2.2 + E.length ≤ 330
def nmOK (A nm : Nat → Int) (h : Nat) : Prop := gd 100000 4 A ∧ h < 8 ∧ ∀ v, v < 8 → nm v = mNm A h v
/-- behind X: a number more, v -/
def isVx (X Y : mX) (v : Int) : Prop := (Y.2.2.1 = X.2.2.1 + 1 ∧ Y.2.2.2 = X.2.2.2) ∧ Y.1 X.2.2.1 = v ∧ loX X Y
def isTx (X Y : mX) (v : Int) : Prop := (Y.2.2.1 = X.2.2.1 ∧ Y.2.2.2 = X.2.2.2 + 1) ∧ Y.2.1 X.2.2.2 = v ∧ loX X Y
/-- the piece E says the number f -/
def mPv (E : List (Int × Int)) (f : vF) : Prop := 1 ≤ E.length ∧ ∀ A nm h, nmOK A nm h → mil (f A h) ∧ ∀ X : mX, rmX E X → mSr A nm E X ∧ isVx X (mRr A nm E X) (f A h)
def mPw (E : List (Int × Int)) (f : vF) : Prop := 1 ≤ E.length ∧ ∀ A nm h, nmOK A nm h → (f A h = 0 ∨ f A h = 1) ∧ ∀ X : mX, rmX E X → mSr A nm E X ∧ isTx X (mRr A nm E X) (f A h)
theorem mClip_id {x : Int} (h : mil x) : mClip x = x := by
  unfold mil at h
  unfold mClip
  rw [if_neg (by omega), if_neg (by omega)]
theorem gd_K {A : Nat → Int} (g : gd 100000 4 A) {h : Nat} (hh : h < 8) : 0 ≤ A (11 + h) ∧ A (11 + h) ≤ 100000 := by
  have g1 := g.2.2.1
  have s := g.2.2.2.1
  simp only [mSum, Nat.add_zero, Nat.reduceAdd] at s
  have a0 := g1 0 (by omega)
  have a1 := g1 1 (by omega)
  have a2 := g1 2 (by omega)
  have a3 := g1 3 (by omega)
  have a4 := g1 4 (by omega)
  have a5 := g1 5 (by omega)
  have a6 := g1 6 (by omega)
  have a7 := g1 7 (by omega)
  simp only [Nat.add_zero, Nat.reduceAdd] at a0 a1 a2 a3 a4 a5 a6 a7
  rcases (by omega : h = 0 ∨ h = 1 ∨ h = 2 ∨ h = 3 ∨ h = 4 ∨ h = 5 ∨ h = 6 ∨ h = 7) with e | e | e | e | e | e | e | e <;> subst e <;> simp only [Nat.add_zero, Nat.reduceAdd] <;> omega
theorem gd_Hk {A : Nat → Int} (g : gd 100000 4 A) (z : Int) : mil (mHk A z) := by
  unfold mHk
  split
  · rename_i q
    have := gd_K g (h := z.toNat) (by omega)
    rw [show (11 + z).toNat = 11 + z.toNat by omega]
    unfold mil
    omega
  · exact mil_0
theorem mHk_Ko (A : Nat → Int) (z : Int) : mKo A z = mHk A z := rfl
theorem mPv_num {v : Int} (h0 : 0 ≤ v) (h9 : v ≤ 9999) : mPv [(0, v)] (vM 38 v) := by
  refine ⟨Nat.le_refl _, fun A nm h hA => ?_⟩
  have e : vM 38 v A h = v := by
    unfold vM cNa
    simp only [Int.reduceToNat, Nat.reduceEqDiff, if_false]
    rw [show ((v.toNat : Nat) : Int) = v by omega]
    exact mClip_id ⟨by omega, by omega⟩
  rw [e]
  refine ⟨⟨by omega, by omega⟩, fun X hX => ?_⟩
  unfold rmX at hX
  simp only [List.length_singleton] at hX
  refine ⟨⟨trivial, ?_⟩, ?_⟩
  · show mOk nm 0 v X
    unfold mOk inR
    refine ⟨by omega, by omega, by omega, by omega, fun _ => ⟨by omega, by omega, fun q => absurd rfl q⟩, by omega, by omega, by omega, by omega, by omega, by omega⟩
  · show isVx X (mEs A nm 0 v X) v
    unfold mEs
    rw [if_pos (by omega), if_pos rfl]
    exact ⟨⟨rfl, rfl⟩, va_up_self _ _ _, fun i hi => va_up_ne _ _ (by omega), fun _ _ => rfl⟩
theorem mPv_name {t : Int} (ht : 0 ≤ nmI t) : mPv [(1, nmI t)] (vM t 0) := by
  have hv : nmI t < 8 := by unfold nmI; repeat' split
                            all_goals omega
  refine ⟨Nat.le_refl _, fun A nm h hA => ?_⟩
  obtain ⟨g, hh, hnm⟩ := hA
  have e : vM t 0 A h = nm (nmI t).toNat ∧ mil (nm (nmI t).toNat) := by
    rw [hnm _ (by omega)]
    unfold vM
    have K := gd_K g hh
    have hk : mHk A (h : Int) = A (11 + h) := by
      unfold mHk
      rw [if_pos (by omega)]
      congr 1
    have cc := cCn_ran A (h : Int) (A 0).toNat
    have cb := cCn_bits g.1.1 g.1.2 (h : Int)
    obtain ⟨g0, g1, g2, g3, g4, g5, g6, g7, g8, g9⟩ := g
    have G : gd 100000 4 A := ⟨g0, g1, g2, g3, g4, g5, g6, g7, g8, g9⟩
    have m1 := gd_Hk G ((h : Int) - 1)
    have m2 := gd_Hk G ((h : Int) + 1)
    have fin : ∀ x y : Int, x = y → mil y → mClip x = y ∧ mil y := fun x y e m => ⟨by rw [e]; exact mClip_id m, m⟩
    unfold nmI at ht ⊢
    by_cases e1 : t = 7
    · subst e1; exact fin _ _ rfl ⟨by show -1000000 ≤ A 5; omega, by show A 5 ≤ 1000000; omega⟩
    rw [if_neg e1] at ht ⊢
    by_cases e2 : t = 19
    · subst e2; exact fin _ _ rfl ⟨by show -1000000 ≤ A 7; omega, by show A 7 ≤ 1000000; omega⟩
    rw [if_neg e2] at ht ⊢
    by_cases e3 : t = 20
    · subst e3; exact fin _ _ rfl ⟨by show -1000000 ≤ (h : Int); omega, by show (h : Int) ≤ 1000000; omega⟩
    rw [if_neg e3] at ht ⊢
    by_cases e4 : t = 3
    · subst e4; exact fin _ _ hk ⟨by show -1000000 ≤ A (11 + h); omega, by show A (11 + h) ≤ 1000000; omega⟩
    rw [if_neg e4] at ht ⊢
    by_cases e5 : t = 21
    · subst e5
      refine fin _ _ cb.symm ?_
      show mil ((mBits (mPeo A h (A 0).toNat + 1) (mPeo A h (A 0).toNat) : Nat) : Int)
      rw [cb]
      exact ⟨by omega, by omega⟩
    rw [if_neg e5] at ht ⊢
    by_cases e6 : t = 22
    · subst e6; exact fin _ _ rfl m1
    rw [if_neg e6] at ht ⊢
    by_cases e7 : t = 23
    · subst e7; exact fin _ _ rfl m2
    rw [if_neg e7] at ht ⊢
    by_cases e8 : t = 24
    · subst e8; exact fin _ _ rfl ⟨by show -1000000 ≤ A 9; omega, by show A 9 ≤ 1000000; omega⟩
    rw [if_neg e8] at ht
    omega
  rw [e.1]
  have m := e.2
  refine ⟨m, fun X hX => ?_⟩
  unfold mil at m
  unfold rmX at hX
  simp only [List.length_singleton] at hX
  refine ⟨⟨trivial, ?_⟩, ?_⟩
  · show mOk nm 1 (nmI t) X
    unfold mOk inR
    exact ⟨by omega, by omega, by omega, by omega, fun _ => ⟨by omega, by omega, fun _ => ⟨by omega, by omega, by omega⟩⟩, by omega, by omega, by omega, by omega, by omega, by omega⟩
  · show isVx X (mEs A nm 1 (nmI t) X) _
    unfold mEs
    rw [if_pos (by omega), if_neg (by omega)]
    exact ⟨⟨rfl, rfl⟩, va_up_self _ _ _, fun i hi => va_up_ne _ _ (by omega), fun _ _ => rfl⟩
theorem rmX_t {x : Int × Int} {E : List (Int × Int)} {X : mX} (h : rmX (x :: E) X) : rmX E X := by
  unfold rmX at *
  rw [List.length_cons] at h
  omega
theorem mPv_neg {E : List (Int × Int)} {f : vF} (h : mPv E f) : mPv ((5, 0) :: E) (vN 41 f) := by
  refine ⟨Nat.le_succ_of_le h.1, fun A nm a hA => ?_⟩
  obtain ⟨m, hX⟩ := h.2 A nm a hA
  have e : vN 41 f A a = -(f A a) := by
    unfold vN
    exact mClip_id (by unfold mil at *; show _ ≤ -(f A a) ∧ -(f A a) ≤ _; omega)
  rw [e]
  refine ⟨by unfold mil at *; omega, fun X r => ?_⟩
  obtain ⟨s, ⟨c1, c2⟩, v, l⟩ := hX X (rmX_t r)
  have hl := h.1
  unfold rmX at r
  rw [List.length_cons] at r
  refine ⟨⟨s, ?_⟩, ?_⟩
  · unfold mOk inR
    rw [c1, c2, show X.2.2.1 + 1 - 1 = X.2.2.1 by omega, v]
    exact ⟨by omega, by omega, by omega, by omega, by omega, by omega, fun _ => ⟨by omega, m⟩, by omega, by omega, by omega, by omega⟩
  · show isVx X (mEs A nm 5 0 (mRr A nm E X)) _
    unfold mEs
    rw [if_neg (by omega), if_neg (by omega), if_pos rfl, c1, show X.2.2.1 + 1 - 1 = X.2.2.1 by omega, v]
    exact ⟨⟨rfl, c2⟩, va_up_self _ _ _, fun i hi => (va_up_ne _ _ (by omega)).trans (l.1 i hi), l.2⟩
theorem mPv_any {E : List (Int × Int)} {f : vF} (h : mPv E f) : mPv ((2, 0) :: E) (vN 11 f) := by
  refine ⟨Nat.le_succ_of_le h.1, fun A nm a hA => ?_⟩
  obtain ⟨m, hX⟩ := h.2 A nm a hA
  have e : vN 11 f A a = mHk A (f A a) := mClip_id (gd_Hk hA.1 _)
  rw [e]
  refine ⟨gd_Hk hA.1 _, fun X r => ?_⟩
  obtain ⟨s, ⟨c1, c2⟩, v, l⟩ := hX X (rmX_t r)
  have hl := h.1
  unfold rmX at r
  rw [List.length_cons] at r
  refine ⟨⟨s, ?_⟩, ?_⟩
  · unfold mOk inR
    rw [c1, c2, show X.2.2.1 + 1 - 1 = X.2.2.1 by omega, v]
    exact ⟨by omega, by omega, by omega, by omega, by omega, by omega, fun _ => ⟨by omega, m⟩, by omega, by omega, by omega, by omega⟩
  · show isVx X (mEs A nm 2 0 (mRr A nm E X)) _
    unfold mEs
    rw [if_neg (by omega), if_neg (by omega), if_neg (by omega), if_pos rfl, c1, show X.2.2.1 + 1 - 1 = X.2.2.1 by omega, v]
    exact ⟨⟨rfl, c2⟩, va_up_self _ _ _, fun i hi => (va_up_ne _ _ (by omega)).trans (l.1 i hi), l.2⟩
/-- two pieces, one behind the other -/
theorem mPv_app {G E : List (Int × Int)} {f g : vF} (h : mPv E f) (h2 : mPv G g) {A nm : Nat → Int} {a : Nat} (hA : nmOK A nm a) {X : mX} (r : rmX (G ++ E) X) : mSr A nm (G ++ E) X ∧ ((mRr A nm (G ++ E) X).2.2.1 = X.2.2.1 + 2 ∧ (mRr A nm (G ++ E) X).2.2.2 = X.2.2.2) ∧ (mRr A nm (G ++ E) X).1 X.2.2.1 = f A a ∧ (mRr A nm (G ++ E) X).1 (X.2.2.1 + 1) = g A a ∧ loX X (mRr A nm (G ++ E) X) := by
  unfold rmX at r
  rw [List.length_append] at r
  obtain ⟨s, ⟨c1, c2⟩, v, l⟩ := (h.2 A nm a hA).2 X (by unfold rmX; have := h2.1; omega)
  have hl := h.1
  obtain ⟨s2, ⟨c3, c4⟩, v2, l2⟩ := (h2.2 A nm a hA).2 (mRr A nm E X) (by unfold rmX; rw [c1, c2]; omega)
  rw [mRr_app]
  refine ⟨mSr_app s s2, ⟨by omega, by omega⟩, (l2.1 _ (by omega)).trans v, by rw [← c1]; exact v2, fun i hi => (l2.1 i (by omega)).trans (l.1 i hi), fun i hi => (l2.2 i (by omega)).trans (l.2 i hi)⟩
def twI (t : Int) : Int := if t = 29 then 6 else if t = 30 then 7 else if t = 31 then 8 else if t = 32 then 9 else if t = 9 then 4 else if t = 17 then 21 else 22
theorem vJ_two {t : Int} (ht : t = 29 ∨ t = 30 ∨ t = 31 ∨ t = 32) (f g : vF) (A : Nat → Int) (a : Nat) : vJ t f g A a = mTwo (twI t) (f A a) (g A a) := by
  unfold vJ twI
  rcases ht with e | e | e | e <;> subst e
  · simp only [cJn, mTwo, Int.reduceToNat, Nat.reduceEqDiff, Int.reduceEq, if_true, if_false]
  · simp only [cJn, mTwo, Int.reduceToNat, Nat.reduceEqDiff, Int.reduceEq, if_true, if_false]
  · simp only [cJn, mTwo, Int.reduceToNat, Nat.reduceEqDiff, Int.reduceEq, if_true, if_false]
  · simp only [cJn, mTwo, Int.reduceToNat, Nat.reduceEqDiff, Int.reduceEq, if_true, if_false]
    show mClip (if g A a = 0 then 0 else (f A a).tdiv (g A a)) = if g A a = 0 then 0 else mClip ((f A a).tdiv (g A a))
    split
    · rfl
    · rfl
theorem mPv_two {G E : List (Int × Int)} {f g : vF} {t : Int} (ht : t = 29 ∨ t = 30 ∨ t = 31 ∨ t = 32) (h : mPv E f) (h2 : mPv G g) : mPv ((twI t, 0) :: (G ++ E)) (vJ t f g) := by
  refine ⟨by rw [List.length_cons]; omega, fun A nm a hA => ?_⟩
  rw [vJ_two ht]
  have hx : 6 ≤ twI t ∧ twI t ≤ 9 := by unfold twI; rcases ht with e | e | e | e <;> subst e <;> decide
  refine ⟨mTwo_mil _ _ _, fun X r => ?_⟩
  have m1 := (h.2 A nm a hA).1
  have m2 := (h2.2 A nm a hA).1
  obtain ⟨s, ⟨c1, c2⟩, v, v2, l⟩ := mPv_app h h2 hA (rmX_t r)
  unfold rmX at r
  rw [List.length_cons] at r
  have z1 : X.2.2.1 + 2 - 2 = X.2.2.1 := by omega
  have z2 : X.2.2.1 + 2 - 1 = X.2.2.1 + 1 := by omega
  have hl1 := h.1
  have hl2 := h2.1
  rw [List.length_append] at r
  refine ⟨⟨s, ?_⟩, ?_⟩
  · unfold mOk inR
    rw [c1, c2, z1, z2, v, v2]
    exact ⟨by omega, by omega, by omega, by omega, by omega, by omega, by omega, fun _ => ⟨by omega, m1, m2⟩, by omega, by omega, by omega⟩
  · show isVx X (mEs A nm (twI t) 0 (mRr A nm (G ++ E) X)) _
    unfold mEs
    rw [if_neg (by omega), if_neg (by omega), if_neg (by omega), if_neg (by omega), if_pos (by omega), if_neg (by omega), c1, z1, z2, v, v2]
    exact ⟨⟨rfl, c2⟩, va_up_self _ _ _, fun i hi => (va_up_ne _ _ (by omega)).trans (l.1 i hi), l.2⟩
theorem vJ_over (f g : vF) (A : Nat → Int) (a : Nat) : vJ 9 f g A a = if mTwo 7 (f A a) (g A a) < 0 then 0 else mTwo 7 (f A a) (g A a) := by
  unfold vJ
  simp only [cJn, mTwo, Int.reduceToNat, Nat.reduceEqDiff, Int.reduceEq, if_true, if_false]
  show mClip (max 0 (f A a - g A a)) = if mClip (f A a - g A a) < 0 then 0 else mClip (f A a - g A a)
  unfold mClip
  repeat' split
  all_goals omega
theorem mPv_over {G E : List (Int × Int)} {f g : vF} (h : mPv E f) (h2 : mPv G g) : mPv ((4, 0) :: (G ++ E)) (vJ 9 f g) := by
  refine ⟨by rw [List.length_cons]; omega, fun A nm a hA => ?_⟩
  refine ⟨mil_clip _, fun X r => ?_⟩
  rw [vJ_over]
  have m1 := (h.2 A nm a hA).1
  have m2 := (h2.2 A nm a hA).1
  obtain ⟨s, ⟨c1, c2⟩, v, v2, l⟩ := mPv_app h h2 hA (rmX_t r)
  unfold rmX at r
  rw [List.length_cons] at r
  have z1 : X.2.2.1 + 2 - 2 = X.2.2.1 := by omega
  have z2 : X.2.2.1 + 2 - 1 = X.2.2.1 + 1 := by omega
  have hl1 := h.1
  have hl2 := h2.1
  rw [List.length_append] at r
  refine ⟨⟨s, ?_⟩, ?_⟩
  · unfold mOk inR
    rw [c1, c2, z1, z2, v, v2]
    exact ⟨by omega, by omega, by omega, by omega, by omega, by omega, by omega, fun _ => ⟨by omega, m1, m2⟩, by omega, by omega, by omega⟩
  · show isVx X (mEs A nm 4 0 (mRr A nm (G ++ E) X)) _
    unfold mEs
    rw [if_neg (by omega), if_neg (by omega), if_neg (by omega), if_neg (by omega), if_pos (by omega), if_pos rfl, c1, z1, z2, v, v2]
    refine ⟨⟨rfl, c2⟩, ?_, fun i hi => ?_, l.2⟩
    · split
      · exact va_up_self _ _ _
      · exact va_up_self _ _ _
    · split
      · exact (va_up_ne _ _ (by omega)).trans ((va_up_ne _ _ (by omega)).trans (l.1 i hi))
      · exact (va_up_ne _ _ (by omega)).trans (l.1 i hi)
theorem cpI_in {t : Int} (h : 0 ≤ cpI t) : (10 ≤ cpI t ∧ cpI t ≤ 15) ∧ (t = 25 ∨ t = 36 ∨ t = 26 ∨ t = 37 ∨ t = 27 ∨ t = 28) := by
  unfold cpI at *
  repeat' split at h
  all_goals first | omega | (repeat (first | rw [if_pos (by omega)] | rw [if_neg (by omega)]); omega)
theorem mClip_01 {x : Int} (h : x = 0 ∨ x = 1) : mClip x = x := mClip_id (by unfold mil; omega)
theorem if_01 {p : Prop} [Decidable p] : (if p then (1 : Int) else 0) = 0 ∨ (if p then (1 : Int) else 0) = 1 := by split <;> simp
theorem mAsk_01 (o x y : Int) : mAskB o x y = 0 ∨ mAskB o x y = 1 := by
  unfold mAskB
  repeat' split
  all_goals simp
theorem vJ_cmp {t : Int} (h : 0 ≤ cpI t) (f g : vF) (A : Nat → Int) (a : Nat) : vJ t f g A a = mAskB (cpI t) (f A a) (g A a) := by
  rcases (cpI_in h).2 with e | e | e | e | e | e <;> subst e
  all_goals
    unfold vJ
    refine (mClip_01 ?_).trans ?_
    · show (if _ then _ else _) = _ ∨ (if _ then _ else _) = _
      simp only [cJn, Int.reduceToNat, Nat.reduceEqDiff, if_false, if_true]
      split <;> simp
    · rfl
theorem mPw_cmp {G E : List (Int × Int)} {f g : vF} {t : Int} (ht : 0 ≤ cpI t) (h : mPv E f) (h2 : mPv G g) : mPw ((cpI t, 0) :: (G ++ E)) (vJ t f g) := by
  refine ⟨by rw [List.length_cons]; omega, fun A nm a hA => ?_⟩
  rw [vJ_cmp ht]
  have hx := (cpI_in ht).1
  refine ⟨mAsk_01 _ _ _, fun X r => ?_⟩
  have m1 := (h.2 A nm a hA).1
  have m2 := (h2.2 A nm a hA).1
  obtain ⟨s, ⟨c1, c2⟩, v, v2, l⟩ := mPv_app h h2 hA (rmX_t r)
  unfold rmX at r
  rw [List.length_cons] at r
  have z1 : X.2.2.1 + 2 - 2 = X.2.2.1 := by omega
  have z2 : X.2.2.1 + 2 - 1 = X.2.2.1 + 1 := by omega
  have hl1 := h.1
  have hl2 := h2.1
  rw [List.length_append] at r
  refine ⟨⟨s, ?_⟩, ?_⟩
  · unfold mOk inR
    rw [c1, c2, z1, z2, v, v2]
    exact ⟨by omega, by omega, by omega, by omega, by omega, by omega, by omega, fun _ => ⟨by omega, m1, m2⟩, by omega, by omega, by omega⟩
  · show isTx X (mEs A nm (cpI t) 0 (mRr A nm (G ++ E) X)) _
    unfold mEs
    rw [if_neg (by omega), if_neg (by omega), if_neg (by omega), if_neg (by omega), if_neg (by omega), if_pos (by omega), c1, c2, z1, z2, v, v2]
    exact ⟨⟨rfl, rfl⟩, va_up_self _ _ _, l.1, fun i hi => (va_up_ne _ _ (by omega)).trans (l.2 i hi)⟩
theorem mPw_not {E : List (Int × Int)} {f : vF} (h : mPw E f) : mPw ((20, 0) :: E) (vN 18 f) := by
  refine ⟨Nat.le_succ_of_le h.1, fun A nm a hA => ?_⟩
  obtain ⟨m, hX⟩ := h.2 A nm a hA
  have e : vN 18 f A a = if f A a = 0 then 1 else 0 := mClip_01 if_01.symm.symm
  rw [e]
  refine ⟨if_01, fun X r => ?_⟩
  obtain ⟨s, ⟨c1, c2⟩, v, l⟩ := hX X (rmX_t r)
  have hl := h.1
  unfold rmX at r
  rw [List.length_cons] at r
  refine ⟨⟨s, ?_⟩, ?_⟩
  · unfold mOk inR
    rw [c1, c2, show X.2.2.2 + 1 - 1 = X.2.2.2 by omega, v]
    exact ⟨by omega, by omega, by omega, by omega, by omega, by omega, by omega, by omega, by omega, fun _ => ⟨by omega, by omega⟩, by omega⟩
  · show isTx X (mEs A nm 20 0 (mRr A nm E X)) _
    unfold mEs
    rw [if_neg (by omega), if_neg (by omega), if_neg (by omega), if_neg (by omega), if_neg (by omega), if_neg (by omega), if_pos rfl, c2, show X.2.2.2 + 1 - 1 = X.2.2.2 by omega, v]
    exact ⟨⟨c1, rfl⟩, va_up_self _ _ _, l.1, fun i hi => (va_up_ne _ _ (by omega)).trans (l.2 i hi)⟩
theorem vJ_join {t : Int} (ht : t = 17 ∨ t = 16) (f g : vF) (A : Nat → Int) (a : Nat) (hf : f A a = 0 ∨ f A a = 1) (hg : g A a = 0 ∨ g A a = 1) : vJ t f g A a = mJoin (twI t) (f A a) (g A a) := by
  unfold vJ
  rcases ht with e | e <;> subst e <;> rcases hf with q | q <;> rcases hg with q2 | q2 <;> rw [q, q2] <;> rfl
theorem mJoin_01 (o x y : Int) : mJoin o x y = 0 ∨ mJoin o x y = 1 := by
  unfold mJoin
  repeat' split
  all_goals simp
theorem mPw_join {G E : List (Int × Int)} {f g : vF} {t : Int} (ht : t = 17 ∨ t = 16) (h : mPw E f) (h2 : mPw G g) : mPw ((twI t, 0) :: (G ++ E)) (vJ t f g) := by
  refine ⟨by rw [List.length_cons]; omega, fun A nm a hA => ?_⟩
  have m1 := (h.2 A nm a hA).1
  have m2 := (h2.2 A nm a hA).1
  rw [vJ_join ht f g A a m1 m2]
  have hx : 21 ≤ twI t ∧ twI t ≤ 22 := by unfold twI; rcases ht with e | e <;> subst e <;> decide
  refine ⟨mJoin_01 _ _ _, fun X r => ?_⟩
  unfold rmX at r
  rw [List.length_cons, List.length_append] at r
  obtain ⟨s, ⟨c1, c2⟩, v, l⟩ := (h.2 A nm a hA).2 X (by unfold rmX; omega)
  have hl1 := h.1
  have hl2 := h2.1
  obtain ⟨s2, ⟨c3, c4⟩, v2, l2⟩ := (h2.2 A nm a hA).2 (mRr A nm E X) (by unfold rmX; rw [c1, c2]; omega)
  rw [c2] at c4 v2
  have v1 := (l2.2 X.2.2.2 (by omega)).trans v
  have z1 : X.2.2.2 + 1 + 1 - 2 = X.2.2.2 := by omega
  have z2 : X.2.2.2 + 1 + 1 - 1 = X.2.2.2 + 1 := by omega
  refine ⟨⟨mSr_app s s2, ?_⟩, ?_⟩
  · rw [mRr_app]
    unfold mOk inR
    rw [c3, c4, c1, z1, z2, v1, v2]
    exact ⟨by omega, by omega, by omega, by omega, by omega, by omega, by omega, by omega, by omega, fun _ => ⟨by omega, by omega⟩, fun _ => ⟨by omega, by omega⟩⟩
  · show isTx X (mEs A nm (twI t) 0 (mRr A nm (G ++ E) X)) _
    rw [mRr_app]
    unfold mEs
    rw [if_neg (by omega), if_neg (by omega), if_neg (by omega), if_neg (by omega), if_neg (by omega), if_neg (by omega), if_neg (by omega), c4, z1, z2, v1, v2]
    exact ⟨⟨c3.trans c1, rfl⟩, va_up_self _ _ _, fun i hi => (l2.1 i (by omega)).trans (l.1 i hi), fun i hi => (va_up_ne _ _ (by omega)).trans ((l2.2 i (by omega)).trans (l.2 i hi))⟩
theorem mPv_if {C G E : List (Int × Int)} {c f g : vF} (hc : mPw C c) (h : mPv E f) (h2 : mPv G g) : mPv ((3, 0) :: (G ++ (E ++ C))) (vI c f g) := by
  refine ⟨by rw [List.length_cons]; omega, fun A nm a hA => ?_⟩
  have m0 := (hc.2 A nm a hA).1
  have m1 := (h.2 A nm a hA).1
  have m2 := (h2.2 A nm a hA).1
  refine ⟨by unfold vI; split; exact m2; exact m1, fun X r => ?_⟩
  unfold rmX at r
  rw [List.length_cons, List.length_append, List.length_append] at r
  have hl0 := hc.1
  obtain ⟨s, ⟨c1, c2⟩, v, l⟩ := (hc.2 A nm a hA).2 X (by unfold rmX; omega)
  obtain ⟨s2, ⟨c3, c4⟩, v1, v2, l2⟩ := mPv_app h h2 hA (X := mRr A nm C X) (by unfold rmX; rw [c1, c2, List.length_append]; omega)
  rw [← List.append_assoc]
  rw [c1] at c3 v1 v2
  rw [c2] at c4
  have v0 := (l2.2 X.2.2.2 (by omega)).trans v
  have z1 : X.2.2.1 + 2 - 2 = X.2.2.1 := by omega
  have z2 : X.2.2.1 + 2 - 1 = X.2.2.1 + 1 := by omega
  have z3 : X.2.2.2 + 1 - 1 = X.2.2.2 := by omega
  refine ⟨⟨mSr_app s s2, ?_⟩, ?_⟩
  · rw [mRr_app]
    unfold mOk inR
    rw [c3, c4, z3, v0]
    exact ⟨by omega, by omega, by omega, by omega, by omega, fun _ => ⟨by omega, by omega, by omega⟩, by omega, by omega, by omega, by omega, by omega⟩
  · show isVx X (mEs A nm 3 0 (mRr A nm (G ++ E ++ C) X)) _
    rw [mRr_app]
    unfold mEs
    rw [if_neg (by omega), if_pos rfl, c3, c4, z1, z2, z3, v0, v2]
    refine ⟨⟨by show X.2.2.1 + 2 - 1 = X.2.2.1 + 1; omega, rfl⟩, ?_, fun i hi => ?_, fun i hi => (l2.2 i (by omega)).trans (l.2 i hi)⟩
    · unfold vI
      by_cases q : c A a = 0
      · rw [if_pos q, if_pos q]; exact va_up_self _ _ _
      · rw [if_neg q, if_neg q]; exact v1
    · by_cases q : c A a = 0
      · rw [if_pos q]; exact (va_up_ne _ _ (by omega)).trans ((l2.1 i (by omega)).trans (l.1 i hi))
      · rw [if_neg q]; exact (l2.1 i (by omega)).trans (l.1 i hi)
