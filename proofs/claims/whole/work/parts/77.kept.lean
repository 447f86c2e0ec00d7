/-! ===== the row stays good: kindness and people told, a step taken back, marks ===== -/
theorem gdx {c nt : Int} {U X : Nat → Int} (h : ∀ j, idx j → U j = X j) (h2 : U 2 = X 2) (gx : gd c nt X) (mx : mM X ≤ c) (bx : ∀ k, k < 30 → inR (X (1553 + k))) : gd c nt U ∧ mM U ≤ c ∧ ∀ k, k < 30 → inR (U (1553 + k)) :=
  ⟨gd_ext gx (fun z q1 q2 q3 q4 q5 => by
    by_cases q : z = 2
    · rw [q]; exact h2
    · exact h z (by unfold idx; omega)), by rw [mM_cong (A := X) (fun j hj => h _ (by unfold idx; omega))]; exact mx, fun k hk => by rw [h _ (by unfold idx; omega)]; exact bx k hk⟩
theorem gd_kd {c nt : Int} {X : Nat → Int} (g : gd c nt X) (mx : mM X ≤ c) {h : Nat} (hh : h < 8) {v : Int} (h0 : 0 ≤ v) (h9 : v ≤ 99) : gd c nt (va_up X (11 + h) v) ∧ mM (va_up X (11 + h) v) ≤ c := by
  have m := mM_kind X hh h9
  have ms := mM_ge (va_up X (11 + h) v)
  have q := gd_kind (c' := c + 99) g hh h0 (by have := (kd_ran g hh).1; omega)
  exact ⟨⟨q.1, q.2.1, q.2.2.1, by omega, q.2.2.2.2⟩, by omega⟩
theorem okR_kind {c nt : Int} {A : Nat → Int} (ok : okR c nt A) {h : Nat} (hh : h < 8) {v : Int} (h0 : 0 ≤ v) (h9 : v ≤ 99) : okR c nt (mKind A h v) := by
  have h3 := ok.2.2.2.1
  have g0 := ok.1.1
  have ok' := okR_good ok hh h0 h9
  have e : ∀ i, i < 60 ∨ 1553 ≤ i → mKind A h v i = va_up A (11 + h) v i := fun i hi => mKind_lo A hh v h3.2 hi
  have e2 : ∀ i, (i < 60 ∨ 1553 ≤ i) → i ≠ 11 + h → mKind A h v i = A i := fun i hi hn => (e i hi).trans (va_up_ne _ _ hn)
  refine ⟨gd_ext ok'.1 (fun i hi _ _ _ _ => e i (by omega)), by rw [mM_cong (A := va_up A (11 + h) v) (fun j hj => e _ (by omega))]; exact ok'.2.1, by rw [e2 1 (by omega) (by omega)]; exact ok.2.2.1, by rw [e2 3 (by omega) (by omega)]; exact h3, by rw [e2 4 (by omega) (by omega)]; exact ok.2.2.2.2.1, fun j hj => by rw [e2 _ (by omega) (by omega)]; exact ok.2.2.2.2.2.1 j hj, fun i hi => ?_, fun p hp => ?_, fun i hi => ?_, fun i hi => by rw [e2 _ (by omega) (by omega)]; exact ok.2.2.2.2.2.2.2.2.2 i hi⟩
  · rw [e2 4 (by omega) (by omega)] at hi
    have i8 := ok.2.2.2.2.1
    rw [e2 _ (by omega) (by omega), e2 _ (by omega) (by omega)]; exact ok.2.2.2.2.2.2.1 i hi
  · rw [e2 0 (by omega) (by omega)] at hp
    rw [e2 _ (by omega) (by omega)]; exact ok.2.2.2.2.2.2.2.1 p hp
  · rw [e2 3 (by omega) (by omega)] at hi
    obtain ⟨a1, a2, a3, a4⟩ := ok.2.2.2.2.2.2.2.2.1 i hi
    have gk := gd_kd a2 a3 hh h0 h9
    refine ⟨?_, gdx (X := va_up (ud A i) (11 + h) v) (fun j hj => ud_kind A hh v h3.1 h3.2 g0.1 g0.2 hi hj) ?_ gk.1 gk.2 (fun k hk => by rw [va_up_ne _ _ (by omega)]; exact a4 k hk)⟩
    · rw [e2 0 (by omega) (by omega), show mKind A h v (53 + 50 * i) = A (53 + 50 * i) by unfold mKind; rw [mKs_ne _ _ _ _ (fun k hk => by omega), va_up_ne _ _ (by omega)]]
      exact a1
    · rw [va_up_ne _ _ (by omega), ud_lo _ (by omega) (by rw [e2 0 (by omega) (by omega)]; exact g0.2) (by omega) (by omega) (by omega), ud_lo A (by omega) g0.2 (by omega) (by omega) (by omega), e2 2 (by omega) (by omega)]
theorem addP_at (A : Nat → Int) (v : Int) (h0 : 0 ≤ A 0) (i : Nat) : addP A v i = if i = 0 then A 0 + 1 else if (i : Int) = 19 + A 0 then v else A i := by
  unfold addP
  by_cases q : i = 0
  · rw [if_pos q, q, va_up_self]
  · rw [if_neg q, va_up_ne _ _ q]
    by_cases r : (i : Int) = 19 + A 0
    · rw [if_pos r, show (19 + A 0).toNat = i by omega, va_up_self]
    · rw [if_neg r, va_up_ne _ _ (by omega)]
theorem okR_per {c nt : Int} {A : Nat → Int} (ok : okR c nt A) (h5 : ¬ A 0 = 5) {v : Int} (v0 : 0 ≤ v) (v7 : v ≤ 7) : okR c nt (mPer A v) := by
  have h3 := ok.2.2.2.1
  have g0 := ok.1.1
  have e : ∀ i, mPer A v i = if i = 0 then A 0 + 1 else if (i : Int) = 19 + A 0 ∨ (i : Int) = 24 + A 0 then v else A i := mPer_at A v g0.1
  have e2 : ∀ i, i ≠ 0 → (i < 19 ∨ 29 ≤ i) → mPer A v i = A i := fun i a b => by rw [e, if_neg a, if_neg (by omega)]
  have e0 : mPer A v 0 = A 0 + 1 := by rw [e, if_pos rfl]
  refine ⟨gd_per ok.1 h5 v0 v7, by rw [mM_cong (A := A) (fun j hj => e2 _ (by omega) (by omega))]; exact ok.2.1, by rw [e2 1 (by omega) (by omega)]; exact ok.2.2.1, by rw [e2 3 (by omega) (by omega)]; exact h3, by rw [e2 4 (by omega) (by omega)]; exact ok.2.2.2.2.1, fun j hj => by rw [e2 _ (by omega) (by omega)]; exact ok.2.2.2.2.2.1 j hj, fun i hi => ?_, fun p hp => ?_, fun i hi => ?_, fun i hi => by rw [e2 _ (by omega) (by omega)]; exact ok.2.2.2.2.2.2.2.2.2 i hi⟩
  · rw [e2 4 (by omega) (by omega)] at hi
    rw [e2 _ (by omega) (by omega), e2 _ (by omega) (by omega)]; exact ok.2.2.2.2.2.2.1 i hi
  · rw [e0] at hp
    by_cases q : (p : Int) = A 0
    · rw [e, if_neg (by omega), if_pos (by omega)]; exact ⟨v0, v7⟩
    · rw [e, if_neg (by omega), if_neg (by omega)]; exact ok.2.2.2.2.2.2.2.1 p (by omega)
  · rw [e2 3 (by omega) (by omega)] at hi
    obtain ⟨a1, a2, a3, a4⟩ := ok.2.2.2.2.2.2.2.2.1 i hi
    have u0 : ud A i 0 = A 0 := ud_lo A (by omega) g0.2 (by omega) (by omega) (by omega)
    have ea : ∀ j, addP (ud A i) v j = if j = 0 then A 0 + 1 else if (j : Int) = 19 + A 0 then v else ud A i j := fun j => by rw [addP_at _ v (by omega), u0]
    have gp := gd_per a2 (by rw [u0]; exact h5) v0 v7
    refine ⟨?_, gdx (X := addP (ud A i) v) (fun j hj => ud_per A v g0.1 (by omega) (by omega) a1.2 hj) ?_ (gd_ext gp (fun j hj _ _ _ _ => ?_)) ?_ (fun k hk => by rw [ea, if_neg (by omega), if_neg (by omega)]; exact a4 k hk)⟩
    · rw [e0, e2 _ (by omega) (by omega)]; omega
    · rw [ea, if_neg (by omega), if_neg (by omega), ud_lo _ (by omega) (by omega) (by omega) (by omega) (by omega), ud_lo A (by omega) g0.2 (by omega) (by omega) (by omega), e2 2 (by omega) (by omega)]
    · rw [ea, mPer_at _ v (by omega), u0]
      by_cases q : j = 0
      · rw [if_pos q, if_pos q]
      · rw [if_neg q, if_neg q]
        by_cases r : (j : Int) = 19 + A 0
        · rw [if_pos r, if_pos (Or.inl r)]
        · rw [if_neg r, if_neg (by omega)]
    · rw [mM_cong (A := ud A i) (fun j hj => by rw [ea, if_neg (by omega), if_neg (by omega)])]; exact a3
theorem okR_undo {c nt : Int} {A : Nat → Int} (ok : okR c nt A) {q : Nat} (hq : A 3 = (q : Int) + 1) : okR c nt (ud A q) := by
  have h3 := ok.2.2.2.1
  have g0 := ok.1.1
  obtain ⟨a1, a2, a3, a4⟩ := ok.2.2.2.2.2.2.2.2.1 q (by omega)
  have e : ∀ k, ¬ (5 ≤ k ∧ k < 24) → k ≠ 3 → k < 1553 → ud A q k = A k := fun k a b c => ud_lo A (by omega) g0.2 a b c
  have e3 : ud A q 3 = (q : Int) := by rw [ud_at A q 3 (by omega) g0.2, if_neg (by omega), if_neg (by omega), if_neg (by omega), if_pos rfl]
  refine ⟨a2, a3, by rw [e 1 (by omega) (by omega) (by omega)]; exact ok.2.2.1, by rw [e3]; omega, by rw [e 4 (by omega) (by omega) (by omega)]; exact ok.2.2.2.2.1, fun j hj => by rw [e _ (by omega) (by omega) (by omega)]; exact ok.2.2.2.2.2.1 j hj, fun i hi => ?_, fun p hp => ?_, fun i hi => ?_, a4⟩
  · rw [e 4 (by omega) (by omega) (by omega)] at hi
    have i8 := ok.2.2.2.2.1
    rw [e _ (by omega) (by omega) (by omega), e _ (by omega) (by omega) (by omega)]; exact ok.2.2.2.2.2.2.1 i hi
  · rw [e 0 (by omega) (by omega) (by omega)] at hp
    rw [e _ (by omega) (by omega) (by omega)]; exact ok.2.2.2.2.2.2.2.1 p hp
  · rw [e3] at hi
    obtain ⟨b1, b2, b3, b4⟩ := ok.2.2.2.2.2.2.2.2.1 i (by omega)
    refine ⟨by rw [e 0 (by omega) (by omega) (by omega), e _ (by omega) (by omega) (by omega)]; exact b1, gdx (X := ud A i) (fun j hj => ud_ud A (by omega) g0.2 (by omega) hj) ?_ b2 b3 b4⟩
    rw [ud_lo _ (by omega) (by rw [e 0 (by omega) (by omega) (by omega)]; exact g0.2) (by omega) (by omega) (by omega), e 2 (by omega) (by omega) (by omega), ud_lo A (by omega) g0.2 (by omega) (by omega) (by omega)]
/-- places of the marks: how many texts, by which, how many are said, needs and sayings -/
def mkI (i : Nat) : Prop := i = 1 ∨ i = 2 ∨ i = 4 ∨ (29 ≤ i ∧ i < 53)
theorem gd_2 {c nt nt' : Int} {A B : Nat → Int} (g : gd c nt A) (e : ∀ i, i < 24 → i ≠ 1 → i ≠ 2 → i ≠ 3 → i ≠ 4 → B i = A i) (h : -1 ≤ B 2 ∧ B 2 < nt') : gd c nt' B := by
  obtain ⟨g0, gp, gk, gs, g10, g5, g6, g7, g9, g2⟩ := g
  refine ⟨by rw [e 0 (by omega) (by omega) (by omega) (by omega) (by omega)]; exact g0, fun p hp => by rw [e _ (by omega) (by omega) (by omega) (by omega) (by omega)]; exact gp p hp, fun j hj => by rw [e _ (by omega) (by omega) (by omega) (by omega) (by omega)]; exact gk j hj, ?_, by rw [e 10 (by omega) (by omega) (by omega) (by omega) (by omega)]; exact g10, by rw [e 5 (by omega) (by omega) (by omega) (by omega) (by omega)]; exact g5, by rw [e 6 (by omega) (by omega) (by omega) (by omega) (by omega)]; exact g6, by rw [e 7 (by omega) (by omega) (by omega) (by omega) (by omega)]; exact g7, by rw [e 9 (by omega) (by omega) (by omega) (by omega) (by omega)]; exact g9, h⟩
  rw [mSum8] at gs ⊢
  rw [e 11 (by omega) (by omega) (by omega) (by omega) (by omega), e 12 (by omega) (by omega) (by omega) (by omega) (by omega), e 13 (by omega) (by omega) (by omega) (by omega) (by omega), e 14 (by omega) (by omega) (by omega) (by omega) (by omega), e 15 (by omega) (by omega) (by omega) (by omega) (by omega), e 16 (by omega) (by omega) (by omega) (by omega) (by omega), e 17 (by omega) (by omega) (by omega) (by omega) (by omega), e 18 (by omega) (by omega) (by omega) (by omega) (by omega)]
  exact gs
theorem okR_mark {c nt nt' : Int} {A B : Nat → Int} (ok : okR c nt A) (e : ∀ i, ¬ mkI i → B i = A i) (b1 : B 1 = nt') (b2 : -1 ≤ B 2 ∧ B 2 < nt') (b4 : 0 ≤ B 4 ∧ B 4 ≤ 8) (bn : ∀ h, h < 8 → 0 ≤ B (29 + h) ∧ B (29 + h) ≤ 31) (bs : ∀ i : Nat, (i : Int) < B 4 → (0 ≤ B (37 + 2 * i) ∧ B (37 + 2 * i) ≤ 7) ∧ 0 ≤ B (37 + 2 * i + 1) ∧ B (37 + 2 * i + 1) ≤ 9) : okR c nt' B := by
  have h3 := ok.2.2.2.1
  have g0 := ok.1.1
  have f : ∀ i, i ≠ 1 → i ≠ 2 → i ≠ 4 → (i < 29 ∨ 53 ≤ i) → B i = A i := fun i x y z w => e i (by unfold mkI; omega)
  have e0 : B 0 = A 0 := f 0 (by omega) (by omega) (by omega) (by omega)
  have e3 : B 3 = A 3 := f 3 (by omega) (by omega) (by omega) (by omega)
  refine ⟨gd_2 ok.1 (fun i hi x1 x2 x3 x4 => f i x1 x2 x4 (by omega)) b2, by rw [mM_cong (A := A) (fun j hj => f _ (by omega) (by omega) (by omega) (by omega))]; exact ok.2.1, b1, by rw [e3]; exact h3, b4, bn, bs, fun p hp => ?_, fun i hi => ?_, fun i hi => by rw [f _ (by omega) (by omega) (by omega) (by omega)]; exact ok.2.2.2.2.2.2.2.2.2 i hi⟩
  · rw [e0] at hp
    rw [f _ (by omega) (by omega) (by omega) (by omega)]; exact ok.2.2.2.2.2.2.2.1 p hp
  · rw [e3] at hi
    obtain ⟨a1, a2, a3, a4⟩ := ok.2.2.2.2.2.2.2.2.1 i hi
    have ep : pz B i = pz A i := by unfold pz; rw [f _ (by omega) (by omega) (by omega) (by omega)]
    have u : ∀ j, ¬ mkI j → j ≠ 3 → ud B i j = ud A i j := fun j hj hj3 => by
      rw [ud_at B i j (by omega) (by omega), ud_at A i j (by omega) g0.2, ep, e0]
      by_cases c1 : 1553 ≤ j ∧ j < 1583
      · rw [if_pos c1, if_pos c1]; exact f _ (by omega) (by omega) (by omega) (by omega)
      · rw [if_neg c1, if_neg c1]
        by_cases c2 : 19 + pz A i ≤ j ∧ (j : Int) < 19 + A 0
        · rw [if_pos c2, if_pos c2]; exact f _ (by omega) (by omega) (by omega) (by omega)
        · rw [if_neg c2, if_neg c2]
          by_cases c3 : 5 ≤ j ∧ j < 24
          · rw [if_pos c3, if_pos c3]; exact f _ (by omega) (by omega) (by omega) (by omega)
          · rw [if_neg c3, if_neg c3, if_neg hj3, if_neg hj3]; exact e j hj
    have u2 : ud B i 2 = B 2 := ud_lo B (by omega) (by omega) (by omega) (by omega) (by omega)
    refine ⟨by rw [e0, f _ (by omega) (by omega) (by omega) (by omega)]; exact a1, gd_2 a2 (fun j hj x1 x2 x3 x4 => u j (by unfold mkI; omega) x3) (by rw [u2]; exact b2), by rw [mM_cong (A := ud A i) (fun j hj => u _ (by unfold mkI; omega) (by omega))]; exact a3, fun k hk => by rw [u _ (by unfold mkI; omega) (by omega)]; exact a4 k hk⟩
/-- a clause done keeps the row good -/
theorem okR_nights {T : Nat → Int} {W V : wF} {c nt : Int} (hW : wOK T 100000 nt W) (hV : vOK T 100000 nt V) (hc : c ≤ 88000) : ∀ (n : Nat) (A F : Nat → Int), okR c nt A → okR c nt (mNi W V n A F).2.1 := by
  intro n
  induction n with
  | zero => intro A F ok; exact ok
  | succ n ih =>
    intro A F ok
    have h3 := ok.2.2.2.1
    have a5 := ok.1.2.2.2.2.2.1
    rw [mNi]
    by_cases q : A 5 = 9999
    · rw [if_pos q]; exact ok
    · rw [if_neg q]
      exact ih _ _ (okR_pass hW hV (okR_keep ok) hc (by rw [mKeep_o A h3.1 h3.2 (by omega)]; omega) F)
theorem okR_act {T : Nat → Int} {W V : wF} {c nt : Int} (hW : wOK T 100000 nt W) (hV : vOK T 100000 nt V) (hc : c ≤ 88000) {s v w : Int} (hcl : clV s v w) {A F : Nat → Int} (ok : okR c nt A) : okR (c + 2) nt (mAct W V s v w A F).2.1 := by
  have h3 := ok.2.2.2.1
  have up : okR c nt A → okR (c + 2) nt A := fun z => okR_mono z (by omega)
  have km : ∀ i, (i < 53 ∧ i ≠ 3) ∨ 1553 ≤ i → mKeep A i = A i := fun i hi => mKeep_o A h3.1 h3.2 hi
  by_cases s2 : s = 2
  · rw [mAct_2 W V s2]
    by_cases q : A 0 = 5
    · show okR _ _ (if A 0 = 5 then A else mPer A v)
      rw [if_pos q]; exact up ok
    · show okR _ _ (if A 0 = 5 then A else mPer A v)
      rw [if_neg q]
      have k := hcl.2.2.1 s2
      exact okR_mono (okR_per ok q k.1 k.2) (by omega)
  by_cases s3 : s = 3
  · rw [mAct_3 W V s3]
    have k := hcl.2.2.2.1 s3
    exact okR_mono (okR_kind ok (h := w.toNat) (by omega) k.1.1 (by omega)) (by omega)
  by_cases s4 : s = 4
  · rw [mAct_4 W V s4]
    have k := hcl.2.2.2.2.1 s4
    show okR _ _ (if A (11 + w).toNat + v ≤ 99 then va_up (mKeep A) (11 + w).toNat (mKeep A (11 + w).toNat + v) else A)
    by_cases q : A (11 + w).toNat + v ≤ 99
    · rw [if_pos q]
      rw [show (11 + w).toNat = 11 + w.toNat by omega] at q ⊢
      have kr := (kd_ran ok.1 (h := w.toNat) (by omega)).1
      have ek := km (11 + w.toNat) (by omega)
      exact okR_mono (okR_good (okR_keep ok) (h := w.toNat) (by omega) (by omega) (by omega)) (by omega)
    · rw [if_neg q]; exact up ok
  by_cases s5 : s = 5
  · rw [mAct_5 W V s5]
    have k := hcl.2.2.2.2.2.1 s5
    show okR _ _ (if wA W A v.toNat + 2 ≤ A (11 + v.toNat) then (mThank (mKeep A) F v.toNat).1 else A)
    by_cases q : wA W A v.toNat + 2 ≤ A (11 + v.toNat)
    · rw [if_pos q]
      have w9 := wOK_0 hW A (gd_mono ok.1 (by omega)) v.toNat (by omega)
      exact okR_thank (okR_keep ok) F (by omega) (by rw [km _ (by omega)]; omega)
    · rw [if_neg q]; exact up ok
  by_cases s6 : s = 6
  · rw [mAct_6 W V s6]
    show okR _ _ (if rdI W A = -1 then A else (mS W (mKeep A) F).2.1)
    by_cases q : rdI W A = -1
    · rw [if_pos q]; exact up ok
    · rw [if_neg q]; exact okR_mono (okR_settle hW (okR_keep ok) hc F) (by omega)
  by_cases s7 : s = 7
  · rw [mAct_7 W V s7]
    exact okR_mono (okR_nights hW hV hc _ _ _ ok) (by omega)
  · rw [mAct_0 W V ⟨s2, s3, s4, s5, s6, s7⟩]; exact up ok
