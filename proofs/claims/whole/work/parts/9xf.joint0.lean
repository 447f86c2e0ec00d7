/-! ===== class and model side by side: rows that agree ===== -/
/-- the same within the row -/
def eqR (A B : Nat → Int) : Prop := ∀ i, i < 1583 → B i = A i
theorem ud_cg {A B : Nat → Int} (e : eqR A B) (h5 : A 0 ≤ 5) {q : Nat} (hq : q < 30) {i : Nat} (hi : i < 1583) : ud B q i = ud A q i := by
  have e0 := e 0 (by decide)
  have ep : pz B q = pz A q := by unfold pz; rw [e (53 + 50 * q) (by omega)]
  rw [ud_at A q i hq h5, ud_at B q i hq (by rw [e0]; exact h5), ep, e0, e i hi]
  by_cases c1 : 1553 ≤ i ∧ i < 1583
  · rw [if_pos c1, if_pos c1, e _ (by omega)]
  · rw [if_neg c1, if_neg c1]
    by_cases c2 : 19 + pz A q ≤ i ∧ (i : Int) < 19 + A 0
    · rw [if_pos c2, if_pos c2, e _ (by omega)]
    · rw [if_neg c2, if_neg c2]
      by_cases c3 : 5 ≤ i ∧ i < 24
      · rw [if_pos c3, if_pos c3, e _ (by omega)]
      · rw [if_neg c3, if_neg c3]
theorem idx_lt {i : Nat} (h : idx i) : i < 1583 := by unfold idx at h; omega
theorem twR_cg {σ : gS} {p : Nat} {A B : Nat → Int} {c nt : Int} (ok : okR c nt A) (e : eqR A B) (h : twR σ p A) : twR σ p B := by
  obtain ⟨t1, t2, t3, t4, π, hπ, hin, hst⟩ := h
  have g := ok.1
  have e3 := e 3 (by decide)
  have e4 := e 4 (by decide)
  have a3 := ok.2.2.2.1
  have a4 := ok.2.2.2.2.1
  refine ⟨trS_cong t1 g.1.2 (fun _ => g.2.2.2.2.1.2) (fun i hi => e i (idx_lt hi)), ?_, fun h hh => ?_, fun i hi => ?_, π, hπ, hin, fun i hi => ?_⟩
  · rw [e3, e4, e 1 (by decide), e 2 (by decide)]; exact t2
  · rw [e _ (by omega)]; exact t3 h hh
  · rw [e4] at hi
    rw [e _ (by omega), e _ (by omega)]
    exact t4 i hi
  · rw [e3] at hi
    have u := ud_05 ok hi
    exact trS_cong (hst i hi) u.1 (fun _ => u.2) (fun j hj => ud_cg e g.1.2 (by omega) (idx_lt hj))
theorem gd_cg {c nt : Int} {A B : Nat → Int} (e : eqR A B) (g : gd c nt A) : gd c nt B := gd_ext g (fun i a _ _ _ _ => e i (by omega))
theorem mM_cg {A B : Nat → Int} (e : eqR A B) : mM B = mM A := mM_cong (fun j hj => e _ (by omega))
theorem okR_cg {c nt : Int} {A B : Nat → Int} (e : eqR A B) (ok : okR c nt A) : okR c nt B := by
  obtain ⟨g, m, a1, a3, a4, an, as, ap, ai, ab⟩ := ok
  have e0 := e 0 (by decide)
  have e3 := e 3 (by decide)
  have e4 := e 4 (by decide)
  refine ⟨gd_cg e g, by rw [mM_cg e]; exact m, by rw [e 1 (by decide)]; exact a1, by rw [e3]; exact a3, by rw [e4]; exact a4, fun h hh => by rw [e _ (by omega)]; exact an h hh, fun i hi => ?_, fun p hp => ?_, fun i hi => ?_, fun i hi => by rw [e _ (by omega)]; exact ab i hi⟩
  · rw [e4] at hi
    rw [e _ (by omega), e _ (by omega)]
    exact as i hi
  · rw [e0] at hp
    rw [e _ (by have := g.1.2; omega)]
    exact ap p hp
  · rw [e3] at hi
    have q : i < 30 := by omega
    have eu : eqR (ud A i) (ud B i) := fun k hk => ud_cg e g.1.2 q hk
    obtain ⟨b1, b2, b3, b4⟩ := ai i hi
    exact ⟨by rw [e _ (by omega), e0]; exact b1, gd_cg eu b2, by rw [mM_cg eu]; exact b3, fun k hk => by rw [eu _ (by omega)]; exact b4 k hk⟩
theorem clR_cg {σ : gS} {W V : wF} {A I A' I' : Nat → Int} {c nt : Int} (ok : okR c nt A) (oi : okR c (I 1) I) (e : eqR A A') (ei : eqR I I') (C : clR σ W V A I) : clR σ W V A' I' := ⟨twR_cg ok e C.1, twR_cg oi ei C.2.1, fun t a b => C.2.2.1 t a (by rw [← e 1 (by decide)]; exact b), C.2.2.2⟩
theorem eqR_cy (A S : Nat → Int) : eqR A (mCy A S 1583) := fun i hi => by unfold mCy; rw [if_pos hi]
/-! ===== years, scripts: what stays ===== -/
theorem okR_yr {T : Nat → Int} {W V : wF} {nt : Int} (hW : wOK T 100000 nt W) (hV : vOK T 100000 nt V) : ∀ (n : Nat) (A F : Nat → Int) (c : Int), okR c nt A → c + 2 * (n : Int) ≤ 87000 → 0 ≤ F 26 → okR (c + 2 * (n : Int)) nt (mYr W V n A F).1 ∧ fS F (mYr W V n A F).2 := by
  intro n
  induction n with
  | zero => intro A F c ok hc h26; exact ⟨by show okR (c + 2 * ((0 : Nat) : Int)) nt A; rw [show c + 2 * ((0 : Nat) : Int) = c by omega]; exact ok, fS_rf h26⟩
  | succ n ih =>
    intro A F c ok hc h26
    have g6 := ok.1.2.2.2.2.2.2.1
    have c8 := okR_80 ok
    have o1 := okR_x ok (mNew_ran g6.1).1 (mNew_ran g6.1).2
    have o2 := okR_hap hW hV o1 (by omega) (x := A 6) g6.1 (mHj_lt g6.1) F
    have h2 := (mHap_ok hW hV (x := A 6) g6.1 (mHj_lt g6.1) o1.1 (by omega) (by omega) h26).2.1
    obtain ⟨r1, r2⟩ := ih _ (mHap W V (A 6) (mHj (A 6)) (va_up A 6 (mNew (A 6))) F).2 (c + 2) o2 (by omega) h2.2
    rw [mYr]
    exact ⟨by rw [show c + 2 * ((n + 1 : Nat) : Int) = c + 2 + 2 * (n : Int) by omega]; exact r1, fS_tr h2 r2⟩
theorem okR_play {T : Nat → Int} {W V : wF} {nt : Int} (hW : wOK T 100000 nt W) (hV : vOK T 100000 nt V) {tx : Nat} : ∀ (f k : Nat) (A F : Nat → Int) (c : Int), (∀ i, k ≤ i → i < k + f → clV (T (681 * tx + 1 + 3 * i)) (T (681 * tx + 1 + 3 * i + 1)) (T (681 * tx + 1 + 3 * i + 2))) → okR c nt A → c + 2 * (f : Int) ≤ 87000 → 0 ≤ F 26 → okR (c + 2 * (f : Int)) nt (mPlay W V T tx f k A F).2.1 ∧ fS F (mPlay W V T tx f k A F).2.2 := by
  intro f
  induction f with
  | zero => intro k A F c _ ok hc h26; exact ⟨by show okR (c + 2 * ((0 : Nat) : Int)) nt A; rw [show c + 2 * ((0 : Nat) : Int) = c by omega]; exact ok, fS_rf h26⟩
  | succ f ih =>
    intro k A F c hcl ok hc h26
    have c8 := okR_80 ok
    have cl := hcl k (by omega) (by omega)
    have o2 := okR_act (F := F) hW hV (by omega) cl ok
    have h2 := (mAct_ok hW hV cl (F := F) ok.1 (by omega) (by omega) ok.2.2.2.1.1 ok.2.2.2.1.2 h26).2.2.1
    rw [mPlay]
    split
    · exact ⟨okR_mono o2 (by omega), h2⟩
    · obtain ⟨r1, r2⟩ := ih (k + 1) _ _ (c + 2) (fun i a b => hcl i (by omega) (by omega)) o2 (by omega) h2.2
      exact ⟨by rw [show c + 2 * ((f + 1 : Nat) : Int) = c + 2 + 2 * (f : Int) by omega]; exact r1, fS_tr h2 r2⟩
theorem mFr_ran {B : Nat → Int} (h : ∀ i, 0 ≤ B i ∧ B i < 256) (n : Nat) (v : Int) : ∀ i, 0 ≤ mFr B n v i ∧ mFr B n v i < 256 := by
  intro i
  unfold mFr
  have u : ∀ (f : Nat → Int) (k : Nat) (z : Int), (∀ i, 0 ≤ f i ∧ f i < 256) → ∀ i, 0 ≤ va_up f k (z % 256) i ∧ va_up f k (z % 256) i < 256 := fun f k z hf i => by
    by_cases q : i = k
    · rw [q, va_up_self]; omega
    · rw [va_up_ne _ _ q]; exact hf i
  exact u _ _ _ (u _ _ _ (u _ _ _ (u _ _ _ h))) i
theorem mFd_ran {B : Nat → Int} (h : ∀ i, 0 ≤ B i ∧ B i < 256) (n : Nat) (v1 v2 v3 v4 v5 : Int) : ∀ i, 0 ≤ mFd B n v1 v2 v3 v4 v5 i ∧ mFd B n v1 v2 v3 v4 v5 i < 256 := mFr_ran (mFr_ran (mFr_ran (mFr_ran (mFr_ran h _ _) _ _) _ _) _ _) _ _
