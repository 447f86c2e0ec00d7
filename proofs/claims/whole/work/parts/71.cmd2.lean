/-! ===== rows behind commands hold together ===== -/
theorem bk_write {A : Nat → Int} (b : bk30 A) (h5 : 0 ≤ A 5 ∧ A 5 ≤ 9999) (h10 : 0 ≤ A 10 ∧ A 10 ≤ 30) {p hs : Int} (hp : 0 ≤ p ∧ p < 5) (hh : -1 ≤ hs ∧ hs ≤ 7) : bk30 (mWrite A p hs) := by
  intro i hi
  unfold mWrite
  by_cases c : A 10 = 30
  · have e10 : va_up (mSh A 30) 10 (mSh A 30 10 - 1) 10 = 29 := by rw [va_up_self, mSh_lo A 30 (by decide), c]; rfl
    have e5 : va_up (mSh A 30) 10 (mSh A 30 10 - 1) 5 = A 5 := by rw [va_up_ne _ _ (by decide), mSh_lo A 30 (by decide)]
    rw [if_pos c, mWr_bk _ _ _ (by rw [e10]; decide), e10, e5]
    split
    · unfold inR; omega
    · rw [va_up_ne _ _ (by omega)]
      unfold mSh
      split
      · rw [show 1553 + i + 1 = 1553 + (i + 1) by omega]; exact b _ (by omega)
      · exact b i hi
  · rw [if_neg c, mWr_bk _ _ _ h10.1]
    split
    · unfold inR; omega
    · exact b i hi
theorem bk_thank {c nt : Int} {A : Nat → Int} (g : gd c nt A) (F : Nat → Int) {h : Nat} (hh : h < 8) (b : bk30 A) : bk30 (mThank A F h).1 := by
  have a5 := g.2.2.2.2.2.1
  have a10 := g.2.2.2.2.1
  have e5 : mKd A h 5 = A 5 := mKd_ne A hh (by decide) (by decide)
  have e10 : mKd A h 10 = A 10 := mKd_ne A hh (by decide) (by decide)
  have b1 : bk30 (mKd A h) := fun i hi => by rw [mKd_ne A hh (by omega) (by omega)]; exact b i hi
  have g0 := g.1
  have k : ∀ (th n : Nat) (F1 : Nat → Int), n ≤ 5 → bk30 (mTh (mKd A h) F1 h th n).1 := by
    intro th n F1
    induction n with
    | zero => intro _; exact b1
    | succ n ih =>
      intro hn
      have i9 := ih (by omega)
      have q5 : (mTh (mKd A h) F1 h th n).1 5 = mKd A h 5 := mTh_lo _ F1 h th (by omega) (by omega) (by decide) (by decide) n
      have q10 := mTh_10 (mKd A h) F1 h th (by omega) (by omega) n
      simp only [mTh]
      split
      · simp only [mStep]
        have bu : bk30 (va_up (mTh (mKd A h) F1 h th n).1 (19 + n) (mMv h)) := fun i hi => by rw [va_up_ne _ _ (by omega)]; exact i9 i hi
        split
        · exact bu
        · exact bk_write bu (by rw [va_up_ne _ _ (by omega)]; omega) (by rw [va_up_ne _ _ (by omega)]; exact q10) (by omega) (by unfold mMv; split <;> omega)
      · exact i9
  exact k _ _ _ (by omega)
theorem bk_sett {T : Nat → Int} {W : wF} {nt : Int} (hW : wOK T 100000 nt W) : ∀ (f : Nat) (A F : Nat → Int), gd 100000 nt A → bk30 A → bk30 (sett W f A F).2.1 := by
  intro f
  induction f with
  | zero => intro A F g b; exact b
  | succ f ih =>
    intro A F g b
    simp only [sett]
    split
    · exact b
    · rename_i hr
      obtain ⟨j, hj, ej, hw⟩ := (rdI_spec (W := W) (A := A)).resolve_left hr
      rw [ej, Int.toNat_natCast]
      have w9 := wOK_0 hW A g j hj
      exact ih _ _ (gd_thank g F hj (by omega)) (bk_thank g F hj b)
theorem okR_80 {c nt : Int} {A : Nat → Int} (ok : okR c nt A) : 792 ≤ c := Int.le_trans (mM_792 A) ok.2.1
theorem okR_settle {T : Nat → Int} {W : wF} {c nt : Int} (hW : wOK T 100000 nt W) {A : Nat → Int} (ok : okR c nt A) (hc : c ≤ 88000) (F : Nat → Int) : okR c nt (mS W A F).2.1 := by
  have gL : gd 100000 nt A := gd_mono ok.1 (by omega)
  have k := mS_ok (F := F) (Int.le_refl _) hW gL
  have r := gd_rest hW k.1 k.2.1
  have c8 := okR_80 ok
  refine okR_now ok (fun i hi => mS_lo hW gL (by unfold nonI at hi; omega)) (gd_mono r.1 (by omega)) (by rw [mM_rest (fun j hj => by have := r.2 j hj; omega)]; exact c8) (Int.le_refl _) (bk_sett hW _ _ _ gL ok.2.2.2.2.2.2.2.2.2)
theorem mM_up {A : Nat → Int} {i : Nat} (hi : i < 11 ∨ 19 ≤ i) (v : Int) : mM (va_up A i v) = mM A := mM_cong (fun j hj => va_up_ne _ _ (by omega))
theorem okR_thank {c nt : Int} {A : Nat → Int} (ok : okR c nt A) (F : Nat → Int) {h : Nat} (hh : h < 8) (h2 : 2 ≤ A (11 + h)) : okR (c + 2) nt (mThank A F h).1 := by
  have g := ok.1
  have a0 := g.2.2.2.2.1
  refine okR_now ok (fun i hi => ?_) (gd_mono (gd_thank g F hh h2) (by omega)) (by have := mM_thank g F hh; have := ok.2.1; omega) (by omega) (bk_thank g F hh ok.2.2.2.2.2.2.2.2.2)
  unfold nonI at hi
  by_cases q : i < 11
  · exact mThank_lo A F hh a0.1 a0.2 q (by omega) (by omega)
  · exact mThank_mid A F hh a0.1 a0.2 g.1.2 (by omega) (by omega)
theorem okR_good {c nt : Int} {A : Nat → Int} (ok : okR c nt A) {h : Nat} (hh : h < 8) {v : Int} (h0 : 0 ≤ v) (h9 : v ≤ 99) : okR c nt (va_up A (11 + h) v) := by
  have m := mM_kind A hh h9
  have ms := mM_ge (va_up A (11 + h) v)
  refine okR_now ok (fun i hi => va_up_ne _ _ (by unfold nonI at hi; omega)) ?_ (Int.le_trans m ok.2.1) (Int.le_refl _) (fun i hi => by rw [va_up_ne _ _ (by omega)]; exact ok.2.2.2.2.2.2.2.2.2 i hi)
  have q := gd_kind (c' := c + 99) ok.1 hh h0 (by have := (kd_ran ok.1 hh).1; omega)
  exact ⟨q.1, q.2.1, q.2.2.1, by have := ok.2.1; omega, q.2.2.2.2⟩
theorem okR_pass {T : Nat → Int} {W V : wF} {c nt : Int} (hW : wOK T 100000 nt W) (hV : vOK T 100000 nt V) {A : Nat → Int} (ok : okR c nt A) (hc : c ≤ 88000) (h5 : A 5 < 9999) (F : Nat → Int) : okR c nt (mPass W V A F).1 := by
  have g9 : gd 90000 nt A := gd_mono ok.1 (by omega)
  have gp := gd_pass hW hV g9 h5 F
  have c8 := okR_80 ok
  have gC := gd_mPC g9
  have hj := mPH_lt g9
  have gD := gd_mPD hV gC (show (90000 : Int) + 9 ≤ 100000 by decide) hj
  have gD : gd 100000 nt (mPD V (mPC A) (mPH A)) := gd_mono gD (by decide)
  have k := mS_ok (F := F) (Int.le_refl _) hW gD
  have r := gd_rest hW k.1 k.2.1
  refine okR_now ok (fun i hi => mPass_o hW hV g9 F (by unfold nonI at hi; omega)) (gd_mono gp (by omega)) ?_ (Int.le_refl _) ?_
  · unfold mPass mPE
    rw [mM_up (by omega), mM_up (by omega), mM_rest (fun j hj => by have := r.2 j hj; omega)]
    exact c8
  · intro i hi
    show inR (va_up (va_up (mS W (mPD V (mPC A) (mPH A)) F).2.1 9 ((mS W (mPD V (mPC A) (mPH A)) F).1.length : Int)) 5 ((mS W (mPD V (mPC A) (mPH A)) F).2.1 5 + 1) (1553 + i))
    rw [va_up_ne _ _ (by omega), va_up_ne _ _ (by omega)]
    have bC : bk30 (mPC A) := fun i hi => by
      unfold mPC
      rw [va_up_ne _ _ (by omega), va_up_ne _ _ (by omega), va_up_ne _ _ (by omega)]
      exact ok.2.2.2.2.2.2.2.2.2 i hi
    refine bk_sett hW _ _ _ gD (fun i hi => ?_) i hi
    unfold mPD
    split
    · rw [va_up_ne _ _ (by omega)]; exact bC i hi
    · exact bC i hi
theorem okR_x {c nt : Int} {A : Nat → Int} (ok : okR c nt A) {v : Int} (h0 : 0 ≤ v) (h4 : v ≤ 40000) : okR c nt (va_up A 6 v) :=
  okR_now ok (fun i hi => va_up_ne _ _ (by unfold nonI at hi; omega)) (gd_up ok.1 (Or.inl ⟨rfl, h0, h4⟩)) (by rw [mM_up (by omega)]; exact ok.2.1) (Int.le_refl _) (fun i hi => by rw [va_up_ne _ _ (by omega)]; exact ok.2.2.2.2.2.2.2.2.2 i hi)
theorem okR_mono {c c' nt : Int} {A : Nat → Int} (ok : okR c nt A) (h : c ≤ c') : okR c' nt A := okR_now ok (fun _ _ => rfl) (gd_mono ok.1 h) (Int.le_trans ok.2.1 h) h ok.2.2.2.2.2.2.2.2.2
theorem okR_hap {T : Nat → Int} {W V : wF} {c nt : Int} (hW : wOK T 100000 nt W) (hV : vOK T 100000 nt V) {A : Nat → Int} (ok : okR c nt A) (hc : c ≤ 87000) {x : Int} (hx : 0 ≤ x) {j : Nat} (hj : j < 8) (F : Nat → Int) : okR (c + 2) nt (mHap W V x j A F).1 := by
  have y3 := tmod_ran hx (show (0 : Int) < 3 by decide)
  have kr := kd_ran ok.1 hj
  unfold mHap
  split
  · split
    · exact okR_mono (okR_good ok hj (by omega) (by omega)) (by omega)
    · exact okR_mono ok (by omega)
  · split
    · split
      · rename_i hw
        have w9 := wOK_0 hW A (gd_mono ok.1 (by omega)) j hj
        exact okR_thank ok F hj (by omega)
      · exact okR_mono ok (by omega)
    · split
      · exact okR_mono (okR_settle hW ok (by omega) F) (by omega)
      · split
        · exact okR_mono (okR_pass hW hV ok (by omega) (by assumption) F) (by omega)
        · exact okR_mono ok (by omega)
