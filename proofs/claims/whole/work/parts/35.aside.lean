/-! ===== a state set aside: what is tried out on it ===== -/
theorem mTh_z (A F : Nat → Int) (h th : Nat) (hz : F 23 = 0) {i : Nat} (hi : i < 19 ∨ 24 ≤ i) : ∀ n, n ≤ 5 → (mTh A F h th n).1 i = A i := by
  intro n
  induction n with
  | zero => intro _; rfl
  | succ n ih =>
    intro hn
    simp only [mTh]
    split
    · simp only [mStep]
      rw [if_pos (by rw [mTh_F _ _ _ _ (by decide) (by decide)]; exact hz), va_up_ne _ _ (by omega)]
      exact ih (by omega)
    · exact ih (by omega)
theorem mThank_z (A F : Nat → Int) {h : Nat} (hh : h < 8) (hz : F 23 = 0) (h5 : A 0 ≤ 5) {i : Nat} (hi : i = 10 ∨ 24 ≤ i) : (mThank A F h).1 i = A i := by
  unfold mThank
  rw [mTh_z _ _ _ _ (by rw [va_up_ne _ _ (by decide)]; exact hz) (by omega) _ (by omega), mKd_ne _ hh (by omega) (by omega)]
theorem sett_z {W : wF} {c nt : Int} (hW : ∀ A, gd c nt A → ∀ h, h < 8 → 0 ≤ wA W A h) : ∀ (f : Nat) (A F : Nat → Int), gd c nt A → F 23 = 0 → ∀ i, i = 10 ∨ 24 ≤ i → (sett W f A F).2.1 i = A i := by
  intro f
  induction f with
  | zero => intro A F g hz i hi; rfl
  | succ f ih =>
    intro A F g hz i hi
    simp only [sett]
    by_cases e : rdI W A = -1
    · rw [if_pos e]
    · rw [if_neg e]
      obtain ⟨j, hj, ej, hw⟩ : ∃ j : Nat, j < 8 ∧ rdI W A = (j : Int) ∧ wA W A j + 2 ≤ A (11 + j) := by
        rcases rdI_spec (W := W) (A := A) with q | q
        · exact absurd q e
        · exact q
      rw [ej, show ((j : Int)).toNat = j from rfl]
      have hk := hW A g j hj
      have g' := gd_thank g F hj (by omega)
      rw [ih _ _ g' (by rw [mThank_F _ _ _ (by decide) (by decide) (by decide)]; exact hz) i hi]
      exact mThank_z A F hj hz g.1.2 hi
/-- rows that differ at most where a state is set aside -/
def agr (A B : Nat → Int) : Prop := ∀ i, ¬ (5 ≤ i ∧ i < 24) → B i = A i
theorem agr_rf (A : Nat → Int) : agr A A := fun _ _ => rfl
theorem agr_tr {A B C : Nat → Int} (h : agr A B) (h2 : agr B C) : agr A C := fun i hi => (h2 i hi).trans (h i hi)
theorem agr_up (A : Nat → Int) {i : Nat} (v : Int) (hi : 5 ≤ i ∧ i < 24) : agr A (va_up A i v) := fun j hj => va_up_ne _ _ (fun e => hj (by omega))
theorem agr_mS {T : Nat → Int} {W : wF} {c nt : Int} (hW : wOK T c nt W) {A F : Nat → Int} (g : gd c nt A) (hz : F 23 = 0) : agr A (mS W A F).2.1 := fun i hi => by
  by_cases q : i < 5
  · exact mS_lo hW g (by omega)
  · exact sett_z (wOK_0 hW) _ _ _ g (by rw [va_up_ne _ _ (by decide), va_up_ne _ _ (by decide)]; exact hz) i (by omega)
theorem mS_10 {T : Nat → Int} {W : wF} {c nt : Int} (hW : wOK T c nt W) {A F : Nat → Int} (g : gd c nt A) (hz : F 23 = 0) : (mS W A F).2.1 10 = A 10 := sett_z (wOK_0 hW) _ _ _ g (by rw [va_up_ne _ _ (by decide), va_up_ne _ _ (by decide)]; exact hz) 10 (by omega)
theorem agr_pass {T : Nat → Int} {W V : wF} {nt : Int} (hW : wOK T 100000 nt W) (hV : vOK T 100000 nt V) {A : Nat → Int} (g : gd 90000 nt A) {F : Nat → Int} (hz : F 23 = 0) : agr A (mPass W V A F).1 := by
  have g1 := gd_mono (gd_mPD hV (gd_mPC g) (by decide) (mPH_lt g)) (show (90000 : Int) + 9 ≤ 100000 by decide)
  have hj := mPH_lt g
  have a1 : agr A (mPC A) := agr_tr (agr_tr (agr_up _ _ (by omega)) (agr_up _ _ (by omega))) (agr_up _ _ (by omega))
  have a2 : agr (mPC A) (mPD V (mPC A) (mPH A)) := by
    unfold mPD
    split
    · exact agr_up _ _ (by omega)
    · exact agr_rf _
  exact agr_tr (agr_tr a1 a2) (agr_tr (agr_mS (F := F) hW g1 hz) (agr_tr (agr_up _ _ (by omega)) (agr_up _ _ (by omega))))
theorem pbk {σ σ2 : gS} {A B S : Nat → Int} (hE : eqS (sRw σ 393 (mAs A S 24)) σ2) (ha : agr A B) : mAs (σ2.2.1 393) B 24 = A := by
  have e : σ2.2.1 393 = mAs A S 24 := (hE.2.1 393 (by decide) (by decide)).trans (va_up_self σ.2.1 393 (mAs A S 24))
  rw [e]
  funext i
  unfold mAs
  by_cases q : 5 ≤ i ∧ i < 24
  · rw [if_pos q, if_pos q]
  · rw [if_neg q]; exact ha i q
/-- fields of no matter: all 0 -/
def zF : Nat → Int := fun _ => 0
/-- alike for settling -/
def fQ (F G : Nat → Int) : Prop := F 23 = G 23 ∧ F 25 = G 25 ∧ F 26 = G 26
theorem mTh_q (A : Nat → Int) (h th : Nat) {F G : Nat → Int} (q : fQ F G) : ∀ n, (mTh A F h th n).1 = (mTh A G h th n).1 ∧ fQ (mTh A F h th n).2 (mTh A G h th n).2 := by
  intro n
  induction n with
  | zero => exact ⟨rfl, q⟩
  | succ n ih =>
    simp only [mTh]
    split
    · simp only [mStep]
      rw [ih.1, ih.2.1]
      refine ⟨rfl, ?_, ?_, ?_⟩
      · show (mTh A F h th n).2 23 = (mTh A G h th n).2 23
        exact ih.2.1
      · show (mTh A F h th n).2 25 + 1 = (mTh A G h th n).2 25 + 1
        rw [ih.2.2.1]
      · show (mTh A F h th n).2 26 = (mTh A G h th n).2 26
        exact ih.2.2.2
    · exact ih
theorem mThank_q (A : Nat → Int) (h : Nat) {F G : Nat → Int} (q : fQ F G) : (mThank A F h).1 = (mThank A G h).1 ∧ fQ (mThank A F h).2 (mThank A G h).2 := by
  unfold mThank
  exact mTh_q _ _ _ (F := va_up F 26 (((F 26).toNat ||| 2 ^ h : Nat) : Int)) (G := va_up G 26 (((G 26).toNat ||| 2 ^ h : Nat) : Int)) ⟨q.1, q.2.1, by show (((F 26).toNat ||| 2 ^ h : Nat) : Int) = (((G 26).toNat ||| 2 ^ h : Nat) : Int); rw [q.2.2]⟩ _
theorem sett_q {W : wF} : ∀ (f : Nat) (A F G : Nat → Int), fQ F G → (sett W f A F).1 = (sett W f A G).1 ∧ (sett W f A F).2.1 = (sett W f A G).2.1 ∧ fQ (sett W f A F).2.2 (sett W f A G).2.2 := by
  intro f
  induction f with
  | zero => intro A F G q; exact ⟨rfl, rfl, q⟩
  | succ f ih =>
    intro A F G q
    simp only [sett]
    split
    · exact ⟨rfl, rfl, q⟩
    · have e := mThank_q A (rdI W A).toNat q
      rw [← e.1]
      obtain ⟨a, b, c⟩ := ih (mThank A F (rdI W A).toNat).1 _ _ e.2
      exact ⟨by rw [a], b, c⟩
theorem mS_q {W : wF} (A : Nat → Int) {F G : Nat → Int} (h : F 23 = G 23) : (mS W A F).1 = (mS W A G).1 ∧ (mS W A F).2.1 = (mS W A G).2.1 ∧ fQ (mS W A F).2.2 (mS W A G).2.2 := sett_q _ _ _ _ ⟨h, rfl, rfl⟩
/-- at rest (no book): the row, how often thanked, who was thanked, how many moved -/
noncomputable def rA (W : wF) (A : Nat → Int) : Nat → Int := (mS W A zF).2.1
noncomputable def rL (W : wF) (A : Nat → Int) : List Nat := (mS W A zF).1
noncomputable def rT (W : wF) (A : Nat → Int) : Int := (mS W A zF).2.2 26
noncomputable def rM (W : wF) (A : Nat → Int) : Int := (mS W A zF).2.2 25
theorem rS {W : wF} (A : Nat → Int) {F : Nat → Int} (h : F 23 = 0) : (mS W A F).1 = rL W A ∧ (mS W A F).2.1 = rA W A ∧ (mS W A F).2.2 26 = rT W A ∧ (mS W A F).2.2 25 = rM W A := by
  have q := mS_q (W := W) A (F := F) (G := zF) h
  exact ⟨q.1, q.2.1, q.2.2.2.2, q.2.2.2.1⟩
theorem gd_rA {T : Nat → Int} {W : wF} {nt : Int} (hW : wOK T 100000 nt W) {A : Nat → Int} (g : gd 100000 nt A) : gd 80 nt (rA W A) := by
  have q := mS_ok (F := zF) (Int.le_refl _) hW g
  exact (gd_rest hW q.1 q.2.1).1
theorem gd_inc {c nt : Int} {A : Nat → Int} (g : gd c nt A) {h : Nat} (hh : h < 8) : gd (c + 1) nt (va_up A (11 + h) (A (11 + h) + 1)) := by
  have k := kd_ran g hh
  exact gd_kind g hh (by omega) (by omega)
theorem rL_len {T : Nat → Int} {W : wF} {nt : Int} (hW : wOK T 100000 nt W) {A : Nat → Int} (g : gd 100000 nt A) : (rL W A).length ≤ 1000000 := by
  have q := (mS_ok (F := zF) (Int.le_refl _) hW g).2.2
  unfold rL
  omega
theorem rT_0 {W : wF} {A : Nat → Int} : 0 ≤ rT W A := mS_26
/-- a set of houses -/
theorem sett_26b {W : wF} : ∀ (f : Nat) (A F : Nat → Int), 0 ≤ F 26 → F 26 < 256 → 0 ≤ (sett W f A F).2.2 26 ∧ (sett W f A F).2.2 26 < 256 := by
  intro f
  induction f with
  | zero => intro A F h h2; exact ⟨h, h2⟩
  | succ f ih =>
    intro A F h h2
    simp only [sett]
    by_cases e : rdI W A = -1
    · rw [if_pos e]; exact ⟨h, h2⟩
    · rw [if_neg e]
      refine ih _ _ (by rw [mThank_26]; exact Int.natCast_nonneg _) ?_
      rw [mThank_26]
      obtain ⟨j, hj, ej, hw⟩ : ∃ j : Nat, j < 8 ∧ rdI W A = (j : Int) ∧ wA W A j + 2 ≤ A (11 + j) := by
        rcases rdI_spec (W := W) (A := A) with q | q
        · exact absurd q e
        · exact q
      rw [ej, Int.toNat_natCast]
      have a : (F 26).toNat ||| 2 ^ j < 2 ^ 8 := Nat.or_lt_two_pow (by omega) (Nat.pow_lt_pow_right (by decide) hj)
      omega
theorem rT_lt {W : wF} {A : Nat → Int} : rT W A < 256 := (sett_26b _ _ _ (by show (0 : Int) ≤ 0; decide) (by show (0 : Int) < 256; decide)).2
