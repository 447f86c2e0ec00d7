/-! ===== feed, end, image, back, text: class and model side by side ===== -/
def loQ (a : Nat) : Prop := (328 ≤ a ∧ a < 334) ∨ 384 ≤ a
theorem clR_lo {σ σ1 : gS} {W V : wF} {A I : Nat → Int} (h3 : A 3 ≤ 30) (i3 : I 3 ≤ 30) (C : clR σ W V A I) (h : chg loQ σ σ1) : clR σ1 W V A I := by
  refine ⟨twR_ch C.1 h (fun a x y => by unfold loQ; omega) h3, twR_ch C.2.1 h (fun a x y => by unfold loQ; omega) i3, fun t h1 h2 => lawR_ch (C.2.2.1 t h1 h2) h (fun a x y => by unfold loQ; omega), fun i hi => ?_, fun i hi => ?_⟩
  · rw [(h.1 321 (by unfold loQ; omega)).2.2.1]; exact C.2.2.2.1 i hi
  · rw [(h.1 334 (by unfold loQ; omega)).2.2.1]; exact C.2.2.2.2 i hi
theorem scN_lo {σ σ1 : gS} {T : Nat → Int} {x tx N : Nat} (h : scN σ T x tx N) (c : chg loQ σ σ1) : scN σ1 T x tx N := scN_ch h c (fun a x y => by unfold loQ; omega)
def tpP (a : Nat) : Prop := a = 328 ∨ a = 329 ∨ a = 384 ∨ a = 388
/-- another tape -/
theorem J_tape {τ σ2 : gS} {W V : wF} {c : Int} (J : JM τ W V c ∧ JC τ W V) (ch : chg tpP τ σ2) (h4 : σ2.1 328 1 = σ2.1 384 4) (hr : 0 ≤ σ2.1 384 4 ∧ σ2.1 384 4 ≤ 300) (hF : ∀ j, j ≠ 4 → σ2.1 384 j = τ.1 384 j) (hb : σ2.2.1 329 = σ2.2.1 388) (hbr : ∀ i, 0 ≤ σ2.2.1 388 i ∧ σ2.2.1 388 i < 256) : JJ σ2 (c + 80) := by
  obtain ⟨j1, j2, j3, ⟨j23, j26, j4, j10⟩, jw, jt, j73, jb⟩ := J.1
  obtain ⟨k1, k2, ⟨k4, kb⟩, ⟨k5, k6⟩, kr, kT0⟩ := J.2
  have chl : chg loQ τ σ2 := chg_mono ch (fun a q => by unfold tpP at q; unfold loQ; omega)
  have e5 : σ2.2.1 385 = τ.2.1 385 := (ch.1 385 (by unfold tpP; omega)).2.1
  have e6 : σ2.2.1 386 = τ.2.1 386 := (ch.1 386 (by unfold tpP; omega)).2.1
  have e7 : σ2.2.1 387 = τ.2.1 387 := (ch.1 387 (by unfold tpP; omega)).2.1
  have e3 : σ2.1 333 = τ.1 333 := (ch.1 333 (by unfold tpP; omega)).1
  have ew : σ2.2.2.2.1 = τ.2.2.2.1 := ch.2
  refine ⟨W, V, ⟨?_, ?_, ?_, ?_, ?_, ?_, ?_, hbr⟩, ⟨?_, ?_, ⟨h4, hb⟩, ⟨?_, ?_⟩, ?_, ?_⟩⟩
  · rw [e5]; exact okR_mono j1 (by omega)
  · rw [e6]; exact okR_mono j2 (by omega)
  · rw [e5, e6]; exact j3
  · rw [hF 23 (by decide), hF 26 (by decide), hF 10 (by decide)]; exact ⟨j23, j26, hr, j10⟩
  · rw [ew]; exact jw
  · rw [e5, e7]; exact jt
  · rw [e7]; exact j73
  · rw [e5, e6]; exact clR_lo j1.2.2.2.1.2 j2.2.2.2.1.2 k1 chl
  · rw [e5, e7]
    intro tx ht
    obtain ⟨N, sc⟩ := k2 tx ht
    exact ⟨N, scN_lo sc chl⟩
  · rw [e3, hF 5 (by decide)]; exact k5
  · rw [e3, hF 6 (by decide)]; exact k6
  · intro tx ht
    rw [(ch.1 (340 + 6 * tx + 1) (by unfold tpP; omega)).2.1, (ch.1 (340 + 6 * tx) (by unfold tpP; omega)).1]
    exact kr tx ht
  · rw [(ch.1 333 (by unfold tpP; omega)).2.2.1]
    exact kT0
theorem tpS_o1 (σ : gS) (B : Nat → Int) (n : Int) {a : Nat} (h : a ≠ 328) : (tpS σ B n).1 a = σ.1 a := up2_ne (a := 328) (x := a) (sRw σ 329 B).1 1 n h
theorem tpS_o2 (σ : gS) (B : Nat → Int) (n : Int) {a : Nat} (h : a ≠ 329) : (tpS σ B n).2.1 a = σ.2.1 a := by
  show va_up σ.2.1 329 B a = _
  exact va_up_ne _ _ h
theorem sRw_self (σ : gS) (a : Nat) : sRw σ a (σ.2.1 a) = σ := by
  have e : va_up σ.2.1 a (σ.2.1 a) = σ.2.1 := by
    funext x; by_cases h : x = a
    · subst h; exact va_up_self _ _ _
    · exact va_up_ne _ _ h
  unfold sRw
  rw [e]
theorem J_self {τ : gS} {W V : wF} {c : Int} (J : JM τ W V c ∧ JC τ W V) : JJ τ (c + 80) := J_tape J (chg_rf _ _) J.2.2.2.1.1 J.1.2.2.2.1.2.2.1 (fun _ _ => rfl) J.2.2.2.1.2 J.1.2.2.2.2.2.2.2
theorem j_end {d : Nat} {τ : gS} {W V : wF} {c : Int} (hd : 100 ≤ d) (J : JM τ W V c ∧ JC τ W V) {a1 : Int} (r1 : inR a1) : jP mX6_end mX7_end d [.int (iZ a1)] τ (c + 80) := by
  have f4 := J.1.2.2.2.1.2.2.1
  have i4 : inR (τ.1 384 4) := by unfold inR; omega
  refine sC_imp ?_ (x_end (d := d) r1 τ J.2.2.2.1.1 i4)
  rintro r σ1 ⟨e1, e2⟩
  refine ⟨_, e1, ?_⟩
  by_cases q : 0 ≤ a1 ∧ a1 ≤ τ.1 384 4
  · rw [if_pos q] at e2 ⊢
    subst e2
    have m := m_end (d := d) (by omega) r1 (sI τ 328 1 a1) (τ.2.1 385) (τ.1 384) i4
    rw [if_pos q, if_pos q] at m
    have es : ms (sI τ 328 1 a1) (τ.2.1 385) (τ.1 384) = sI τ 328 1 a1 := by
      have h := ms_self (sI τ 328 1 a1)
      rw [show (sI τ 328 1 a1).1 384 = τ.1 384 from up2_ne (a := 328) (x := 384) τ.1 1 a1 (by decide)] at h
      exact h
    rw [es] at m
    refine sC_imp ?_ m
    rintro r2 σ2 ⟨f1, f2⟩
    refine ⟨f1, ?_⟩
    have ms1 := ms_1 (sI τ 328 1 a1) (τ.2.1 385) (va_up (τ.1 384) 4 a1)
    rw [f2]
    have h328 : (ms (sI τ 328 1 a1) (τ.2.1 385) (va_up (τ.1 384) 4 a1)).1 328 1 = a1 := by rw [ms1.2.2.1 328 (by decide)]; exact up2_at τ.1 328 1 a1
    refine J_tape J ⟨fun a h => ?_, by rw [ms1.2.2.2.2]; rfl⟩ ?_ ?_ ?_ ?_ ?_
    · have h1 : a ≠ 328 := fun z => h (Or.inl z)
      have h3 : a ≠ 384 := fun z => h (Or.inr (Or.inr (Or.inl z)))
      refine ⟨by rw [ms1.2.2.1 a h3]; exact up2_ne _ _ _ h1, ?_, by rw [ms1.2.2.2.2]; rfl, by rw [ms1.2.2.2.2]; rfl⟩
      by_cases z : a = 385
      · rw [z, ms1.2.1]
      · rw [ms1.2.2.2.1 a z]; rfl
    · rw [h328, ms1.1, va_up_self]
    · rw [ms1.1, va_up_self]; omega
    · intro j hj; rw [ms1.1, va_up_ne _ _ hj]
    · rw [ms1.2.2.2.1 329 (by decide), ms1.2.2.2.1 388 (by decide)]; exact J.2.2.2.1.2
    · rw [ms1.2.2.2.1 388 (by decide)]; exact J.1.2.2.2.2.2.2.2
  · rw [if_neg q] at e2 ⊢
    subst e2
    have m := m_end (d := d) (by omega) r1 σ1 (σ1.2.1 385) (σ1.1 384) i4
    rw [if_neg q, if_neg q, ms_self] at m
    refine sC_imp ?_ m
    rintro r2 σ2 ⟨f1, f2⟩
    subst f2
    exact ⟨f1, J_self J⟩
theorem j_feed {d : Nat} {τ : gS} {W V : wF} {c : Int} (hd : 100 ≤ d) (J : JM τ W V c ∧ JC τ W V) {a1 a2 a3 a4 a5 : Int} (r1 : inR a1) (r2 : inR a2) (r3 : inR a3) (r4 : inR a4) (r5 : inR a5) : jP mX6_feed mX7_feed d [.int (iZ a1), .int (iZ a2), .int (iZ a3), .int (iZ a4), .int (iZ a5)] τ (c + 80) := by
  have f4 := J.1.2.2.2.1.2.2.1
  obtain ⟨n, en⟩ : ∃ n : Nat, τ.1 384 4 = (n : Int) := ⟨(τ.1 384 4).toNat, by omega⟩
  refine sC_imp ?_ (x_feed (d := d) (n := n) (by omega) r1 r2 r3 r4 r5 τ (J.2.2.2.1.1.trans en) (by omega))
  rintro r σ1 ⟨e1, e2⟩
  refine ⟨_, e1, ?_⟩
  by_cases q : (n : Int) + 20 ≤ 300
  · rw [if_pos q] at e2 ⊢
    have t4 : σ1.1 384 = τ.1 384 := by rw [e2]; exact tpS_o1 _ _ _ (by decide)
    have t5 : σ1.2.1 385 = τ.2.1 385 := by rw [e2]; exact tpS_o2 _ _ _ (by decide)
    have t8 : σ1.2.1 388 = τ.2.1 388 := by rw [e2]; exact tpS_o2 _ _ _ (by decide)
    have m := m_feed (d := d) (n := n) (by omega) r1 r2 r3 r4 r5 σ1 (σ1.2.1 385) (σ1.1 384) (σ1.2.1 388) (by rw [t4]; exact en) (by omega)
    rw [if_pos q, if_pos q, if_pos q, sRw_self, ms_self] at m
    refine sC_imp ?_ m
    rintro r2 σ2 ⟨f1, f2⟩
    refine ⟨f1, ?_⟩
    rw [f2]
    have ms1 := ms_1 (sRw σ1 388 (mFd (σ1.2.1 388) n a1 a2 a3 a4 a5)) (σ1.2.1 385) (va_up (σ1.1 384) 4 ((n : Int) + 20))
    have s8 : (sRw σ1 388 (mFd (σ1.2.1 388) n a1 a2 a3 a4 a5)).2.1 388 = mFd (τ.2.1 388) n a1 a2 a3 a4 a5 := by
      rw [t8]
      show va_up σ1.2.1 388 (mFd (τ.2.1 388) n a1 a2 a3 a4 a5) 388 = _
      exact va_up_self _ _ _
    have s9 : (sRw σ1 388 (mFd (σ1.2.1 388) n a1 a2 a3 a4 a5)).2.1 329 = mFd (τ.2.1 388) n a1 a2 a3 a4 a5 := by
      show va_up σ1.2.1 388 (mFd (σ1.2.1 388) n a1 a2 a3 a4 a5) 329 = _
      rw [va_up_ne _ _ (by decide), e2, tpS_2, J.2.2.2.1.2]
    refine J_tape J ⟨fun a h => ?_, ?_⟩ ?_ ?_ ?_ ?_ ?_
    · have h1 : a ≠ 328 := fun z => h (Or.inl z)
      have h2 : a ≠ 329 := fun z => h (Or.inr (Or.inl z))
      have h3 : a ≠ 384 := fun z => h (Or.inr (Or.inr (Or.inl z)))
      have h4 : a ≠ 388 := fun z => h (Or.inr (Or.inr (Or.inr z)))
      refine ⟨?_, ?_, by rw [ms1.2.2.2.2, e2]; rfl, by rw [ms1.2.2.2.2, e2]; rfl⟩
      · rw [ms1.2.2.1 a h3, e2]; exact tpS_o1 _ _ _ h1
      · by_cases z : a = 385
        · rw [z, ms1.2.1, t5]
        · rw [ms1.2.2.2.1 a z]
          show va_up σ1.2.1 388 (mFd (σ1.2.1 388) n a1 a2 a3 a4 a5) a = _
          rw [va_up_ne _ _ h4, e2]
          exact tpS_o2 _ _ _ h2
    · rw [ms1.2.2.2.2, e2]; rfl
    · rw [ms1.2.2.1 328 (by decide), ms1.1, va_up_self]
      show σ1.1 328 1 = _
      rw [e2]; exact tpS_1 _ _ _
    · rw [ms1.1, va_up_self]; omega
    · intro j hj; rw [ms1.1, va_up_ne _ _ hj, t4]
    · rw [ms1.2.2.2.1 329 (by decide), ms1.2.2.2.1 388 (by decide), s8, s9]
    · rw [ms1.2.2.2.1 388 (by decide), s8]; exact mFd_ran J.1.2.2.2.2.2.2.2 _ _ _ _ _ _
  · rw [if_neg q] at e2 ⊢
    subst e2
    have m := m_feed (d := d) (n := n) (by omega) r1 r2 r3 r4 r5 σ1 (σ1.2.1 385) (σ1.1 384) (σ1.2.1 388) en (by omega)
    rw [if_neg q, if_neg q, if_neg q, sRw_self, ms_self] at m
    refine sC_imp ?_ m
    rintro r2 σ2 ⟨f1, f2⟩
    subst f2
    exact ⟨f1, J_self J⟩
