/-! ===== image, back: class and model side by side ===== -/
theorem j_image {d : Nat} {τ : gS} {W V : wF} {c : Int} (hd : 100 ≤ d) (hc : c ≤ 45000) (J : JM τ W V c ∧ JC τ W V) : jP mX6_image mX7_image d [] τ (c + 80) := by
  obtain ⟨j1, j2, j3, ⟨j23, j26, j4, j10⟩, jw, jt, j73, jb⟩ := J.1
  obtain ⟨k1, k2, ⟨k4, kb⟩, ⟨k5, k6⟩, kr, kT0⟩ := J.2
  refine sC_imp ?_ (x_image (d := d) (by omega) τ (by omega) j3.2.2 j1 j2 k1)
  rintro r σ1 ⟨e1, ch, C1⟩
  refine ⟨_, e1, ?_⟩
  have lo := JM_lo (fun a (h : 161 ≤ a ∧ a < 321) => by omega) ch
  have m := m_image (d := d) (by omega) σ1 (σ1.2.1 385) (σ1.1 384)
  rw [ms_self, (lo.1 385 (by decide)).2, (lo.1 384 (by decide)).1, (lo.1 386 (by decide)).2] at m
  refine sC_imp ?_ m
  rintro r2 σ2 ⟨f1, f2⟩
  refine ⟨f1, ?_⟩
  have ms1 := ms_1 (sRw σ1 386 (mCy (τ.2.1 385) (τ.2.1 386) 1583)) (τ.2.1 385) (τ.1 384)
  rw [← f2] at ms1
  have ei := eqR_cy (τ.2.1 385) (τ.2.1 386)
  have er : eqR (τ.2.1 385) (τ.2.1 385) := fun _ _ => rfl
  have r6 : σ2.2.1 386 = mCy (τ.2.1 385) (τ.2.1 386) 1583 := by
    rw [ms1.2.2.2.1 386 (by decide)]
    show va_up σ1.2.1 386 (mCy (τ.2.1 385) (τ.2.1 386) 1583) 386 = _
    exact va_up_self _ _ _
  have ro : ∀ a, a ≠ 385 → a ≠ 386 → σ2.2.1 a = σ1.2.1 a := fun a h h2 => by
    rw [ms1.2.2.2.1 a h]
    show va_up σ1.2.1 386 (mCy (τ.2.1 385) (τ.2.1 386) 1583) a = _
    exact va_up_ne _ _ h2
  have io : ∀ a, a ≠ 384 → σ2.1 a = σ1.1 a := fun a h => ms1.2.2.1 a h
  have i1 : mCy (τ.2.1 385) (τ.2.1 386) 1583 1 = τ.2.1 385 1 := ei 1 (by decide)
  have chi : chg hiP σ1 σ2 := ⟨fun a h => by
    have h : ¬ 384 ≤ a := h
    exact ⟨io a (by omega), ro a (by omega) (by omega), by rw [ms1.2.2.2.2]; rfl, by rw [ms1.2.2.2.2]; rfl⟩, by rw [ms1.2.2.2.2]; rfl⟩
  have e7 : σ2.2.1 387 = τ.2.1 387 := (ro 387 (by decide) (by decide)).trans (lo.1 387 (by decide)).2
  have e8 : σ2.2.1 388 = τ.2.1 388 := (ro 388 (by decide) (by decide)).trans (lo.1 388 (by decide)).2
  have pl : ∀ a, 321 ≤ a → a < 384 → σ2.1 a = τ.1 a ∧ σ2.2.1 a = τ.2.1 a := fun a h1 h2 => ⟨(io a (by omega)).trans (ch.1 a (by omega)).1, (ro a (by omega) (by omega)).trans (ch.1 a (by omega)).2.1⟩
  have kx : okR (c + 80) (τ.2.1 385 1) (mCy (τ.2.1 385) (τ.2.1 386) 1583) := okR_mono (okR_cg ei j1) (by omega)
  refine ⟨W, V, ⟨?_, ?_, ?_, ?_, ?_, ?_, ?_, ?_⟩, ⟨?_, ?_, ⟨?_, ?_⟩, ⟨?_, ?_⟩, ?_, ?_⟩⟩
  · rw [ms1.2.1]; exact okR_mono j1 (by omega)
  · rw [r6, i1]; exact kx
  · rw [r6, i1, ms1.2.1]; exact ⟨Int.le_trans j3.1 j3.2.1, Int.le_refl _, j3.2.2⟩
  · rw [ms1.1]; exact ⟨j23, j26, j4, j10⟩
  · rw [ms1.2.2.2.2]; show 0 ≤ σ1.2.2.2.1 ∧ σ1.2.2.2.1 ≤ 1152921504606846976; rw [lo.2]; exact jw
  · rw [ms1.2.1, e7]; exact jt
  · rw [e7]; exact j73
  · rw [e8]; exact jb
  · rw [ms1.2.1, r6]
    have oiA : okR c (τ.2.1 385 1) (τ.2.1 385) := j1
    exact clR_hi j1.2.2.2.1.2 kx.2.2.2.1.2 (clR_cg j1 oiA er ei C1) chi
  · rw [ms1.2.1, e7]
    intro tx ht
    obtain ⟨N, sc⟩ := k2 tx ht
    exact ⟨N, scN_hi (scN_ch sc ch (fun a x y z => by omega)) chi⟩
  · rw [(pl 328 (by decide) (by decide)).1, ms1.1]; exact k4
  · rw [(pl 329 (by decide) (by decide)).2, e8]; exact kb
  · rw [(pl 333 (by decide) (by decide)).1, ms1.1]; exact k5
  · rw [(pl 333 (by decide) (by decide)).1, ms1.1]; exact k6
  · intro tx ht
    rw [(pl (340 + 6 * tx + 1) (by omega) (by omega)).2, (pl (340 + 6 * tx) (by omega) (by omega)).1]
    exact kr tx ht
  · rw [(chi.1 333 (by unfold hiP; omega)).2.2.1, (ch.1 333 (by omega)).2.2.1]
    exact kT0
theorem j_back {d : Nat} {τ : gS} {W V : wF} {c : Int} (hd : 100 ≤ d) (hc : c ≤ 45000) (J : JM τ W V c ∧ JC τ W V) : jP mX6_back mX7_back d [] τ (c + 80) := by
  obtain ⟨j1, j2, j3, ⟨j23, j26, j4, j10⟩, jw, jt, j73, jb⟩ := J.1
  obtain ⟨k1, k2, ⟨k4, kb⟩, ⟨k5, k6⟩, kr, kT0⟩ := J.2
  refine sC_imp ?_ (x_back (d := d) (by omega) τ (by omega) j3.2.2 j1 j2 k1 j3.2.1)
  rintro r σ1 ⟨e1, ch, C1⟩
  refine ⟨_, e1, ?_⟩
  have lo := JM_lo (fun a (h : 1 ≤ a ∧ a < 161) => by omega) ch
  have m := m_back (d := d) (by omega) σ1 (σ1.2.1 385) (σ1.1 384)
  rw [ms_self, (lo.1 385 (by decide)).2, (lo.1 384 (by decide)).1, (lo.1 386 (by decide)).2] at m
  refine sC_imp ?_ m
  rintro r2 σ2 ⟨f1, f2⟩
  refine ⟨f1, ?_⟩
  have ms1 := ms_1 σ1 (mCy (τ.2.1 386) (τ.2.1 385) 1583) (τ.1 384)
  rw [← f2] at ms1
  have ei := eqR_cy (τ.2.1 386) (τ.2.1 385)
  have er : eqR (τ.2.1 386) (τ.2.1 386) := fun _ _ => rfl
  have i1 : mCy (τ.2.1 386) (τ.2.1 385) 1583 1 = τ.2.1 386 1 := ei 1 (by decide)
  have chi : chg hiP σ1 σ2 := ⟨fun a h => by
    have h : ¬ 384 ≤ a := h
    exact ⟨ms1.2.2.1 a (by omega), ms1.2.2.2.1 a (by omega), by rw [ms1.2.2.2.2], by rw [ms1.2.2.2.2]⟩, by rw [ms1.2.2.2.2]⟩
  have e6 : σ2.2.1 386 = τ.2.1 386 := (ms1.2.2.2.1 386 (by decide)).trans (lo.1 386 (by decide)).2
  have e7 : σ2.2.1 387 = τ.2.1 387 := (ms1.2.2.2.1 387 (by decide)).trans (lo.1 387 (by decide)).2
  have e8 : σ2.2.1 388 = τ.2.1 388 := (ms1.2.2.2.1 388 (by decide)).trans (lo.1 388 (by decide)).2
  have pl : ∀ a, 321 ≤ a → a < 384 → σ2.1 a = τ.1 a ∧ σ2.2.1 a = τ.2.1 a := fun a h1 h2 => ⟨(ms1.2.2.1 a (by omega)).trans (ch.1 a (by omega)).1, (ms1.2.2.2.1 a (by omega)).trans (ch.1 a (by omega)).2.1⟩
  have kx : okR (c + 80) (τ.2.1 386 1) (mCy (τ.2.1 386) (τ.2.1 385) 1583) := okR_mono (okR_cg ei j2) (by omega)
  refine ⟨W, V, ⟨?_, ?_, ?_, ?_, ?_, ?_, ?_, ?_⟩, ⟨?_, ?_, ⟨?_, ?_⟩, ⟨?_, ?_⟩, ?_, ?_⟩⟩
  · rw [ms1.2.1, i1]; exact kx
  · rw [e6]; exact okR_mono j2 (by omega)
  · rw [e6, ms1.2.1, i1]; exact ⟨j3.1, Int.le_refl _, Int.le_trans j3.2.1 j3.2.2⟩
  · rw [ms1.1]; exact ⟨j23, j26, j4, j10⟩
  · rw [ms1.2.2.2.2, lo.2]; exact jw
  · rw [ms1.2.1, i1, e7]
    exact ⟨jt.1, fun t h => jt.2 t (Int.lt_of_lt_of_le h j3.2.1)⟩
  · rw [e7]; exact j73
  · rw [e8]; exact jb
  · rw [ms1.2.1, e6]
    exact clR_hi kx.2.2.2.1.2 j2.2.2.2.1.2 (clR_cg j2 j2 ei er C1) chi
  · rw [ms1.2.1, i1, e7]
    intro tx ht
    obtain ⟨N, sc⟩ := k2 tx (Int.lt_of_lt_of_le ht j3.2.1)
    exact ⟨N, scN_hi (scN_ch sc ch (fun a x y z => by omega)) chi⟩
  · rw [(pl 328 (by decide) (by decide)).1, ms1.1]; exact k4
  · rw [(pl 329 (by decide) (by decide)).2, e8]; exact kb
  · rw [(pl 333 (by decide) (by decide)).1, ms1.1]; exact k5
  · rw [(pl 333 (by decide) (by decide)).1, ms1.1]; exact k6
  · intro tx ht
    rw [(pl (340 + 6 * tx + 1) (by omega) (by omega)).2, (pl (340 + 6 * tx) (by omega) (by omega)).1]
    exact kr tx ht
  · rw [(chi.1 333 (by unfold hiP; omega)).2.2.1, (ch.1 333 (by omega)).2.2.1]
    exact kT0
