/-! ===== told, taken over: towns and rows ===== -/
theorem mKs_ne (B : Nat → Int) (h : Nat) (v : Int) {i : Nat} : ∀ n, (∀ k, k < n → i ≠ 60 + 50 * k + h) → mKs B h v n i = B i := by
  intro n
  induction n with
  | zero => intro _; rfl
  | succ n ih => intro q; rw [mKs, va_up_ne _ _ (q n (by omega))]; exact ih (fun k hk => q k (by omega))
theorem mKs_eq (B : Nat → Int) (h : Nat) (v : Int) {k : Nat} : ∀ n, k < n → mKs B h v n (60 + 50 * k + h) = v := by
  intro n
  induction n with
  | zero => intro q; omega
  | succ n ih =>
    intro q
    rw [mKs]
    by_cases e : k = n
    · subst e; rw [va_up_self]
    · rw [va_up_ne _ _ (by omega)]; exact ih (by omega)
theorem mKind_lo (A : Nat → Int) {h : Nat} (hh : h < 8) (v : Int) (h30 : A 3 ≤ 30) {i : Nat} (hi : i < 60 ∨ 1553 ≤ i) : mKind A h v i = va_up A (11 + h) v i := by
  unfold mKind
  exact mKs_ne _ _ _ _ (fun k hk => by omega)
theorem ud_kind (A : Nat → Int) {h : Nat} (hh : h < 8) (v : Int) (h0 : 0 ≤ A 3) (h30 : A 3 ≤ 30) (h00 : 0 ≤ A 0) (h05 : A 0 ≤ 5) {i : Nat} (hi : (i : Int) < A 3) {j : Nat} (hj : idx j) : ud (mKind A h v) i j = va_up (ud A i) (11 + h) v j := by
  have ne : ∀ k, k ≠ 11 + h → (∀ m, m < (A 3).toNat → k ≠ 60 + 50 * m + h) → mKind A h v k = A k := fun k a b => by
    unfold mKind
    rw [mKs_ne _ _ _ _ b, va_up_ne _ _ a]
  have e0 : mKind A h v 0 = A 0 := ne 0 (by omega) (fun m _ => by omega)
  have ep : pz (mKind A h v) i = pz A i := by unfold pz; rw [ne _ (by omega) (fun m _ => by omega)]
  rw [ud_at _ i j (by omega) (by omega), ep, e0]
  unfold idx at hj
  by_cases c1 : 1553 ≤ j ∧ j < 1583
  · rw [if_pos c1, va_up_ne _ _ (by omega), ud_at A i j (by omega) h05, if_pos c1]; exact ne _ (by omega) (fun m _ => by omega)
  · rw [if_neg c1]
    by_cases c2 : 19 + pz A i ≤ j ∧ (j : Int) < 19 + A 0
    · rw [if_pos c2, va_up_ne _ _ (by omega), ud_at A i j (by omega) h05, if_neg c1, if_pos c2]; exact ne _ (by omega) (fun m _ => by omega)
    · rw [if_neg c2]
      by_cases c3 : 5 ≤ j ∧ j < 24
      · rw [if_pos c3]
        by_cases c4 : j = 11 + h
        · rw [c4, va_up_self, show 54 + 50 * i + (11 + h - 5) = 60 + 50 * i + h by omega]
          unfold mKind
          exact mKs_eq _ _ _ _ (by omega)
        · rw [va_up_ne _ _ c4, ud_at A i j (by omega) h05, if_neg c1, if_neg c2, if_pos c3]; exact ne _ (by omega) (fun m _ => by omega)
      · rw [if_neg c3, if_neg (by omega), va_up_ne _ _ (by omega), ud_at A i j (by omega) h05, if_neg c1, if_neg c2, if_neg c3, if_neg (by omega)]; exact ne _ (by omega) (fun m _ => by omega)
theorem twR_pi {σ : gS} {A : Nat → Int} (π : Nat → Nat) (hπ : ∀ i, i < 30 → σ.2.2.2.2 (1 + 6) i = some (π i) ∧ 1 + 10 ≤ π i ∧ π i + 5 ≤ 1 + 160 ∧ kd (π i) = 2) (hin : ∀ i j, i < 30 → j < 30 → π i = π j → i = j) : piOK π := ⟨fun i hi => ⟨(hπ i hi).2.1, (hπ i hi).2.2.1, (hπ i hi).2.2.2⟩, hin⟩
theorem c_tellK {d h : Nat} (hh : h < 8) {v : Int} (σ : gS) {A : Nat → Int} {c nt : Int} (ok : okR c nt A) (tw : twR σ 1 A) : sC mX5_tellKindness d [.ref 1, .int (iZ (h : Int)), .int (iZ v)] σ (fun r σ' => r = none ∧ chg inT σ σ' ∧ twR σ' 1 (mKind A h v)) := by
  obtain ⟨t1, t2, t3, t4, π, hπ, hin, hst⟩ := tw
  have g := ok.1
  have g0 := g.1
  have h3 := ok.2.2.2.1
  have i8 := ok.2.2.2.2.1
  obtain ⟨n, hn⟩ : ∃ n : Nat, A 3 = (n : Int) := ⟨(A 3).toNat, by omega⟩
  have cz : chg (fun a => a = 3) σ (sR σ 3 h v) := chg_sR σ 3 h v
  have hp := twR_pi (σ := σ) (A := A) π hπ hin
  refine sC_imp ?_ (c_tellKind hh σ π hp (fun i hi => (hπ i hi).1) (n := n) (by omega) (by rw [t2.1, hn]) (fun i => ud A i) (fun i => va_up (ud A i) (11 + h) v) (fun i _ => rfl) (fun i hi => by
    rw [if_neg (by omega)]
    have := hπ i (by omega)
    exact trS_ch (hst i (by omega)) cz (fun a x y => by omega)))
  rintro r σ' ⟨e1, c1, hR⟩
  have c2 : chg (fun a => a = 3 ∨ inS a) σ σ' := chg_tr (chg_mono cz (fun a q => Or.inl q)) (chg_mono c1 (fun a q => Or.inr q))
  have lo : ∀ i, i ≠ 11 + h → i < 60 → mKind A h v i = A i := fun i a b => by rw [mKind_lo A hh v h3.2 (Or.inl b), va_up_ne _ _ a]
  refine ⟨e1, chg_mono c2 (fun a q => by unfold inT; unfold inS at q; omega), ?_, ⟨?_, ?_, ?_, ?_⟩, fun k hk => ?_, fun i hi => ?_, π, fun i hi => ?_, hin, fun i hi => ?_⟩
  · have q1 : trS 1 (sR σ 3 h v) 2 (va_up A (11 + h) v) := by
      rw [show sR σ 3 h v = sR σ (2 + 1) h v from rfl, sR_st]
      exact trS_st (trR_kind t1 hh v)
    refine trS_cong (trS_ch q1 c1 (fun a x y => by unfold inS; omega)) (by rw [va_up_ne _ _ (by omega)]; omega) (fun _ => by rw [va_up_ne _ _ (by omega)]; exact g.2.2.2.2.1.2) (fun i hi => mKind_lo A hh v h3.2 (by unfold idx at hi; omega))
  · rw [(c2.1 1 (by unfold inS; omega)).1, lo 3 (by omega) (by omega)]; exact t2.1
  · rw [(c2.1 1 (by unfold inS; omega)).1, lo 4 (by omega) (by omega)]; exact t2.2.1
  · rw [(c2.1 1 (by unfold inS; omega)).1, lo 1 (by omega) (by omega)]; exact t2.2.2.1
  · rw [(c2.1 1 (by unfold inS; omega)).1, lo 2 (by omega) (by omega)]; exact t2.2.2.2
  · rw [(c2.1 (1 + 7) (by unfold inS; omega)).2.1, lo _ (by omega) (by omega)]; exact t3 k hk
  · rw [lo 4 (by omega) (by omega)] at hi
    rw [(c2.1 (1 + 8) (by unfold inS; omega)).2.1, (c2.1 (1 + 9) (by unfold inS; omega)).2.1, lo _ (by omega) (by omega), lo _ (by omega) (by omega)]; exact t4 i hi
  · rw [(c2.1 (1 + 6) (by unfold inS; omega)).2.2.1]; exact hπ i hi
  · rw [lo 3 (by omega) (by omega)] at hi
    have q := hR i (by omega)
    rw [if_pos (by omega)] at q
    have q : trS 1 σ' (π i) (va_up (ud A i) (11 + h) v) := q
    have u5 := ud_05 ok hi
    exact trS_cong q (by rw [va_up_ne _ _ (by omega)]; exact u5.1) (fun _ => by rw [va_up_ne _ _ (by omega)]; exact u5.2) (fun j hj => ud_kind A hh v h3.1 h3.2 g0.1 g0.2 hi hj)
theorem mPer_at (A : Nat → Int) (v : Int) (h0 : 0 ≤ A 0) (i : Nat) : mPer A v i = if i = 0 then A 0 + 1 else if (i : Int) = 19 + A 0 ∨ (i : Int) = 24 + A 0 then v else A i := by
  unfold mPer
  by_cases c : i = 0
  · subst c; rw [if_pos rfl, va_up_self]
  · rw [if_neg c, va_up_ne _ _ c]
    by_cases c1 : (i : Int) = 19 + A 0
    · rw [if_pos (Or.inl c1), show (19 + A 0).toNat = i by omega, va_up_self]
    · rw [va_up_ne _ _ (by omega)]
      by_cases c2 : (i : Int) = 24 + A 0
      · rw [if_pos (Or.inr c2), show (24 + A 0).toNat = i by omega, va_up_self]
      · rw [if_neg (by omega), va_up_ne _ _ (by omega)]
theorem ud_per (A : Nat → Int) (v : Int) (h0 : 0 ≤ A 0) (h5 : A 0 < 5) {i : Nat} (hi : i < 30) (hz : A (53 + 50 * i) ≤ A 0) {j : Nat} (hj : idx j) : ud (mPer A v) i j = addP (ud A i) v j := by
  have e0 : mPer A v 0 = A 0 + 1 := by rw [mPer_at A v h0, if_pos rfl]
  have hi' : ∀ k, 29 ≤ k → mPer A v k = A k := fun k hk => by rw [mPer_at A v h0, if_neg (by omega), if_neg (by omega)]
  have ep : pz (mPer A v) i = pz A i := by unfold pz; rw [hi' _ (by omega)]
  have pl : (pz A i : Int) ≤ A 0 := by unfold pz; omega
  have u0 : ud A i 0 = A 0 := ud_lo A hi (by omega) (by omega) (by omega) (by omega)
  rw [ud_at _ i j hi (by omega), ep, e0]
  unfold addP
  rw [u0]
  unfold idx at hj
  by_cases cz : j = 0
  · subst cz
    rw [va_up_self, if_neg (by omega), if_neg (by omega), if_neg (by omega), if_neg (by omega)]; exact e0
  · rw [va_up_ne _ _ cz]
    by_cases c1 : 1553 ≤ j ∧ j < 1583
    · rw [if_pos c1, va_up_ne _ _ (by omega), ud_at A i j hi (by omega), if_pos c1]; exact hi' _ (by omega)
    · rw [if_neg c1]
      by_cases cn : (j : Int) = 19 + A 0
      · rw [if_pos (by omega), show (19 + A 0).toNat = j by omega, va_up_self, mPer_at A v h0, if_neg (by omega), if_pos (by omega)]
      · rw [va_up_ne _ _ (by omega), ud_at A i j hi (by omega), if_neg c1]
        by_cases c2 : 19 + pz A i ≤ j ∧ (j : Int) < 19 + A 0
        · rw [if_pos (by omega), if_pos c2, mPer_at A v h0, if_neg (by omega), if_neg (by omega)]
        · rw [if_neg (by omega), if_neg c2]
          by_cases c3 : 5 ≤ j ∧ j < 24
          · rw [if_pos c3, if_pos c3]; exact hi' _ (by omega)
          · omega
theorem c_tellP {d : Nat} (hd : 1 ≤ d) {v : Int} (σ : gS) {A : Nat → Int} {c nt : Int} (ok : okR c nt A) (tw : twR σ 1 A) (h5 : A 0 < 5) : sC mX5_tellPerson d [.ref 1, .int (iZ v)] σ (fun r σ' => r = none ∧ chg inT σ σ' ∧ twR σ' 1 (mPer A v)) := by
  obtain ⟨t1, t2, t3, t4, π, hπ, hin, hst⟩ := tw
  have g := ok.1
  have g0 := g.1
  have h3 := ok.2.2.2.1
  have i8 := ok.2.2.2.2.1
  obtain ⟨n, hn⟩ : ∃ n : Nat, A 3 = (n : Int) := ⟨(A 3).toNat, by omega⟩
  have f2 : σ.1 2 2 = A 0 := t1.2.2.1.1
  have hp := twR_pi (σ := σ) (A := A) π hπ hin
  have u0 : ∀ i : Nat, (i : Int) < A 3 → ud A i 0 = A 0 := fun i hi => ud_lo A (by omega) (by omega) (by omega) (by omega) (by omega)
  generalize hσ2 : st σ 2 (σ.2.1 (2 + 1)) (va_up (σ.2.1 (2 + 2)) (σ.1 2 2).toNat v) (σ.2.1 (2 + 3)) (σ.2.1 (2 + 4)) (va_up (σ.1 2) 2 (σ.1 2 2 + 1)) = σ2
  have cz : chg (fun a => 2 ≤ a ∧ a < 7) σ σ2 := by rw [← hσ2]; exact chg_st _ _ _ _ _ _ _
  have tz : trS 1 σ2 2 (addP A v) := by rw [← hσ2]; exact trS_st (trR_add t1 g0.1 h5 v)
  have hc := c_tellPer hd (v := v) σ π hp (fun i hi => (hπ i hi).1) (n := n) (by omega) (by rw [t2.1, hn]) (fun i => ud A i) (fun i => addP (ud A i) v) (fun i _ => rfl) (fun i hi => by show 0 ≤ ud A i 0 ∧ ud A i 0 < 5; rw [u0 i (by omega)]; exact ⟨g0.1, h5⟩) (by omega) (by omega) (by
    rw [hσ2]
    intro i hi
    rw [if_neg (by omega)]
    have := hπ i (by omega)
    exact trS_ch (hst i (by omega)) cz (fun a x y => by omega))
  rw [hσ2] at hc
  refine sC_imp ?_ hc
  rintro r σ' ⟨e1, c1, hR⟩
  have c2 : chg (fun a => (2 ≤ a ∧ a < 7) ∨ inS a) σ σ' := chg_tr (chg_mono cz (fun a q => Or.inl q)) (chg_mono c1 (fun a q => Or.inr q))
  have lo : ∀ i, i ≠ 0 → i < 19 ∨ 29 ≤ i → mPer A v i = A i := fun i a b => by rw [mPer_at A v g0.1, if_neg a, if_neg (by omega)]
  refine ⟨e1, chg_mono c2 (fun a q => by unfold inT; unfold inS at q; omega), ?_, ⟨?_, ?_, ?_, ?_⟩, fun k hk => ?_, fun i hi => ?_, π, fun i hi => ?_, hin, fun i hi => ?_⟩
  · refine trS_cong (trS_ch tz c1 (fun a x y => by unfold inS; omega)) (by show addP A v 0 ≤ 5; unfold addP; rw [va_up_self]; omega) (fun _ => by show addP A v 10 ≤ 30; unfold addP; rw [va_up_ne _ _ (by omega), va_up_ne _ _ (by omega)]; exact g.2.2.2.2.1.2) (fun i hi => ?_)
    unfold idx at hi
    rw [mPer_at A v g0.1]
    unfold addP
    by_cases q : i = 0
    · subst q; rw [if_pos rfl, va_up_self]
    · rw [if_neg q, va_up_ne _ _ q]
      by_cases q2 : (i : Int) = 19 + A 0
      · rw [if_pos (Or.inl q2), show (19 + A 0).toNat = i by omega, va_up_self]
      · rw [if_neg (by omega), va_up_ne _ _ (by omega)]
  · rw [(c2.1 1 (by unfold inS; omega)).1, lo 3 (by omega) (by omega)]; exact t2.1
  · rw [(c2.1 1 (by unfold inS; omega)).1, lo 4 (by omega) (by omega)]; exact t2.2.1
  · rw [(c2.1 1 (by unfold inS; omega)).1, lo 1 (by omega) (by omega)]; exact t2.2.2.1
  · rw [(c2.1 1 (by unfold inS; omega)).1, lo 2 (by omega) (by omega)]; exact t2.2.2.2
  · rw [(c2.1 (1 + 7) (by unfold inS; omega)).2.1, lo _ (by omega) (by omega)]; exact t3 k hk
  · rw [lo 4 (by omega) (by omega)] at hi
    rw [(c2.1 (1 + 8) (by unfold inS; omega)).2.1, (c2.1 (1 + 9) (by unfold inS; omega)).2.1, lo _ (by omega) (by omega), lo _ (by omega) (by omega)]; exact t4 i hi
  · rw [(c2.1 (1 + 6) (by unfold inS; omega)).2.2.1]; exact hπ i hi
  · rw [lo 3 (by omega) (by omega)] at hi
    have q := hR i (by omega)
    rw [if_pos (by omega)] at q
    have u5 := ud_05 ok hi
    refine trS_cong q ?_ (fun _ => ?_) (fun j hj => ud_per A v g0.1 h5 (by omega) ((ok.2.2.2.2.2.2.2.2.1 i hi).1.2) hj)
    · show addP (ud A i) v 0 ≤ 5; unfold addP; rw [va_up_self, u0 i hi]; omega
    · show addP (ud A i) v 10 ≤ 30; unfold addP; rw [va_up_ne _ _ (by omega), va_up_ne _ _ (by rw [u0 i hi]; omega)]; exact u5.2
