/-! ===== what commands leave behind ===== -/
def nonI (i : Nat) : Prop := i < 5 ∨ (24 ≤ i ∧ i < 1553)
theorem ud_now {A B : Nat → Int} (h5 : A 0 ≤ 5) (e : ∀ i, nonI i → B i = A i) {q : Nat} (hq : q < 30) {j : Nat} (hj : idx j) : ud B q j = ud A q j := by
  have e0 : B 0 = A 0 := e 0 (Or.inl (by omega))
  have eo : ∀ i, 24 ≤ i → i < 1553 → B i = A i := fun i a b => e i (Or.inr (by omega))
  have ep : pz B q = pz A q := by unfold pz; rw [eo _ (by omega) (by omega)]
  rw [ud_at B q j hq (by omega), ud_at A q j hq h5, ep, e0]
  unfold idx at hj
  by_cases c1 : 1553 ≤ j ∧ j < 1583
  · rw [if_pos c1, if_pos c1]; exact eo _ (by omega) (by omega)
  · rw [if_neg c1, if_neg c1]
    by_cases c2 : 19 + pz A q ≤ j ∧ (j : Int) < 19 + A 0
    · rw [if_pos c2, if_pos c2]; exact eo _ (by omega) (by omega)
    · rw [if_neg c2, if_neg c2]
      by_cases c3 : 5 ≤ j ∧ j < 24
      · rw [if_pos c3, if_pos c3]; exact eo _ (by omega) (by omega)
      · rw [if_neg c3, if_neg c3, if_neg (by omega), if_neg (by omega), show j = 0 by omega]; exact e0
def nowP (a : Nat) : Prop := (2 ≤ a ∧ a < 7) ∨ scrQ a
theorem twR_now {σ σ' : gS} {A B : Nat → Int} {c nt : Int} (ok : okR c nt A) (tw : twR σ 1 A) (ch : chg nowP σ σ') (tr : trS 1 σ' 2 B) (e : ∀ i, nonI i → B i = A i) : twR σ' 1 B := by
  obtain ⟨t1, t2, t3, t4, π, hπ, hin, hst⟩ := tw
  have h3 := ok.2.2.2.1
  have i8 := ok.2.2.2.2.1
  have g0 := ok.1.1
  have eo : ∀ i, (i < 5 ∨ (24 ≤ i ∧ i < 1553)) → B i = A i := fun i a => e i (by unfold nonI; omega)
  have no : ∀ a, a = 1 ∨ (7 ≤ a ∧ a < 161) → ¬ nowP a := fun a q => by unfold nowP scrQ stkP; omega
  refine ⟨tr, ⟨?_, ?_, ?_, ?_⟩, fun h hh => ?_, fun i hi => ?_, π, fun i hi => ?_, hin, fun i hi => ?_⟩
  · rw [(ch.1 1 (no 1 (by omega))).1, eo 3 (by omega)]; exact t2.1
  · rw [(ch.1 1 (no 1 (by omega))).1, eo 4 (by omega)]; exact t2.2.1
  · rw [(ch.1 1 (no 1 (by omega))).1, eo 1 (by omega)]; exact t2.2.2.1
  · rw [(ch.1 1 (no 1 (by omega))).1, eo 2 (by omega)]; exact t2.2.2.2
  · rw [(ch.1 (1 + 7) (no _ (by omega))).2.1, eo _ (by omega)]; exact t3 h hh
  · rw [eo 4 (by omega)] at hi
    rw [(ch.1 (1 + 8) (no _ (by omega))).2.1, (ch.1 (1 + 9) (no _ (by omega))).2.1, eo _ (by omega), eo _ (by omega)]; exact t4 i hi
  · rw [(ch.1 (1 + 6) (no _ (by omega))).2.2.1]; exact hπ i hi
  · rw [eo 3 (by omega)] at hi
    have pi := hπ i (by omega)
    have u5 := ud_05 ok hi
    exact trS_cong (trS_ch (hst i hi) ch (fun a x y => no a (by omega))) u5.1 (fun _ => u5.2) (fun j hj => ud_now g0.2 e (by omega) hj)
def bk30 (A : Nat → Int) : Prop := ∀ i, i < 30 → inR (A (1553 + i))
theorem okR_now {A B : Nat → Int} {c c' nt : Int} (ok : okR c nt A) (e : ∀ i, nonI i → B i = A i) (g : gd c' nt B) (m : mM B ≤ c') (hcc : c ≤ c') (b : bk30 B) : okR c' nt B := by
  have eo : ∀ i, (i < 5 ∨ (24 ≤ i ∧ i < 1553)) → B i = A i := fun i a => e i (by unfold nonI; omega)
  have h3 := ok.2.2.2.1
  have i8 := ok.2.2.2.2.1
  have g0 := ok.1.1
  refine ⟨g, m, by rw [eo 1 (by omega)]; exact ok.2.2.1, by rw [eo 3 (by omega)]; exact h3, by rw [eo 4 (by omega)]; exact i8, fun h hh => by rw [eo _ (by omega)]; exact ok.2.2.2.2.2.1 h hh, fun i hi => ?_, fun p hp => ?_, fun i hi => ?_, b⟩
  · rw [eo 4 (by omega)] at hi
    rw [eo _ (by omega), eo _ (by omega)]; exact ok.2.2.2.2.2.2.1 i hi
  · rw [eo 0 (by omega)] at hp
    rw [eo _ (by omega)]; exact ok.2.2.2.2.2.2.2.1 p hp
  · rw [eo 3 (by omega)] at hi
    obtain ⟨a1, a2, a3, a4⟩ := ok.2.2.2.2.2.2.2.2.1 i hi
    have u : ∀ j, idx j → ud B i j = ud A i j := fun j hj => ud_now g0.2 e (by omega) hj
    refine ⟨by rw [eo _ (by omega), eo 0 (by omega)]; exact a1, ?_, ?_, fun k hk => by rw [u _ (by unfold idx; omega)]; exact a4 k hk⟩
    · have l2 : ∀ z, ¬ (5 ≤ z ∧ z < 24) → z ≠ 3 → z < 1553 → ud B i z = ud A i z := fun z q1 q2 q3 => by
        rw [ud_lo B (by omega) (by rw [eo 0 (by omega)]; exact g0.2) q1 q2 q3, ud_lo A (by omega) g0.2 q1 q2 q3]
        exact e z (by unfold nonI; omega)
      exact gd_mono (gd_ext a2 (fun z q1 q2 q3 q4 q5 => by
        by_cases q : 5 ≤ z ∧ z < 24
        · exact u z (by unfold idx; omega)
        · exact l2 z q (by omega) (by omega))) hcc
    · rw [mM_cong (A := ud A i) (fun j hj => u _ (by unfold idx; omega))]; omega
theorem okR_keep {A : Nat → Int} {c nt : Int} (ok : okR c nt A) : okR c nt (mKeep A) := by
  have h3 := ok.2.2.2.1
  have i8 := ok.2.2.2.2.1
  have g := ok.1
  have g0 := g.1
  have mo : ∀ i, (i < 53 ∧ i ≠ 3) ∨ 1553 ≤ i → mKeep A i = A i := fun i hi => mKeep_o A h3.1 h3.2 hi
  have m3 := mKeep_3 A h3.1 h3.2
  have ex : ∀ {U X : Nat → Int}, (∀ j, idx j → U j = X j) → U 2 = X 2 → gd c nt X → mM X ≤ c → (∀ k, k < 30 → inR (X (1553 + k))) → gd c nt U ∧ mM U ≤ c ∧ ∀ k, k < 30 → inR (U (1553 + k)) := fun {U X} h h2 gx mx bx =>
    ⟨gd_ext gx (fun z q1 q2 q3 q4 q5 => by
      by_cases q : z = 2
      · rw [q]; exact h2
      · exact h z (by unfold idx; omega)), by rw [mM_cong (A := X) (fun j hj => h _ (by unfold idx; omega))]; exact mx, fun k hk => by rw [h _ (by unfold idx; omega)]; exact bx k hk⟩
  refine ⟨gd_keep g h3.1 h3.2, by rw [mM_cong (A := A) (fun j hj => mo _ (by omega))]; exact ok.2.1, by rw [mo 1 (by omega)]; exact ok.2.2.1, mKeep_3r A h3.1 h3.2, by rw [mo 4 (by omega)]; exact i8, fun h hh => by rw [mo _ (by omega)]; exact ok.2.2.2.2.2.1 h hh, fun i hi => ?_, fun p hp => ?_, fun i hi => ?_, fun i hi => by rw [mo _ (by omega)]; exact ok.2.2.2.2.2.2.2.2.2 i hi⟩
  · rw [mo 4 (by omega)] at hi
    rw [mo _ (by omega), mo _ (by omega)]; exact ok.2.2.2.2.2.2.1 i hi
  · rw [mo 0 (by omega)] at hp
    rw [mo _ (by omega)]; exact ok.2.2.2.2.2.2.2.1 p hp
  · rw [mo 0 (by omega)]
    have nowx := ex (U := A) (X := A) (fun _ _ => rfl) rfl g ok.2.1 ok.2.2.2.2.2.2.2.2.2
    by_cases q : A 3 = 30
    · have ek : mKeep A = mKeepT (mEld A) := by rw [mKeep_eq, if_pos q]
      have b3 : mEld A 3 = ((29 : Nat) : Int) := by rw [mEld_at, if_pos rfl, q]; rfl
      have b0 : mEld A 0 = A 0 := by rw [mEld_at, if_neg (by omega), if_neg (by omega)]
      have b2 : mEld A 2 = A 2 := by rw [mEld_at, if_neg (by omega), if_neg (by omega)]
      have t0 : mKeepT (mEld A) 0 = A 0 := by rw [← ek]; exact mo 0 (by omega)
      have t2 : mKeepT (mEld A) 2 = A 2 := by rw [← ek]; exact mo 2 (by omega)
      rw [m3, if_pos q] at hi
      rw [ek]
      by_cases z : i < 29
      · obtain ⟨a1, a2, a3, a4⟩ := ok.2.2.2.2.2.2.2.2.1 (i + 1) (by omega)
        refine ⟨?_, ex (U := ud (mKeepT (mEld A)) i) (X := ud A (i + 1)) (fun j hj => by rw [ud_keepT (mEld A) b3 (by omega) (by omega) (by omega) z hj, ud_eld A g0.2 z hj]) (by rw [ud_lo _ (by omega) (by omega) (by omega) (by omega) (by omega), ud_lo A (by omega) g0.2 (by omega) (by omega) (by omega), t2]) a2 a3 a4⟩
        rw [mKeepT_at _ b3 (by omega), if_neg (by omega), if_neg (by omega), if_neg (by omega), if_neg (by omega), mEld_at, if_neg (by omega), if_pos (by omega), show 53 + 50 * i + 50 = 53 + 50 * (i + 1) by omega]
        exact a1
      · have zi : i = 29 := by omega
        subst zi
        refine ⟨?_, ex (U := ud (mKeepT (mEld A)) 29) (X := A) (fun j hj => by rw [ud_keepN (mEld A) b3 (by omega) (by omega) (by omega) hj, mEld_at]; unfold idx at hj; rw [if_neg (by omega), if_neg (by omega)]) (by rw [ud_lo _ (by omega) (by omega) (by omega) (by omega) (by omega), t2]) nowx.1 nowx.2.1 nowx.2.2⟩
        rw [mKeepT_at _ b3 (by omega), if_neg (by omega), if_pos (by omega), b0]; omega
    · have ek : mKeep A = mKeepT A := by rw [mKeep_eq, if_neg q]
      obtain ⟨n, hn⟩ : ∃ n : Nat, A 3 = (n : Int) := ⟨(A 3).toNat, by omega⟩
      have t0 : mKeepT A 0 = A 0 := by rw [← ek]; exact mo 0 (by omega)
      have t2 : mKeepT A 2 = A 2 := by rw [← ek]; exact mo 2 (by omega)
      rw [m3, if_neg q] at hi
      rw [ek]
      by_cases z : i < n
      · obtain ⟨a1, a2, a3, a4⟩ := ok.2.2.2.2.2.2.2.2.1 i (by omega)
        refine ⟨?_, ex (U := ud (mKeepT A) i) (X := ud A i) (fun j hj => ud_keepT A hn (by omega) g0.1 g0.2 z hj) (by rw [ud_lo _ (by omega) (by omega) (by omega) (by omega) (by omega), ud_lo A (by omega) g0.2 (by omega) (by omega) (by omega), t2]) a2 a3 a4⟩
        rw [mKeepT_at _ hn (by omega), if_neg (by omega), if_neg (by omega), if_neg (by omega), if_neg (by omega)]
        exact a1
      · have zi : i = n := by omega
        subst zi
        refine ⟨?_, ex (U := ud (mKeepT A) i) (X := A) (fun j hj => ud_keepN A hn (by omega) g0.1 g0.2 hj) (by rw [ud_lo _ (by omega) (by omega) (by omega) (by omega) (by omega), t2]) nowx.1 nowx.2.1 nowx.2.2⟩
        rw [mKeepT_at _ hn (by omega), if_neg (by omega), if_pos rfl]; omega
