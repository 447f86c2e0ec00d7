/-! ===== text: class and model side by side ===== -/
theorem pt_self (σ : gS) : pt σ (σ.2.1 387) (σ.2.1 389) σ.2.2.2.1 = σ := by
  unfold pt
  rw [sRw_self]
  rw [show sRw σ 389 (σ.2.1 389) = σ from sRw_self σ 389]
  rfl
theorem pt_1 (σ : gS) (T P : Nat → Int) (w : Int) : (pt σ T P w).1 = σ.1 ∧ (pt σ T P w).2.1 387 = T ∧ (∀ a, a ≠ 387 → a ≠ 389 → (pt σ T P w).2.1 a = σ.2.1 a) ∧ (pt σ T P w).2.2.1 = σ.2.2.1 ∧ (pt σ T P w).2.2.2.1 = w ∧ (pt σ T P w).2.2.2.2 = σ.2.2.2.2 := by
  refine ⟨rfl, ?_, fun a h h2 => ?_, rfl, rfl, rfl⟩
  · show va_up (va_up σ.2.1 387 T) 389 P 387 = T
    rw [va_up_ne _ _ (by decide), va_up_self]
  · show va_up (va_up σ.2.1 387 T) 389 P a = _
    rw [va_up_ne _ _ h2, va_up_ne _ _ h]
theorem tOK_cg {T T1 : Nat → Int} {W V W1 V1 : wF} {t : Nat} (h : tOK T W V t) (eW : W1 (t : Int) = W (t : Int)) (eV : V1 (t : Int) = V (t : Int)) (e : ∀ i, 681 * t ≤ i → i < 681 * t + 681 → T1 i = T i) : tOK T1 W1 V1 t := by
  obtain ⟨tk, nu, cs, D, e1, e2, e3, e4, e5, e6, e7, e8⟩ := h
  refine ⟨tk, nu, cs, D, eW.trans e1, eV.trans e2, by rw [e _ (by omega) (by omega)]; exact e3, e4, dR_hd e5 (fun i a b => e i (by omega) (by omega)), e6, clsM_up [] rfl e7 (fun i a b => e i (by omega) (by omega)), e8⟩
theorem lawR_at {σ σ1 : gS} {W V W1 V1 : wF} {t : Int} (h : lawR σ W V t) (eW : W1 t = W t) (eV : V1 t = V t) (c1 : σ1.1 (txp t) = σ.1 (txp t)) (c2 : σ1.2.1 (txp t + 1) = σ.2.1 (txp t + 1)) : lawR σ1 W1 V1 t := by
  unfold lawR
  rw [eW, eV]
  exact ⟨txOK_cong h.1 c1 c2, by rw [c1]; exact h.2.1, by rw [c1]; exact h.2.2.1, h.2.2.2.1, h.2.2.2.2⟩
theorem scN_at {σ σ1 : gS} {T T1 : Nat → Int} {x tx N : Nat} (h : scN σ T x tx N) (c1 : σ1.1 x = σ.1 x) (c2 : ∀ a, x ≤ a → a ≤ x + 4 → σ1.2.1 a = σ.2.1 a) (e : ∀ i, 681 * tx ≤ i → i < 681 * tx + 681 → T1 i = T i) : scN σ1 T1 x tx N := by
  obtain ⟨h1, h2, h3, h4, h5⟩ := h
  refine ⟨h1, h2, by rw [e _ (by omega) (by omega)]; exact h3, by rw [c1]; exact h4, fun k hk => ?_⟩
  rw [e _ (by omega) (by omega), e _ (by omega) (by omega), e _ (by omega) (by omega), c2 _ (by omega) (by omega), c2 _ (by omega) (by omega), c2 _ (by omega) (by omega)]
  exact h5 k hk
theorem ud_1 (A : Nat → Int) (v : Int) (h5 : A 0 ≤ 5) {q : Nat} (hq : q < 30) {j : Nat} (hj : idx j) : ud (va_up A 1 v) q j = ud A q j := by
  have e : ∀ i, i ≠ 1 → va_up A 1 v i = A i := fun i h => va_up_ne _ _ h
  have ep : pz (va_up A 1 v) q = pz A q := by unfold pz; rw [e _ (by omega)]
  have j1 : j ≠ 1 := by unfold idx at hj; omega
  rw [ud_at A q j hq h5, ud_at (va_up A 1 v) q j hq (by rw [e 0 (by decide)]; exact h5), ep, e 0 (by decide), e j j1]
  by_cases c1 : 1553 ≤ j ∧ j < 1583
  · rw [if_pos c1, if_pos c1, e _ (by omega)]
  · rw [if_neg c1, if_neg c1]
    by_cases c2 : 19 + pz A q ≤ j ∧ (j : Int) < 19 + A 0
    · rw [if_pos c2, if_pos c2, e _ (by omega)]
    · rw [if_neg c2, if_neg c2]
      by_cases c3 : 5 ≤ j ∧ j < 24
      · rw [if_pos c3, if_pos c3, e _ (by omega)]
      · rw [if_neg c3, if_neg c3]
/-- a text more is counted -/
theorem twR_tx {σ σ1 : gS} {A : Nat → Int} {c nt : Int} (ok : okR c nt A) (tw : twR σ 1 A) {v : Int} (h1 : ∀ j, j ≠ 7 → σ1.1 1 j = σ.1 1 j) (h7 : σ1.1 1 7 = v) (ho : ∀ a, 2 ≤ a → a < 161 → σ1.1 a = σ.1 a ∧ σ1.2.1 a = σ.2.1 a ∧ σ1.2.2.2.2 a = σ.2.2.2.2 a) : twR σ1 1 (va_up A 1 v) := by
  obtain ⟨t1, t2, t3, t4, π, hπ, hin, hst⟩ := tw
  have e : ∀ i, i ≠ 1 → va_up A 1 v i = A i := fun i h => va_up_ne _ _ h
  have g := ok.1
  have a3 := ok.2.2.2.1
  have tr : ∀ s B, 2 ≤ s → s + 5 ≤ 161 → trS 1 σ s B → trS 1 σ1 s B := fun s B x y h => by
    unfold trS
    rw [(ho (s + 1) (by omega) (by omega)).2.1, (ho (s + 2) (by omega) (by omega)).2.1, (ho (s + 3) (by omega) (by omega)).2.1, (ho s (by omega) (by omega)).1]
    exact h
  refine ⟨trS_cong (tr 2 A (by omega) (by omega) t1) g.1.2 (fun _ => g.2.2.2.2.1.2) (fun i hi => e i (by unfold idx at hi; omega)), ?_, fun h hh => ?_, fun i hi => ?_, π, fun i hi => ?_, hin, fun i hi => ?_⟩
  · rw [h1 2 (by decide), h1 6 (by decide), h1 8 (by decide), h7, e 3 (by decide), e 4 (by decide), e 2 (by decide), va_up_self]
    exact ⟨t2.1, t2.2.1, rfl, t2.2.2.2⟩
  · rw [(ho (1 + 7) (by omega) (by omega)).2.1, e _ (by omega)]; exact t3 h hh
  · rw [e 4 (by decide)] at hi
    rw [(ho (1 + 8) (by omega) (by omega)).2.1, (ho (1 + 9) (by omega) (by omega)).2.1, e _ (by omega), e _ (by omega)]
    exact t4 i hi
  · rw [(ho (1 + 6) (by omega) (by omega)).2.2]; exact hπ i hi
  · rw [e 3 (by decide)] at hi
    have p := hπ i (by omega)
    have u := ud_05 ok hi
    exact trS_cong (tr (π i) _ (by omega) (by omega) (hst i hi)) u.1 (fun _ => u.2) (fun j hj => ud_1 A v g.1.2 (by omega) hj)
theorem j_text {d : Nat} {τ : gS} {W V : wF} {c : Int} (hd : 100 ≤ d) (J : JM τ W V c ∧ JC τ W V) : jP mX6_text mX7_text d [] τ (c + 80) := by
  have J0 := J
  obtain ⟨j1, j2, j3, ⟨j23, j26, j4, j10⟩, jw, jt, j73, jb⟩ := J.1
  obtain ⟨k1, k2, ⟨k4, kb⟩, ⟨k5, k6⟩, kr, kT0⟩ := J.2
  have tw7 : τ.1 1 7 = τ.2.1 385 1 := k1.1.2.1.2.2.1
  by_cases q4 : τ.2.1 385 1 = 4
  · refine sC_imp ?_ (x_text0 (d := d) τ (tw7.trans q4))
    rintro r σ1 ⟨e1, e2⟩
    subst e2
    refine ⟨_, e1, ?_⟩
    have m := m_text0 (d := d) σ1 (σ1.2.1 385) (σ1.1 384) q4
    rw [ms_self] at m
    refine sC_imp ?_ m
    rintro r2 σ2 ⟨f1, f2⟩
    subst f2
    exact ⟨f1, J_self J0⟩
  obtain ⟨tx, et⟩ : ∃ tx : Nat, τ.2.1 385 1 = (tx : Int) := ⟨(τ.2.1 385 1).toNat, by omega⟩
  have htx : tx < 4 := by omega
  obtain ⟨n, en⟩ : ∃ n : Nat, τ.1 384 4 = (n : Int) := ⟨(τ.1 384 4).toNat, by omega⟩
  have hn3 : n ≤ 300 := by omega
  refine sC_imp ?_ (x_text (d := d) (n := n) (tx := tx) (b := τ.2.1 388) (by omega) τ (tw7.trans et) htx k1.2.2.2.1 kT0 (k4.trans en) hn3 kb (fun i _ => jb i) (kr tx htx).1)
  rintro r σ1 ⟨e1, σ2, e2, ch, zT, z328, z333, zC, z35, zF, kT, hkT, ekT⟩
  refine ⟨_, e1, ?_⟩
  generalize hq : txE (tkA (τ.2.1 388) n) (nuA (τ.2.1 388) n) 301 0 [] = q at *
  have p12 : ∀ a, a ≠ 1 → σ1.1 a = σ2.1 a := fun a h => by
    rw [e2]
    split
    · exact up2_ne (a := 1) (x := a) σ2.1 7 _ h
    · rfl
  have p2 : σ1.2 = σ2.2 := by
    rw [e2]
    split
    · rfl
    · rfl
  have hiS : ∀ a, 384 ≤ a → ¬ xtP (340 + 6 * tx) a := fun a h z => by unfold xtP lexP txP at z; omega
  have e4 : σ1.1 384 = τ.1 384 := (p12 384 (by decide)).trans (ch.1 384 (hiS _ (by decide))).1
  have er : ∀ a, 384 ≤ a → σ1.2.1 a = τ.2.1 a := fun a h => by rw [p2]; exact (ch.1 a (hiS a h)).2.1
  have ew : σ1.2.2.2.1 = τ.2.2.2.1 := by rw [p2]; exact ch.2
  have m := m_text (d := d) (n := n) (tx := tx) (b := τ.2.1 388) (w0 := σ1.2.2.2.1) (nT := kT) (by omega) σ1 (σ1.2.1 385) (σ1.1 384) (σ1.2.1 387) (σ1.2.1 389) hn3 (er 388 (by decide)) (fun i _ => jb i) htx (by rw [er 385 (by decide)]; exact et) (by rw [e4]; exact en) (by rw [e4]; exact j10) (by rw [ew]; exact jw) (by rw [er 387 (by decide)]; exact j73 tx htx) (by omega) (tk_end ekT)
  rw [pt_self, ms_self, hq] at m
  refine sC_imp ?_ m
  rintro r2 σ3 ⟨f1, w1, T1, P1, F1, f2, g4, g5, g6, g10, gw, gF, gS1, gD⟩
  refine ⟨f1, ?_⟩
  rw [er 385 (by decide)] at f2
  rw [e4] at gF
  rw [er 387 (by decide)] at gS1
  have ms1 := ms_1 (pt σ1 T1 P1 w1) (if q.1 = 0 then va_up (τ.2.1 385) 1 ((tx : Int) + 1) else τ.2.1 385) F1
  rw [← f2] at ms1
  have ps := pt_1 σ1 T1 P1 w1
  have s7 : σ3.2.1 387 = T1 := (ms1.2.2.2.1 387 (by decide)).trans ps.2.1
  have sr : ∀ a, a ≠ 385 → a ≠ 387 → a ≠ 389 → σ3.2.1 a = σ1.2.1 a := fun a h h2 h3 => (ms1.2.2.2.1 a h).trans (ps.2.2.1 a h2 h3)
  have s6 : σ3.2.1 386 = τ.2.1 386 := (sr 386 (by decide) (by decide) (by decide)).trans (er 386 (by decide))
  have s8 : σ3.2.1 388 = τ.2.1 388 := (sr 388 (by decide) (by decide) (by decide)).trans (er 388 (by decide))
  have sw : σ3.2.2.2.1 = w1 := by rw [ms1.2.2.2.2]; exact ps.2.2.2.2.1
  have sT : σ3.2.2.2.2 = σ2.2.2.2.2 := by rw [ms1.2.2.2.2, ps.2.2.2.2.2, p2]
  -- places of the class
  have lo2 : ∀ a, a < 384 → a ≠ 1 → σ3.1 a = σ2.1 a ∧ σ3.2.1 a = σ2.2.1 a := fun a h h1 => ⟨((ms1.2.2.1 a (by omega)).trans (by rw [ps.1])).trans (p12 a h1), (sr a (by omega) (by omega) (by omega)).trans (by rw [p2])⟩
  have lo3 : ∀ a, a < 384 → a ≠ 1 → ¬ xtP (340 + 6 * tx) a → σ3.1 a = τ.1 a ∧ σ3.2.1 a = τ.2.1 a ∧ σ3.2.2.2.2 a = τ.2.2.2.2 a := fun a h h1 hx => ⟨(lo2 a h h1).1.trans (ch.1 a hx).1, (lo2 a h h1).2.trans (ch.1 a hx).2.1, by rw [sT]; exact (ch.1 a hx).2.2.1⟩
  have oth : ∀ t : Nat, t < tx → σ3.1 (340 + 6 * t) = τ.1 (340 + 6 * t) ∧ ∀ a, 340 + 6 * t ≤ a → a ≤ 340 + 6 * t + 4 → σ3.2.1 a = τ.2.1 a := fun t ht => ⟨(lo3 _ (by omega) (by omega) (by unfold xtP lexP txP; omega)).1, fun a x y => (lo3 a (by omega) (by omega) (by unfold xtP lexP txP; omega)).2.1⟩
  have lawO : ∀ (W1 V1 : wF) (t : Int), -1 ≤ t → t < (tx : Int) → W1 t = W t → V1 t = V t → lawR σ3 W1 V1 t := by
    intro W1 V1 t a b eW eV
    refine lawR_at (k1.2.2.1 t a (by rw [et]; exact b)) eW eV ?_ ?_
    · unfold txp
      by_cases z : t = -1
      · rw [if_pos z]; exact (lo3 322 (by decide) (by decide) (by unfold xtP lexP txP; omega)).1
      · rw [if_neg z]; exact (oth t.toNat (by omega)).1
    · unfold txp
      by_cases z : t = -1
      · rw [if_pos z]; exact (lo3 323 (by decide) (by decide) (by unfold xtP lexP txP; omega)).2.1
      · rw [if_neg z]; exact (oth t.toNat (by omega)).2 _ (by omega) (by omega)
  have tw161 : twR σ3 161 (τ.2.1 386) := by
    obtain ⟨t1, t2, t3, t4, π, hπ, hin, hst⟩ := k1.2.1
    have p3 : ∀ a, 161 ≤ a → a < 321 → σ3.1 a = τ.1 a ∧ σ3.2.1 a = τ.2.1 a ∧ σ3.2.2.2.2 a = τ.2.2.2.2 a := fun a x y => lo3 a (by omega) (by omega) (by unfold xtP lexP txP; omega)
    have a3 := j2.2.2.2.1
    have tr : ∀ s B, 161 ≤ s → s + 5 ≤ 321 → trS 1 τ s B → trS 1 σ3 s B := fun s B x y h => by
      unfold trS
      rw [(p3 (s + 1) (by omega) (by omega)).2.1, (p3 (s + 2) (by omega) (by omega)).2.1, (p3 (s + 3) (by omega) (by omega)).2.1, (p3 s (by omega) (by omega)).1]
      exact h
    refine ⟨tr 162 _ (by omega) (by omega) t1, by rw [(p3 161 (by omega) (by omega)).1]; exact t2, fun h hh => by rw [(p3 168 (by omega) (by omega)).2.1]; exact t3 h hh, fun i hi => by rw [(p3 169 (by omega) (by omega)).2.1, (p3 170 (by omega) (by omega)).2.1]; exact t4 i hi, π, fun i hi => by rw [(p3 167 (by omega) (by omega)).2.2]; exact hπ i hi, hin, fun i hi => ?_⟩
    have p := hπ i (by omega)
    exact tr (π i) _ (by omega) (by omega) (hst i hi)
  have r321 : ∀ i, i < 4 → σ3.2.2.2.2 321 i = some (340 + 6 * i) := fun i hi => by rw [(lo3 321 (by decide) (by decide) (by unfold xtP lexP txP; omega)).2.2]; exact k1.2.2.2.1 i hi
  have r334 : ∀ i, i < 4 → σ3.2.2.2.2 334 i = some (364 + 5 * i) := fun i hi => by rw [(lo3 334 (by decide) (by decide) (by unfold xtP lexP txP; omega)).2.2]; exact k1.2.2.2.2 i hi
  have h73 : ∀ t, t < 4 → ∀ i, i < 73 → inR (T1 (681 * t + i)) := by
    intro t ht i hi
    by_cases z : t = tx
    · rw [z]; exact gS1.2 i hi
    · rw [gS1.1 _ (by omega)]; exact j73 t ht i hi
  have tO : ∀ (W1 V1 : wF) (t : Nat), t < tx → W1 (t : Int) = W (t : Int) → V1 (t : Int) = V (t : Int) → tOK T1 W1 V1 t := fun W1 V1 t ht eW eV => tOK_cg (jt.2 t (by omega)) eW eV (fun i a b => gS1.1 i (by omega))
  have scO : ∀ t : Nat, t < tx → ∃ N, scN σ3 T1 (340 + 6 * t) t N := fun t ht => by
    obtain ⟨N, sc⟩ := k2 t (by omega)
    exact ⟨N, scN_at sc (oth t ht).1 (oth t ht).2 (fun i a b => gS1.1 i (by omega))⟩
  have slots : ∀ t, t < 4 → (∀ i, i < 300 → 0 ≤ σ3.2.1 (340 + 6 * t + 1) i ∧ σ3.2.1 (340 + 6 * t + 1) i ≤ 1000000) ∧ inR (σ3.1 (340 + 6 * t) 3) ∧ inR (σ3.1 (340 + 6 * t) 5) := by
    intro t ht
    by_cases z : t = tx
    · subst z
      rw [(lo2 (340 + 6 * t + 1) (by omega) (by omega)).2, (lo2 (340 + 6 * t) (by omega) (by omega)).1]
      exact ⟨zC, z35 (kr t ht).2.1 (kr t ht).2.2⟩
    · rw [(lo3 (340 + 6 * t + 1) (by omega) (by omega) (by unfold xtP lexP txP; omega)).2.1, (lo3 (340 + 6 * t) (by omega) (by omega) (by unfold xtP lexP txP; omega)).1]
      exact kr t ht
  have tape1 : σ3.1 328 1 = σ3.1 384 4 := by rw [(lo2 328 (by decide) (by decide)).1, ms1.1, g4]; exact z328
  have tape2 : σ3.2.1 329 = σ3.2.1 388 := by rw [(lo3 329 (by decide) (by decide) (by unfold xtP lexP txP; omega)).2.1, s8]; exact kb
  have fa1 : σ3.1 333 0 = σ3.1 384 5 := by rw [(lo2 333 (by decide) (by decide)).1, ms1.1, g5]; exact z333.1
  have fa2 : σ3.1 333 1 = σ3.1 384 6 := by rw [(lo2 333 (by decide) (by decide)).1, ms1.1, g6]; exact z333.2
  have flds : σ3.1 384 23 = 1 ∧ 0 ≤ σ3.1 384 26 ∧ (0 ≤ σ3.1 384 4 ∧ σ3.1 384 4 ≤ 300) ∧ 0 ≤ σ3.1 384 10 ∧ σ3.1 384 10 ≤ 1000000 := by
    rw [ms1.1, gF 23 (by decide), gF 26 (by decide), g4]
    exact ⟨j23, j26, by omega, g10⟩
  by_cases q0 : q.1 = 0
  · rw [if_pos q0] at ms1 e2
    obtain ⟨D1, d1, d2, d3, d4, d5⟩ := gD q0
    have uq : uqC (tkA (τ.2.1 388) n) (nuA (τ.2.1 388) n) q.2.2 := by rw [← hq]; exact tx_uq (fun k => (tkA_ran _ n k).1) 301 0 [] trivial
    have tF : txF σ3 (340 + 6 * tx) (tkA (τ.2.1 388) n) (nuA (τ.2.1 388) n) q.2.2 := by
      have h := zF q0
      unfold txF at *
      rw [(lo2 (340 + 6 * tx) (by omega) (by omega)).1, (lo2 (340 + 6 * tx + 1) (by omega) (by omega)).2, (lo2 (340 + 6 * tx + 2) (by omega) (by omega)).2, (lo2 (340 + 6 * tx + 3) (by omega) (by omega)).2, (lo2 (340 + 6 * tx + 4) (by omega) (by omega)).2]
      exact h
    have A1 : va_up (τ.2.1 385) 1 ((tx : Int) + 1) 1 = (tx : Int) + 1 := va_up_self _ _ _
    have Ao : ∀ i, i ≠ 1 → va_up (τ.2.1 385) 1 ((tx : Int) + 1) i = τ.2.1 385 i := fun i h => va_up_ne _ _ h
    have a2 := ok_2 j1
    have okA : okR (c + 80) ((tx : Int) + 1) (va_up (τ.2.1 385) 1 ((tx : Int) + 1)) := by
      refine okR_mono (okR_mark j1 (fun i h => Ao i (fun z => h (Or.inl z))) A1 (by rw [Ao 2 (by decide)]; omega) (by rw [Ao 4 (by decide)]; exact j1.2.2.2.2.1) (fun h hh => by rw [Ao _ (by omega)]; exact j1.2.2.2.2.2.1 h hh) (fun i hi => ?_)) (by omega)
      rw [Ao 4 (by decide)] at hi
      rw [Ao _ (by omega), Ao _ (by omega)]
      exact j1.2.2.2.2.2.2.1 i hi
    have W0 : ∀ t : Int, t ≠ (tx : Int) → (if t = (tx : Int) then wT (tkA (τ.2.1 388) n) (nuA (τ.2.1 388) n) q.2.2 else W t) = W t := fun t h => if_neg h
    have V0 : ∀ t : Int, t ≠ (tx : Int) → (if t = (tx : Int) then vT (tkA (τ.2.1 388) n) (nuA (τ.2.1 388) n) q.2.2 else V t) = V t := fun t h => if_neg h
    refine ⟨fun t => if t = (tx : Int) then wT (tkA (τ.2.1 388) n) (nuA (τ.2.1 388) n) q.2.2 else W t, fun t => if t = (tx : Int) then vT (tkA (τ.2.1 388) n) (nuA (τ.2.1 388) n) q.2.2 else V t, ⟨?_, ?_, ?_, flds, by rw [sw]; exact gw, ⟨?_, ?_⟩, by rw [s7]; exact h73, by rw [s8]; exact jb⟩, ⟨⟨?_, ?_, ?_, r321, r334⟩, ?_, ⟨tape1, tape2⟩, ⟨fa1, fa2⟩, slots, by rw [sT]; exact zT⟩⟩
    · rw [ms1.2.1, A1]; exact okA
    · rw [s6]; exact okR_mono j2 (by omega)
    · rw [s6, ms1.2.1, A1]; omega
    · exact ⟨fun B h => (congrFun (congrFun (W0 (-1) (by omega)) B) h).trans (jt.1.1 B h), fun B h => (congrFun (congrFun (V0 (-1) (by omega)) B) h).trans (jt.1.2 B h)⟩
    · rw [s7, ms1.2.1, A1]
      intro t ht
      by_cases z : t = tx
      · subst z
        exact ⟨_, _, _, D1, if_pos rfl, if_pos rfl, d1, d5, d2, d4, d3, uq⟩
      · exact tO _ _ t (by omega) (W0 _ (by omega)) (V0 _ (by omega))
    · rw [ms1.2.1]
      refine twR_tx j1 k1.1 (fun j hj => ?_) ?_ (fun a x y => lo3 a (by omega) (by omega) (by unfold xtP lexP txP; omega))
      · rw [ms1.2.2.1 1 (by decide), ps.1, e2]
        show up2 σ2.1 1 7 ((tx : Int) + 1) 1 j = _
        rw [up2_eq, va_up_ne _ _ hj, (ch.1 1 (by unfold xtP lexP txP; omega)).1]
      · rw [ms1.2.2.1 1 (by decide), ps.1, e2]
        exact up2_at σ2.1 1 7 ((tx : Int) + 1)
    · rw [s6]; exact tw161
    · rw [ms1.2.1, A1]
      intro t a b
      by_cases z : t = (tx : Int)
      · subst z
        have L := law_txF (kd_sl htx) tF (slots tx htx).2.1 (slots tx htx).2.2 (slots tx htx).1
        have ep : txp (tx : Int) = 340 + 6 * tx := by unfold txp; rw [if_neg (by omega), Int.toNat_natCast]
        unfold lawR
        dsimp only
        rw [ep, if_pos rfl, if_pos rfl]
        exact L
      · exact lawO _ _ t a (by omega) (W0 t z) (V0 t z)
    · rw [s7, ms1.2.1, A1]
      intro t ht
      by_cases z : t = tx
      · subst z
        exact ⟨_, scN_tx (kd_sl htx) tF d1 gS1.2 d3 uq⟩
      · exact scO t (by omega)
  · rw [if_neg q0] at ms1 e2
    refine ⟨W, V, ⟨?_, ?_, ?_, flds, by rw [sw]; exact gw, ⟨jt.1, ?_⟩, by rw [s7]; exact h73, by rw [s8]; exact jb⟩, ⟨⟨?_, ?_, ?_, r321, r334⟩, ?_, ⟨tape1, tape2⟩, ⟨fa1, fa2⟩, slots, by rw [sT]; exact zT⟩⟩
    · rw [ms1.2.1]; exact okR_mono j1 (by omega)
    · rw [s6]; exact okR_mono j2 (by omega)
    · rw [s6, ms1.2.1]; exact j3
    · rw [s7, ms1.2.1, et]
      intro t ht
      exact tO W V t (by omega) rfl rfl
    · rw [ms1.2.1]
      have ov : va_up (τ.2.1 385) 1 (τ.2.1 385 1) = τ.2.1 385 := by
        funext x; by_cases h : x = 1
        · rw [h, va_up_self]
        · exact va_up_ne _ _ h
      rw [← ov]
      refine twR_tx j1 k1.1 (fun j hj => ?_) ?_ (fun a x y => lo3 a (by omega) (by omega) (by unfold xtP lexP txP; omega))
      · rw [ms1.2.2.1 1 (by decide), ps.1, e2, (ch.1 1 (by unfold xtP lexP txP; omega)).1]
      · rw [ms1.2.2.1 1 (by decide), ps.1, e2, (ch.1 1 (by unfold xtP lexP txP; omega)).1]
        exact tw7
    · rw [s6]; exact tw161
    · rw [ms1.2.1, et]
      intro t a b
      exact lawO W V t a b rfl rfl
    · rw [s7, ms1.2.1, et]
      intro t ht
      exact scO t (by omega)
