/-! ===== class and model side by side ===== -/
/-- slot t of the model's texts says W, V -/
def tOK (T : Nat → Int) (W V : wF) (t : Nat) : Prop := ∃ (tk nu : Nat → Int) (cs : List Nat) (D : List (Int × Int)), W (t : Int) = wT tk nu cs ∧ V (t : Int) = vT tk nu cs ∧ T (681 * t) = ((cs.length : Nat) : Int) ∧ cs.length ≤ 24 ∧ dR T (681 * t + 73) D ∧ D.length ≤ 300 ∧ clsM tk nu T D t cs ∧ uqC tk nu cs
def JM (τ : gS) (W V : wF) (c : Int) : Prop :=
  okR c (τ.2.1 385 1) (τ.2.1 385) ∧ okR c (τ.2.1 386 1) (τ.2.1 386) ∧ (0 ≤ τ.2.1 386 1 ∧ τ.2.1 386 1 ≤ τ.2.1 385 1 ∧ τ.2.1 385 1 ≤ 4) ∧ (τ.1 384 23 = 1 ∧ 0 ≤ τ.1 384 26 ∧ (0 ≤ τ.1 384 4 ∧ τ.1 384 4 ≤ 300) ∧ 0 ≤ τ.1 384 10 ∧ τ.1 384 10 ≤ 1000000) ∧ (0 ≤ τ.2.2.2.1 ∧ τ.2.2.2.1 ≤ 1152921504606846976) ∧ (((∀ B h, W (-1) B h = 0) ∧ ∀ B h, V (-1) B h = 1 + B 7) ∧ ∀ t : Nat, (t : Int) < τ.2.1 385 1 → tOK (τ.2.1 387) W V t) ∧ (∀ tx, tx < 4 → ∀ i, i < 73 → inR (τ.2.1 387 (681 * tx + i))) ∧ ∀ i, 0 ≤ τ.2.1 388 i ∧ τ.2.1 388 i < 256
def JC (τ : gS) (W V : wF) : Prop := clR τ W V (τ.2.1 385) (τ.2.1 386) ∧ (∀ tx : Nat, (tx : Int) < τ.2.1 385 1 → ∃ N, scN τ (τ.2.1 387) (340 + 6 * tx) tx N) ∧ (τ.1 328 1 = τ.1 384 4 ∧ τ.2.1 329 = τ.2.1 388) ∧ (τ.1 333 0 = τ.1 384 5 ∧ τ.1 333 1 = τ.1 384 6) ∧ (∀ tx, tx < 4 → (∀ i, i < 300 → 0 ≤ τ.2.1 (340 + 6 * tx + 1) i ∧ τ.2.1 (340 + 6 * tx + 1) i ≤ 1000000) ∧ inR (τ.1 (340 + 6 * tx) 3) ∧ inR (τ.1 (340 + 6 * tx) 5)) ∧ τ.2.2.2.2 333 2 = some 328
def JJ (τ : gS) (c : Int) : Prop := ∃ W V, JM τ W V c ∧ JC τ W V
/-- class and model do the same from τ on -/
def jP (MX MM : gM) (d : Nat) (as : List Value) (τ : gS) (c' : Int) : Prop := sC MX d (.ref 0 :: as) τ (fun r σ1 => ∃ z : Int, r = some (.int (iZ z)) ∧ sC MM d (.ref 384 :: as) σ1 (fun r2 σ2 => r2 = some (.int (iZ z)) ∧ JJ σ2 c'))
theorem JM_say {T : Nat → Int} {W V : wF} {nt : Int} (hn4 : nt ≤ 4) (h0 : (∀ B h, W (-1) B h = 0) ∧ ∀ B h, V (-1) B h = 1 + B 7) (ht : ∀ t : Nat, (t : Int) < nt → tOK T W V t) (h73 : ∀ tx, tx < 4 → ∀ i, i < 73 → inR (T (681 * tx + i))) {t : Int} (a : -1 ≤ t) (b : t < nt) {A : Nat → Int} (g : gd 100000 4 A) {h : Nat} (hh : h < 8) : (sayOK A T t 0 0 h (W t A h) ∧ 0 ≤ W t A h ∧ W t A h ≤ 9) ∧ sayOK A T t 1 (1 + A 7) h (V t A h) ∧ 0 ≤ V t A h ∧ V t A h ≤ 9 := by
  by_cases q : t = -1
  · subst q
    have g7 := g.2.2.2.2.2.2.2.1
    rw [h0.1, h0.2]
    exact ⟨⟨Or.inl ⟨rfl, rfl⟩, by omega, by omega⟩, Or.inl ⟨rfl, rfl⟩, by omega, by omega⟩
  · obtain ⟨k, ek⟩ : ∃ k : Nat, t = (k : Int) := ⟨t.toNat, by omega⟩
    subst ek
    obtain ⟨tk, nu, cs, D, e1, e2, e3, e4, e5, e6, e7, e8⟩ := ht k b
    have s := say_tx (by omega) e3 e4 (h73 k (by omega)) e5 e6 e7 e8 g hh
    rw [e1, e2]
    have g7 := g.2.2.2.2.2.2.2.1
    refine ⟨⟨s.1, ?_⟩, s.2, ?_⟩
    · unfold wT
      split
      · omega
      · exact mCut_ran _
    · unfold vT
      split
      · omega
      · exact mCut_ran _
theorem JM_W {τ : gS} {W V : wF} {c : Int} (h : JM τ W V c) : wOK (τ.2.1 387) 100000 (τ.2.1 385 1) W ∧ vOK (τ.2.1 387) 100000 (τ.2.1 385 1) V :=
  ⟨fun A t g a b k hk => (JM_say h.2.2.1.2.2 h.2.2.2.2.2.1.1 h.2.2.2.2.2.1.2 h.2.2.2.2.2.2.1 a b (gd_ntm g h.2.2.1.2.2) hk).1, fun A t g a b k hk => (JM_say h.2.2.1.2.2 h.2.2.2.2.2.1.1 h.2.2.2.2.2.1.2 h.2.2.2.2.2.2.1 a b (gd_ntm g h.2.2.1.2.2) hk).2⟩
theorem ms_self (τ : gS) : ms τ (τ.2.1 385) (τ.1 384) = τ := by
  have e1 : va_up τ.1 384 (τ.1 384) = τ.1 := by
    funext x; by_cases h : x = 384
    · subst h; exact va_up_self _ _ _
    · exact va_up_ne _ _ h
  have e2 : va_up τ.2.1 385 (τ.2.1 385) = τ.2.1 := by
    funext x; by_cases h : x = 385
    · subst h; exact va_up_self _ _ _
    · exact va_up_ne _ _ h
  unfold ms
  rw [e1, e2]
theorem ms_1 (σ : gS) (A F : Nat → Int) : (ms σ A F).1 384 = F ∧ (ms σ A F).2.1 385 = A ∧ (∀ a, a ≠ 384 → (ms σ A F).1 a = σ.1 a) ∧ (∀ a, a ≠ 385 → (ms σ A F).2.1 a = σ.2.1 a) ∧ (ms σ A F).2.2 = σ.2.2 := by
  refine ⟨?_, ?_, fun a h => ?_, fun a h => ?_, rfl⟩
  · show va_up σ.1 384 F 384 = F; exact va_up_self _ _ _
  · show va_up σ.2.1 385 A 385 = A; exact va_up_self _ _ _
  · show va_up σ.1 384 F a = _; exact va_up_ne _ _ h
  · show va_up σ.2.1 385 A a = _; exact va_up_ne _ _ h
def hiP (a : Nat) : Prop := 384 ≤ a
theorem chg_hi {σ σ3 : gS} (e : eqX σ σ3) (A F : Nat → Int) : chg hiP σ (ms σ3 A F) := by
  have m := ms_1 σ3 A F
  refine ⟨fun a h => ?_, ?_⟩
  · have h : ¬ 384 ≤ a := h
    exact ⟨by rw [m.2.2.1 a (by omega), e.1], by rw [m.2.2.2.1 a (by omega)]; exact e.2.1 a (by omega), by rw [m.2.2.2.2, e.2.2.2], by rw [m.2.2.2.2]; exact e.2.2.1 a (by omega)⟩
  · rw [m.2.2.2.2, e.2.2.2]
theorem clR_hi {σ σ1 : gS} {W V : wF} {A I : Nat → Int} (h3 : A 3 ≤ 30) (i3 : I 3 ≤ 30) (C : clR σ W V A I) (h : chg hiP σ σ1) : clR σ1 W V A I := by
  refine ⟨twR_ch C.1 h (fun a x y => by unfold hiP; omega) h3, twR_ch C.2.1 h (fun a x y => by unfold hiP; omega) i3, fun t h1 h2 => lawR_ch (C.2.2.1 t h1 h2) h (fun a x y => by unfold hiP; omega), fun i hi => ?_, fun i hi => ?_⟩
  · rw [(h.1 321 (by unfold hiP; omega)).2.2.1]; exact C.2.2.2.1 i hi
  · rw [(h.1 334 (by unfold hiP; omega)).2.2.1]; exact C.2.2.2.2 i hi
theorem scN_hi {σ σ1 : gS} {T : Nat → Int} {x tx N : Nat} (h : scN σ T x tx N) (c : chg hiP σ σ1) : scN σ1 T x tx N := scN_ch h c (fun a x y => by unfold hiP; omega)
/-- the class has done its part: what the model's part needs -/
theorem JM_lo {τ σ1 : gS} {S : Nat → Prop} (hS : ∀ a, S a → a < 384) (h : chg S τ σ1) : (∀ a, 384 ≤ a → σ1.1 a = τ.1 a ∧ σ1.2.1 a = τ.2.1 a) ∧ σ1.2.2.2.1 = τ.2.2.2.1 :=
  ⟨fun a ha => ⟨(h.1 a (fun q => by have := hS a q; omega)).1, (h.1 a (fun q => by have := hS a q; omega)).2.1⟩, h.2⟩
theorem cmd_lo (a : Nat) (h : cmdP a) : a < 384 := by unfold cmdP inT scrQ stkP at h; omega
/-- a command that is done on both sides alike -/
theorem j_cmd {MX MM : gM} {as : List Value} {d : Nat} {τ : gS} {W V : wF} {c c' : Int} {z : Int} {A' : Nat → Int} (J : JM τ W V c ∧ JC τ W V) (hX : sC MX d (.ref 0 :: as) τ (fun r σ' => r = some (.int (iZ z)) ∧ chg cmdP τ σ' ∧ clR σ' W V A' (τ.2.1 386))) (hM : ∀ σ1 : gS, σ1.2.1 387 = τ.2.1 387 → σ1.2.1 386 = τ.2.1 386 → sC MM d (.ref 384 :: as) (ms σ1 (τ.2.1 385) (τ.1 384)) (fun r σ' => r = some (.int (iZ z)) ∧ ∃ σ3 F', σ' = ms σ3 A' F' ∧ eqX σ1 σ3 ∧ fS (τ.1 384) F')) (ok : okR c' (τ.2.1 385 1) A') (hcc : c ≤ c') : jP MX MM d as τ c' := by
  refine sC_imp ?_ hX
  rintro r σ1 ⟨e1, ch, C1⟩
  refine ⟨z, e1, ?_⟩
  obtain ⟨j1, j2, j3, ⟨j23, j26, j4, j10⟩, jw, jt, j73, jb⟩ := J.1
  obtain ⟨k1, k2, ⟨k4, kb⟩, ⟨k5, k6⟩, kr, kT0⟩ := J.2
  have lo := JM_lo cmd_lo ch
  have e5 := (lo.1 385 (by decide)).2
  have e6 := (lo.1 386 (by decide)).2
  have e7 := (lo.1 387 (by decide)).2
  have e8 := (lo.1 388 (by decide)).2
  have eF := (lo.1 384 (by decide)).1
  have q := hM σ1 e7 e6
  rw [← e5, ← eF, ms_self] at q
  refine sC_imp ?_ q
  rintro r2 σ2 ⟨f1, σ3, F', f2, f3, f4⟩
  subst f2
  rw [eF] at f4
  have m := ms_1 σ3 A' F'
  have chi := chg_hi f3 A' F'
  have g6 : (ms σ3 A' F').2.1 386 = τ.2.1 386 := (m.2.2.2.1 386 (by decide)).trans ((f3.2.1 386 (by decide)).trans e6)
  have g7 : (ms σ3 A' F').2.1 387 = τ.2.1 387 := (m.2.2.2.1 387 (by decide)).trans ((f3.2.1 387 (by decide)).trans e7)
  have g8 : (ms σ3 A' F').2.1 388 = τ.2.1 388 := (m.2.2.2.1 388 (by decide)).trans ((f3.2.1 388 (by decide)).trans e8)
  have gw : (ms σ3 A' F').2.2.2.1 = τ.2.2.2.1 := by rw [m.2.2.2.2, f3.2.2.2]; exact lo.2
  have a1 : A' 1 = τ.2.1 385 1 := ok.2.2.1
  have fk : ∀ k, k ≠ 24 → k ≠ 25 → k ≠ 26 → k ≠ 29 → k ≠ 30 → k ≠ 31 → k ≠ 35 → F' k = τ.1 384 k := f4.1
  have pl : ∀ a, a < 384 → ¬ cmdP a → (ms σ3 A' F').1 a = τ.1 a ∧ (ms σ3 A' F').2.1 a = τ.2.1 a := fun a ha hc => ⟨(chi.1 a (by unfold hiP; omega)).1.trans (ch.1 a hc).1, (chi.1 a (by unfold hiP; omega)).2.1.trans (ch.1 a hc).2.1⟩
  refine ⟨f1, W, V, ⟨?_, ?_, ?_, ?_, ?_, ?_, ?_, ?_⟩, ⟨?_, ?_, ⟨?_, ?_⟩, ⟨?_, ?_⟩, ?_, ?_⟩⟩
  · rw [m.2.1, a1]; exact ok
  · rw [g6]; exact okR_mono j2 hcc
  · rw [g6, m.2.1, a1]; exact j3
  · rw [m.1, fk 23 (by decide) (by decide) (by decide) (by decide) (by decide) (by decide) (by decide), fk 4 (by decide) (by decide) (by decide) (by decide) (by decide) (by decide) (by decide), fk 10 (by decide) (by decide) (by decide) (by decide) (by decide) (by decide) (by decide)]
    exact ⟨j23, f4.2, j4, j10⟩
  · rw [gw]; exact jw
  · rw [m.2.1, a1, g7]; exact jt
  · rw [g7]; exact j73
  · rw [g8]; exact jb
  · rw [m.2.1, g6]
    exact clR_hi ok.2.2.2.1.2 j2.2.2.2.1.2 C1 chi
  · rw [m.2.1, a1, g7]
    intro tx ht
    obtain ⟨N, sc⟩ := k2 tx ht
    exact ⟨N, scN_hi (scN_cmd sc ch) chi⟩
  · rw [(pl 328 (by decide) (by unfold cmdP inT scrQ stkP; omega)).1, m.1, fk 4 (by decide) (by decide) (by decide) (by decide) (by decide) (by decide) (by decide)]
    exact k4
  · rw [(pl 329 (by decide) (by unfold cmdP inT scrQ stkP; omega)).2, g8]
    exact kb
  · rw [(pl 333 (by decide) (by unfold cmdP inT scrQ stkP; omega)).1, m.1, fk 5 (by decide) (by decide) (by decide) (by decide) (by decide) (by decide) (by decide)]
    exact k5
  · rw [(pl 333 (by decide) (by unfold cmdP inT scrQ stkP; omega)).1, m.1, fk 6 (by decide) (by decide) (by decide) (by decide) (by decide) (by decide) (by decide)]
    exact k6
  · intro tx ht
    rw [(pl (340 + 6 * tx + 1) (by omega) (by unfold cmdP inT scrQ stkP; omega)).2, (pl (340 + 6 * tx) (by omega) (by unfold cmdP inT scrQ stkP; omega)).1]
    exact kr tx ht
  · rw [(chi.1 333 (by unfold hiP; omega)).2.2.1, (ch.1 333 (by unfold cmdP inT scrQ stkP; omega)).2.2.1]
    exact kT0
theorem qx_same {τ : gS} {W V : wF} {A I : Nat → Int} {M : gM} {d : Nat} {as : List Value} {z : Int} (C : clR τ W V A I) (h : sC M d as τ (fun r σ' => r = some (.int (iZ z)) ∧ σ' = τ)) : sC M d as τ (fun r σ' => r = some (.int (iZ z)) ∧ chg cmdP τ σ' ∧ clR σ' W V A I) := by
  refine sC_imp ?_ h
  rintro r σ' ⟨e, e2⟩
  subst e2
  exact ⟨e, chg_rf _ _, C⟩
theorem qx_scr {τ : gS} {W V : wF} {A I : Nat → Int} {c nt : Int} (ok : okR c nt A) (oi : okR c (I 1) I) {M : gM} {d : Nat} {as : List Value} {z : Int} (C : clR τ W V A I) (h : sC M d as τ (fun r σ' => r = some (.int (iZ z)) ∧ chg scrQ τ σ')) : sC M d as τ (fun r σ' => r = some (.int (iZ z)) ∧ chg cmdP τ σ' ∧ clR σ' W V A I) := by
  refine sC_imp ?_ h
  rintro r σ' ⟨e, e2⟩
  exact ⟨e, chg_mono e2 (fun a q => Or.inr q), clR_ch ok oi C e2⟩
theorem qm_a {σ : gS} {A F A' : Nat → Int} {M : gM} {d : Nat} {as : List Value} {z : Int} (h26 : 0 ≤ F 26) (h : sC M d as (ms σ A F) (fun r σ' => r = some (.int (iZ z)) ∧ σ' = ms σ A' F)) : sC M d as (ms σ A F) (fun r σ' => r = some (.int (iZ z)) ∧ ∃ σ3 F', σ' = ms σ3 A' F' ∧ eqX σ σ3 ∧ fS F F') := by
  refine sC_imp ?_ h
  rintro r σ' ⟨e, e2⟩
  exact ⟨e, σ, F, e2, eqX_rf σ, fS_rf h26⟩
theorem qm_b {σ : gS} {A F A' F' : Nat → Int} {M : gM} {d : Nat} {as : List Value} {z : Int} (hf : fS F F') (h : sC M d as (ms σ A F) (fun r σ' => r = some (.int (iZ z)) ∧ ∃ σ2, σ' = ms σ2 A' F' ∧ eqS σ σ2)) : sC M d as (ms σ A F) (fun r σ' => r = some (.int (iZ z)) ∧ ∃ σ3 F', σ' = ms σ3 A' F' ∧ eqX σ σ3 ∧ fS F F') := by
  refine sC_imp ?_ h
  rintro r σ' ⟨e, σ2, e2, e3⟩
  exact ⟨e, σ2, F', e2, eqX_S e3, hf⟩
theorem qm_c {σ : gS} {A F A' : Nat → Int} {M : gM} {d : Nat} {as : List Value} {z : Int} (h : sC M d as (ms σ A F) (fun r σ' => r = some (.int (iZ z)) ∧ ∃ σ2 F2, σ' = ms σ2 A' F2 ∧ eqX σ σ2 ∧ fS F F2)) : sC M d as (ms σ A F) (fun r σ' => r = some (.int (iZ z)) ∧ ∃ σ3 F', σ' = ms σ3 A' F' ∧ eqX σ σ3 ∧ fS F F') := h
