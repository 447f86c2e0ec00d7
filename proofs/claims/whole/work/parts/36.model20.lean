/-- all but scratch as in σ, and A set aside -/
def asd (σ : gS) (A : Nat → Int) (σ1 : gS) : Prop := eqX σ σ1 ∧ ∀ i, 5 ≤ i → i < 24 → σ1.2.1 393 i = A i
theorem asd_S {σ σ1 σ2 : gS} {A : Nat → Int} (h : asd σ A σ1) (h2 : eqS σ1 σ2) : asd σ A σ2 := ⟨eqX_tr h.1 (eqX_S h2), fun i a b => by rw [h2.2.1 393 (by decide) (by decide)]; exact h.2 i a b⟩
theorem asd_R {σ σ1 : gS} {A : Nat → Int} (h : asd σ A σ1) {b : Nat} (hb : 394 ≤ b) (k : Nat) (z : Int) : asd σ A (sR σ1 b k z) := ⟨eqX_tr h.1 (eqX_R _ (by omega) _ _), fun i q r => by rw [show (sR σ1 b k z).2.1 393 = σ1.2.1 393 from up2_ne _ _ _ (by omega)]; exact h.2 i q r⟩
theorem asd_Rw {σ σ1 : gS} {A : Nat → Int} (h : asd σ A σ1) {b : Nat} (hb : 394 ≤ b) (f : Nat → Int) : asd σ A (sRw σ1 b f) := ⟨eqX_tr h.1 (eqX_Rw _ (by omega) _), fun i q r => by rw [show (sRw σ1 b f).2.1 393 = σ1.2.1 393 from va_up_ne _ _ (by omega)]; exact h.2 i q r⟩
theorem asd_T {σ σ1 : gS} {A : Nat → Int} (h : asd σ A σ1) : σ1.2.1 387 = σ.2.1 387 := h.1.2.1 387 (by decide)
theorem asd_I {σ σ1 : gS} {A : Nat → Int} (h : asd σ A σ1) : σ1.2.1 386 = σ.2.1 386 := h.1.2.1 386 (by decide)
theorem pbk2 {σ σ1 : gS} {A B : Nat → Int} (h : asd σ A σ1) (ha : agr A B) : mAs (σ1.2.1 393) B 24 = A := by
  funext i
  unfold mAs
  by_cases q : 5 ≤ i ∧ i < 24
  · rw [if_pos q]; exact h.2 i q.1 q.2
  · rw [if_neg q]; exact ha i q
theorem gC_imp {M : gM} {d : Nat} {b : gB} {avs : List Value} {h : gH} {Q Q2 : Option Value → gH → Prop} (hq : ∀ v h', Q v h' → Q2 v h') (k : gC M d b avs h Q) : gC M d b avs h Q2 := fun l D tc r0 sz => by
  refine MetFree.mono (k l D tc r0 sz) (fun _ _ x => x) (fun _ _ _ _ _ x => x) ?_
  intro a s o t _ q
  obtain ⟨⟨⟨v, h', r', e1, e2, e3⟩, e4⟩, e5⟩ := q
  exact ⟨⟨⟨v, h', r', e1, hq _ _ e2, e3⟩, e4⟩, e5⟩
theorem sC_imp {M : gM} {d : Nat} {avs : List Value} {σ : gS} {Q Q2 : Option Value → gS → Prop} (h : ∀ v s, Q v s → Q2 v s) (k : sC M d avs σ Q) : sC M d avs σ Q2 := gC_imp (fun v h' ⟨s, e, q⟩ => ⟨s, e, h v s q⟩) k
theorem m_aside {d : Nat} (σ : gS) (A F : Nat → Int) : sC mX7_setAside d [.ref 384] (ms σ A F) (fun r σ' => r = none ∧ ∃ σ1, σ' = ms σ1 A (va_up F 23 0) ∧ asd σ A σ1) := by
  refine sC_imp ?_ (m_setAside σ A F)
  rintro v s ⟨e1, e2⟩
  exact ⟨e1, _, e2, eqX_Rw _ (by decide) _, fun i a b => by
    show va_up σ.2.1 393 (mAs A (σ.2.1 393) 24) 393 i = A i
    rw [va_up_self]
    unfold mAs
    rw [if_pos ⟨a, b⟩]⟩
theorem m_putB {d : Nat} {σ : gS} {A : Nat → Int} (σ1 : gS) (B F : Nat → Int) (h : asd σ A σ1) (ha : agr A B) : sC mX7_putBack d [.ref 384] (ms σ1 B F) (fun r σ' => r = none ∧ σ' = ms σ1 A (va_up F 23 1)) := by
  refine sC_imp ?_ (m_putBack σ1 B F)
  rintro v s ⟨e1, e2⟩
  exact ⟨e1, by rw [pbk2 h ha] at e2; exact e2⟩
theorem m_stlA {d : Nat} (hd : 7 ≤ d) {σ : gS} {A : Nat → Int} (σ1 : gS) (B F : Nat → Int) {W : wF} {nt : Int} (hW : wOK (σ.2.1 387) 100000 nt W) (h : asd σ A σ1) (g : gd 100000 nt B) (hz : F 23 = 0) : sC mX7_settleNow d [.ref 384] (ms σ1 B F) (fun r σ' => r = some (.int (iZ ((rL W B).length : Int))) ∧ ∃ σ2 F2, σ' = ms σ2 (rA W B) F2 ∧ asd σ A σ2 ∧ fS F F2 ∧ F2 26 = rT W B ∧ F2 25 = rM W B) := by
  refine sC_imp ?_ (m_settle hd σ1 B F (Int.le_refl _) (by rw [asd_T h]; exact hW) g (by rw [hz]; unfold inR; decide))
  rintro v s ⟨e1, σ2, e2, e3⟩
  have q := rS (W := W) B (F := F) hz
  exact ⟨by rw [e1, q.1], σ2, (mS W B F).2.2, by rw [e2, q.2.1], asd_S h e3, fS_mS B F, q.2.2.1, q.2.2.2⟩
theorem fS_fin {F F2 : Nat → Int} (h1 : F 23 = 1) (h : fS (va_up F 23 0) F2) : fS F (va_up F2 23 1) := ⟨fun k a b c d e f g => by
  by_cases q : k = 23
  · subst q; rw [va_up_self, h1]
  · rw [va_up_ne _ _ q, h.1 k a b c d e f g, va_up_ne _ _ q], by rw [va_up_ne _ _ (by decide)]; exact h.2⟩
theorem fS_rf {F : Nat → Int} (h : 0 ≤ F 26) : fS F F := ⟨fun _ _ _ _ _ _ _ _ => rfl, h⟩
theorem fS_23 {F F2 : Nat → Int} (h : fS F F2) : F2 23 = F 23 := h.1 23 (by decide) (by decide) (by decide) (by decide) (by decide) (by decide) (by decide)
theorem fS_up {F F2 : Nat → Int} (h : fS F F2) {k : Nat} (hk : k = 24 ∨ k = 25 ∨ k = 29 ∨ k = 30 ∨ k = 31 ∨ k = 35) (v : Int) : fS F (va_up F2 k v) := ⟨fun j a b c d e f g => by rw [va_up_ne _ _ (by omega)]; exact h.1 j a b c d e f g, by rw [va_up_ne _ _ (by omega)]; exact h.2⟩
/-- one more kindness in house h -/
def inc (B : Nat → Int) (h : Nat) : Nat → Int := va_up B (11 + h) (B (11 + h) + 1)
theorem agr_inc (B : Nat → Int) {h : Nat} (hh : h < 8) : agr B (inc B h) := agr_up _ _ (by omega)
theorem agr_rA {T : Nat → Int} {W : wF} {nt : Int} (hW : wOK T 100000 nt W) {A : Nat → Int} (g : gd 100000 nt A) : agr A (rA W A) := agr_mS hW g rfl
/-- a night aside -/
noncomputable def pA (W V : wF) (A : Nat → Int) : Nat → Int := (mPass W V A zF).1
theorem m_passA {d : Nat} (hd : 8 ≤ d) {σ : gS} {A : Nat → Int} (σ1 : gS) (B F : Nat → Int) {W V : wF} {nt : Int} (hW : wOK (σ.2.1 387) 100000 nt W) (hV : vOK (σ.2.1 387) 100000 nt V) (h : asd σ A σ1) (g : gd 90000 nt B) (hz : F 23 = 0) : sC mX7_pass d [.ref 384] (ms σ1 B F) (fun r σ' => r = none ∧ ∃ σ2 F2, σ' = ms σ2 (pA W V B) F2 ∧ asd σ A σ2 ∧ fS F F2) := by
  refine sC_imp ?_ (m_pass hd σ1 B F (by rw [asd_T h]; exact hW) (by rw [asd_T h]; exact hV) g (by rw [hz]; unfold inR; decide))
  rintro v s ⟨e1, σ2, e2, e3⟩
  have q := rS (W := W) (mPD V (mPC B) (mPH B)) (F := F) hz
  have q0 := rS (W := W) (mPD V (mPC B) (mPH B)) (F := zF) rfl
  refine ⟨e1, σ2, (mPass W V B F).2, ?_, asd_S h e3, fS_pass _ _⟩
  rw [e2]
  unfold pA mPass mPE
  simp only [q.1, q.2.1, q0.1, q0.2.1]
/-- n nights aside, as far as they come -/
noncomputable def mFo (W V : wF) : Nat → (Nat → Int) → Nat → Int
  | 0, A => A
  | n + 1, A => mFo W V n (if A 5 < 9999 then pA W V A else A)
theorem gd_pA {T : Nat → Int} {W V : wF} {nt : Int} (hW : wOK T 100000 nt W) (hV : vOK T 100000 nt V) {A : Nat → Int} (g : gd 90000 nt A) (h5 : A 5 < 9999) : gd 80 nt (pA W V A) := gd_pass hW hV g h5 zF
theorem agr_pA {T : Nat → Int} {W V : wF} {nt : Int} (hW : wOK T 100000 nt W) (hV : vOK T 100000 nt V) {A : Nat → Int} (g : gd 90000 nt A) : agr A (pA W V A) := agr_pass hW hV g rfl
set_option maxHeartbeats 4000000 in
set_option maxRecDepth 100000 in
theorem lp_foretold {d N q : Nat} (hd : 9 ≤ d) (hN : N ≤ 60) {u : Int} (hu : u = 0 ∨ u = 1) (hq : q < 8) (σ : gS) (A F : Nat → Int) (h23 : F 23 = 1) (h26 : 0 ≤ F 26) {W V : wF} {nt : Int} (hW : wOK (σ.2.1 387) 100000 nt W) (hV : vOK (σ.2.1 387) 100000 nt V) : ∀ (n : Nat) (B F1 : Nat → Int) (k : Nat) (σ1 : gS), gd 88000 nt B → F1 23 = 0 → fS (va_up F 23 0) F1 → asd σ A σ1 → agr A B → k ≤ N → (N : Int) - (k : Int) < (n : Int) → sE g_tt mX7_foretold d (fun r σ' => r = some (.int (iZ (if u = 0 then mFo W V (N - k) B (11 + q) else mFo W V (N - k) B (19 + q)))) ∧ ∃ σ2 F2, σ' = ms σ2 A F2 ∧ eqX σ σ2 ∧ fS F F2) 51 [some (.ref 384), some (.int (iZ (N : Int))), some (.int (iZ u)), some (.int (iZ (q : Int))), some (.int (iZ (k : Int)))] [] (ms σ1 B F1) := by
  intro n
  induction n with
  | zero =>
    intro B F1 k σ1 g hz1 hF1 hA1 ha hk hn
    exact absurd hn (by omega)
  | succ n ih =>
    intro B F1 k σ1 g hz1 hF1 hA1 ha hk hn
    have b5 := g.2.2.2.2.2.1
    refine q_iload dX7_foretold_51 rfl ?_
    refine q_iload_n dX7_foretold_53 rfl rfl ?_
    refine z_icmp_ge (tgt := 79) dX7_foretold_54 (by decide) (by unfold inR at *; omega) (by unfold inR at *; omega) (fun c_1 => ?_) (fun c_1 => ?_)
    · refine q_iload_n dX7_foretold_79 rfl rfl ?_
      refine z_if_ne (tgt := 95) dX7_foretold_80 (by decide) (by unfold inR at *; omega) (fun c_2 => ?_) (fun c_2 => ?_)
      · refine q_aload_n dX7_foretold_95 rfl rfl ?_
        refine sg7 (kf := 0) (v := .ref 385) dX7_foretold_96 flX7_7 (show kd 384 = 7 from rfl) (by decide) rfl ?_
        refine z_bipush dX7_foretold_99 (by decide +kernel) ?_
        refine q_iload_n dX7_foretold_101 rfl rfl ?_
        refine z_iadd dX7_foretold_102 ?_
        refine s_iald (n := 1583) (x := B (19 + q)) dX7_foretold_103 (show kd 385 = 100 + 1583 from rfl) (by omega) (by omega) (by decide) rfl ?_
        refine q_istore dX7_foretold_104 (by decide) ?_
        show sE g_tt _ _ _ 106 [some (.ref 384), some (.int (iZ (N : Int))), some (.int (iZ u)), some (.int (iZ (q : Int))), some (.int (iZ (B (19 + q))))] [] (ms σ1 B F1)
        refine q_aload_n dX7_foretold_106 rfl rfl ?_
        refine s_callV (ci := 7) (a := 384) (As := []) (S := []) dX7_foretold_107 okX7_putBack mlX7_388 rfl (by omega) rfl (Nat.le_of_ble_eq_true rfl) (show kd 384 = 7 from rfl) (by decide) rfl (m_putB (d := d - 1) (σ := σ) (A := A) σ1 B F1 hA1 ha) (fun v_ σ_ hq => ?_)
        obtain ⟨rfl, e9⟩ := hq
        have e9 := e9.symm
        subst e9
        show sE g_tt _ _ _ 110 [some (.ref 384), some (.int (iZ (N : Int))), some (.int (iZ u)), some (.int (iZ (q : Int))), some (.int (iZ (B (19 + q))))] [] (ms σ1 A (va_up F1 23 1))
        refine q_iload dX7_foretold_110 rfl ?_
        exact s_iretZ dX7_foretold_112 rfl ⟨by rw [show N - k = 0 by omega, mFo]; congr 3; (repeat (first | rw [if_pos (by omega)] | rw [if_neg (by omega)])); (try rfl), σ1, _, rfl, hA1.1, fS_fin h23 hF1⟩
      · refine q_aload_n dX7_foretold_83 rfl rfl ?_
        refine sg7 (kf := 0) (v := .ref 385) dX7_foretold_84 flX7_7 (show kd 384 = 7 from rfl) (by decide) rfl ?_
        refine z_bipush dX7_foretold_87 (by decide +kernel) ?_
        refine q_iload_n dX7_foretold_89 rfl rfl ?_
        refine z_iadd dX7_foretold_90 ?_
        refine s_iald (n := 1583) (x := B (11 + q)) dX7_foretold_91 (show kd 385 = 100 + 1583 from rfl) (by omega) (by omega) (by decide) rfl ?_
        refine q_goto (tgt := 104) dX7_foretold_92 (by decide) ?_
        refine q_istore dX7_foretold_104 (by decide) ?_
        show sE g_tt _ _ _ 106 [some (.ref 384), some (.int (iZ (N : Int))), some (.int (iZ u)), some (.int (iZ (q : Int))), some (.int (iZ (B (11 + q))))] [] (ms σ1 B F1)
        refine q_aload_n dX7_foretold_106 rfl rfl ?_
        refine s_callV (ci := 7) (a := 384) (As := []) (S := []) dX7_foretold_107 okX7_putBack mlX7_388 rfl (by omega) rfl (Nat.le_of_ble_eq_true rfl) (show kd 384 = 7 from rfl) (by decide) rfl (m_putB (d := d - 1) (σ := σ) (A := A) σ1 B F1 hA1 ha) (fun v_ σ_ hq => ?_)
        obtain ⟨rfl, e9⟩ := hq
        have e9 := e9.symm
        subst e9
        show sE g_tt _ _ _ 110 [some (.ref 384), some (.int (iZ (N : Int))), some (.int (iZ u)), some (.int (iZ (q : Int))), some (.int (iZ (B (11 + q))))] [] (ms σ1 A (va_up F1 23 1))
        refine q_iload dX7_foretold_110 rfl ?_
        exact s_iretZ dX7_foretold_112 rfl ⟨by rw [show N - k = 0 by omega, mFo]; congr 3; (repeat (first | rw [if_pos (by omega)] | rw [if_neg (by omega)])); (try rfl), σ1, _, rfl, hA1.1, fS_fin h23 hF1⟩
    · refine q_aload_n dX7_foretold_57 rfl rfl ?_
      refine sg7 (kf := 0) (v := .ref 385) dX7_foretold_58 flX7_7 (show kd 384 = 7 from rfl) (by decide) rfl ?_
      refine z_iconst dX7_foretold_61 ?_
      refine s_iald (n := 1583) (x := B 5) dX7_foretold_62 (show kd 385 = 100 + 1583 from rfl) (by omega) (by omega) (by decide) rfl ?_
      refine z_sipush dX7_foretold_63 (by decide +kernel) ?_
      refine z_icmp_ge (tgt := 73) dX7_foretold_66 (by decide) (by unfold inR at *; omega) (by unfold inR at *; omega) (fun c_3 => ?_) (fun c_3 => ?_)
      · refine z_iinc dX7_foretold_73 rfl (by decide) ?_
        show sE g_tt _ _ _ 76 [some (.ref 384), some (.int (iZ (N : Int))), some (.int (iZ u)), some (.int (iZ (q : Int))), some (.int (iZ ((k : Int) + 1)))] [] (ms σ1 B F1)
        refine q_goto (tgt := 51) dX7_foretold_76 (by decide) ?_
        have e : mFo W V (N - k) B = mFo W V (N - (k + 1)) B := by rw [show N - k = (N - (k + 1)) + 1 by omega, mFo, if_neg (by omega)]
        rw [e]
        exact ih B F1 (k + 1) σ1 g hz1 hF1 hA1 ha (by omega) (by omega)
      · refine q_aload_n dX7_foretold_69 rfl rfl ?_
        refine s_callV (ci := 7) (a := 384) (As := []) (S := []) dX7_foretold_70 okX7_pass mlX7_340 rfl (by omega) rfl (Nat.le_of_ble_eq_true rfl) (show kd 384 = 7 from rfl) (by decide) rfl (m_passA (d := d - 1) (by omega) (σ := σ) (A := A) σ1 B F1 hW hV hA1 (gd_mono g (by decide)) hz1) (fun v_ σ_ hq => ?_)
        obtain ⟨rfl, σ2, F2, e9, hA2, hf2⟩ := hq
        subst e9
        show sE g_tt _ _ _ 73 [some (.ref 384), some (.int (iZ (N : Int))), some (.int (iZ u)), some (.int (iZ (q : Int))), some (.int (iZ (k : Int)))] [] (ms σ2 (pA W V B) F2)
        refine z_iinc dX7_foretold_73 rfl (by decide) ?_
        show sE g_tt _ _ _ 76 [some (.ref 384), some (.int (iZ (N : Int))), some (.int (iZ u)), some (.int (iZ (q : Int))), some (.int (iZ ((k : Int) + 1)))] [] (ms σ2 (pA W V B) F2)
        refine q_goto (tgt := 51) dX7_foretold_76 (by decide) ?_
        have e : mFo W V (N - k) B = mFo W V (N - (k + 1)) (pA W V B) := by rw [show N - k = (N - (k + 1)) + 1 by omega, mFo, if_pos (by omega)]
        rw [e]
        exact ih (pA W V B) F2 (k + 1) σ2 (gd_mono (gd_pA hW hV (gd_mono g (by decide)) (by omega)) (by decide)) ((fS_23 hf2).trans hz1) (fS_tr hF1 hf2) hA2 (agr_tr ha (agr_pA hW hV (gd_mono g (by decide)))) (by omega) (by omega)
set_option maxHeartbeats 4000000 in
set_option maxRecDepth 100000 in
theorem m_foretold {d : Nat} (hd : 9 ≤ d) {n u q : Int} (hn : inR n) (hu : inR u) (hq : inR q) (σ : gS) (A F : Nat → Int) (h23 : F 23 = 1) (h26 : 0 ≤ F 26) {W V : wF} {nt : Int} (hW : wOK (σ.2.1 387) 100000 nt W) (hV : vOK (σ.2.1 387) 100000 nt V) (g : gd 88000 nt A) : sC mX7_foretold d [.ref 384, .int (iZ n), .int (iZ u), .int (iZ q)] (ms σ A F) (fun r σ' => r = some (.int (iZ (if (1 ≤ n ∧ n ≤ 60) ∧ ((u = 0 ∧ 0 ≤ q ∧ q < 8) ∨ (u = 1 ∧ 0 ≤ q ∧ q < A 0)) then (if u = 0 then mFo W V n.toNat A (11 + q.toNat) else mFo W V n.toNat A (19 + q.toNat)) else -2))) ∧ ∃ σ2 F2, σ' = ms σ2 A F2 ∧ eqX σ σ2 ∧ fS F F2) := by
  have g0 := g.1
  refine sC_of rfl (Nat.le_of_ble_eq_true rfl) ?_
  show sE g_tt _ _ _ 0 [some (.ref 384), some (.int (iZ n)), some (.int (iZ u)), some (.int (iZ q)), none] [] (ms σ A F)
  refine q_iload_n dX7_foretold_0 rfl rfl ?_
  refine z_iconst dX7_foretold_1 ?_
  refine z_bipush dX7_foretold_2 (by decide +kernel) ?_
  refine s_callS (As := [.int (iZ n), .int (iZ 1), .int (iZ 60)]) (S := []) dX7_foretold_4 okX7_isIn mlX7_66 rfl (by omega) rfl (Nat.le_of_ble_eq_true rfl) (m_isIn (d := d - 1) (v := n) (a := 1) (b := 60) (by unfold inR at *; omega) (by unfold inR at *; omega) (by unfold inR at *; omega) (ms σ A F)) (fun v_ σ_ hq => ?_)
  obtain ⟨rfl, e9⟩ := hq
  have e9 := e9.symm
  subst e9
  show sE g_tt _ _ _ 7 [some (.ref 384), some (.int (iZ n)), some (.int (iZ u)), some (.int (iZ q)), none] [.int (iZ (if 1 ≤ n ∧ n ≤ 60 then 1 else 0))] (ms σ A F)
  refine z_if_eq (tgt := 41) dX7_foretold_7 (by decide) inR_01 (fun c_1 => ?_) (fun c_1 => ?_)
  · have c_1 := if01_0 c_1
    refine z_bipush dX7_foretold_41 (by decide +kernel) ?_
    exact s_iretZ dX7_foretold_43 rfl ⟨by rw [if_neg (by omega)], σ, F, rfl, eqX_rf σ, fS_rf h26⟩
  · have c_1 := if01_1 c_1
    refine q_iload_n dX7_foretold_10 rfl rfl ?_
    refine z_iconst dX7_foretold_11 ?_
    refine z_iconst dX7_foretold_12 ?_
    refine s_callS (As := [.int (iZ u), .int (iZ 0), .int (iZ 1)]) (S := []) dX7_foretold_13 okX7_isIn mlX7_66 rfl (by omega) rfl (Nat.le_of_ble_eq_true rfl) (m_isIn (d := d - 1) (v := u) (a := 0) (b := 1) (by unfold inR at *; omega) (by unfold inR at *; omega) (by unfold inR at *; omega) (ms σ A F)) (fun v_ σ_ hq => ?_)
    obtain ⟨rfl, e9⟩ := hq
    have e9 := e9.symm
    subst e9
    show sE g_tt _ _ _ 16 [some (.ref 384), some (.int (iZ n)), some (.int (iZ u)), some (.int (iZ q)), none] [.int (iZ (if 0 ≤ u ∧ u ≤ 1 then 1 else 0))] (ms σ A F)
    refine z_if_eq (tgt := 41) dX7_foretold_16 (by decide) inR_01 (fun c_2 => ?_) (fun c_2 => ?_)
    · have c_2 := if01_0 c_2
      refine z_bipush dX7_foretold_41 (by decide +kernel) ?_
      exact s_iretZ dX7_foretold_43 rfl ⟨by rw [if_neg (by omega)], σ, F, rfl, eqX_rf σ, fS_rf h26⟩
    · have c_2 := if01_1 c_2
      refine q_iload_n dX7_foretold_19 rfl rfl ?_
      refine z_if_ne (tgt := 33) dX7_foretold_20 (by decide) (by unfold inR at *; omega) (fun c_3 => ?_) (fun c_3 => ?_)
      · refine q_aload_n dX7_foretold_33 rfl rfl ?_
        refine q_iload_n dX7_foretold_34 rfl rfl ?_
        refine s_callV (ci := 7) (a := 384) (As := [.int (iZ q)]) (S := []) dX7_foretold_35 okX7_isPerson mlX7_367 rfl (by omega) rfl (Nat.le_of_ble_eq_true rfl) (show kd 384 = 7 from rfl) (by decide) rfl (m_isPerson (d := d - 1) (by omega) (p := q) (by unfold inR at *; omega) σ A F (by omega) (by omega)) (fun v_ σ_ hq => ?_)
        obtain ⟨rfl, e9⟩ := hq
        have e9 := e9.symm
        subst e9
        show sE g_tt _ _ _ 38 [some (.ref 384), some (.int (iZ n)), some (.int (iZ u)), some (.int (iZ q)), none] [.int (iZ (if 0 ≤ q ∧ q < A 0 then 1 else 0))] (ms σ A F)
        refine z_if_ne (tgt := 44) dX7_foretold_38 (by decide) inR_01 (fun c_4 => ?_) (fun c_4 => ?_)
        · have c_4 := if01_1 c_4
          refine q_aload_n dX7_foretold_44 rfl rfl ?_
          refine s_callV (ci := 7) (a := 384) (As := []) (S := []) dX7_foretold_45 okX7_setAside mlX7_385 rfl (by omega) rfl (Nat.le_of_ble_eq_true rfl) (show kd 384 = 7 from rfl) (by decide) rfl (m_aside (d := d - 1) σ A F) (fun v_ σ_ hq => ?_)
          obtain ⟨rfl, σ1, e9, hA1⟩ := hq
          subst e9
          have hF1 : fS (va_up F 23 0) (va_up F 23 0) := fS_rf h26
          have hz1 : va_up F 23 0 23 = 0 := rfl
          show sE g_tt _ _ _ 48 [some (.ref 384), some (.int (iZ n)), some (.int (iZ u)), some (.int (iZ q)), none] [] (ms σ1 A (va_up F 23 0))
          refine z_iconst dX7_foretold_48 ?_
          refine q_istore dX7_foretold_49 (by decide) ?_
          show sE g_tt _ _ _ 51 [some (.ref 384), some (.int (iZ n)), some (.int (iZ u)), some (.int (iZ q)), some (.int (iZ 0))] [] (ms σ1 A (va_up F 23 0))
          obtain ⟨N, rfl⟩ : ∃ N : Nat, n = (N : Int) := ⟨n.toNat, by omega⟩
          obtain ⟨p, rfl⟩ : ∃ p : Nat, q = (p : Int) := ⟨q.toNat, by omega⟩
          rw [if_pos (by omega)]
          exact lp_foretold (N := N) (q := p) hd (by omega) (by omega) (by omega) σ A F h23 h26 hW hV 61 A (va_up F 23 0) 0 σ1 g hz1 hF1 hA1 (agr_rf A) (by omega) (by omega)
        · have c_4 := if01_0 c_4
          refine z_bipush dX7_foretold_41 (by decide +kernel) ?_
          exact s_iretZ dX7_foretold_43 rfl ⟨by rw [if_neg (by omega)], σ, F, rfl, eqX_rf σ, fS_rf h26⟩
      · refine q_iload_n dX7_foretold_23 rfl rfl ?_
        refine s_callS (As := [.int (iZ q)]) (S := []) dX7_foretold_24 okX7_isHouse mlX7_70 rfl (by omega) rfl (Nat.le_of_ble_eq_true rfl) (m_isHouse (d := d - 1) (by omega) (h := q) (by unfold inR at *; omega) (ms σ A F)) (fun v_ σ_ hq => ?_)
        obtain ⟨rfl, e9⟩ := hq
        have e9 := e9.symm
        subst e9
        show sE g_tt _ _ _ 27 [some (.ref 384), some (.int (iZ n)), some (.int (iZ u)), some (.int (iZ q)), none] [.int (iZ (if 0 ≤ q ∧ q < 8 then 1 else 0))] (ms σ A F)
        refine z_if_eq (tgt := 41) dX7_foretold_27 (by decide) inR_01 (fun c_5 => ?_) (fun c_5 => ?_)
        · have c_5 := if01_0 c_5
          refine z_bipush dX7_foretold_41 (by decide +kernel) ?_
          exact s_iretZ dX7_foretold_43 rfl ⟨by rw [if_neg (by omega)], σ, F, rfl, eqX_rf σ, fS_rf h26⟩
        · have c_5 := if01_1 c_5
          refine q_goto (tgt := 44) dX7_foretold_30 (by decide) ?_
          refine q_aload_n dX7_foretold_44 rfl rfl ?_
          refine s_callV (ci := 7) (a := 384) (As := []) (S := []) dX7_foretold_45 okX7_setAside mlX7_385 rfl (by omega) rfl (Nat.le_of_ble_eq_true rfl) (show kd 384 = 7 from rfl) (by decide) rfl (m_aside (d := d - 1) σ A F) (fun v_ σ_ hq => ?_)
          obtain ⟨rfl, σ1, e9, hA1⟩ := hq
          subst e9
          have hF1 : fS (va_up F 23 0) (va_up F 23 0) := fS_rf h26
          have hz1 : va_up F 23 0 23 = 0 := rfl
          show sE g_tt _ _ _ 48 [some (.ref 384), some (.int (iZ n)), some (.int (iZ u)), some (.int (iZ q)), none] [] (ms σ1 A (va_up F 23 0))
          refine z_iconst dX7_foretold_48 ?_
          refine q_istore dX7_foretold_49 (by decide) ?_
          show sE g_tt _ _ _ 51 [some (.ref 384), some (.int (iZ n)), some (.int (iZ u)), some (.int (iZ q)), some (.int (iZ 0))] [] (ms σ1 A (va_up F 23 0))
          obtain ⟨N, rfl⟩ : ∃ N : Nat, n = (N : Int) := ⟨n.toNat, by omega⟩
          obtain ⟨p, rfl⟩ : ∃ p : Nat, q = (p : Int) := ⟨q.toNat, by omega⟩
          rw [if_pos (by omega)]
          exact lp_foretold (N := N) (q := p) hd (by omega) (by omega) (by omega) σ A F h23 h26 hW hV 61 A (va_up F 23 0) 0 σ1 g hz1 hF1 hA1 (agr_rf A) (by omega) (by omega)
