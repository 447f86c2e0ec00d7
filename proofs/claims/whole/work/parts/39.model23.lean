/-! ===== again, period ===== -/
/-- kindness of two rows alike -/
def kEq (A B : Nat → Int) : Prop := ∀ j, j < 8 → A (11 + j) = B (11 + j)
/-- whether kindness of two rows is alike (1, 0) -/
noncomputable def kE (A B : Nat → Int) : Int := @ite Int (∀ j, j < 8 → A (11 + j) = B (11 + j)) (Classical.propDecidable _) 1 0
theorem kE_01 (A B : Nat → Int) : kE A B = 0 ∨ kE A B = 1 := by unfold kE; split; exact Or.inr rfl; exact Or.inl rfl
/-- kindness noted at k, the first n houses -/
def mNo (K A : Nat → Int) (k n : Nat) : Nat → Int := fun i => if 8 * k ≤ i ∧ i < 8 * k + n then A (11 + (i - 8 * k)) else K i
theorem mNo_0 (K A : Nat → Int) (k : Nat) : mNo K A k 0 = K := by
  funext i; unfold mNo; rw [if_neg (by omega)]
theorem mNo_step (K A : Nat → Int) (k n : Nat) : mNo K A k (n + 1) = va_up (mNo K A k n) (8 * k + n) (A (11 + n)) := by
  funext i
  by_cases e : i = 8 * k + n
  · subst e; rw [va_up_self]; unfold mNo; rw [if_pos (by omega), show 8 * k + n - 8 * k = n by omega]
  · rw [va_up_ne _ _ e]; unfold mNo
    by_cases q : 8 * k ≤ i ∧ i < 8 * k + n
    · rw [if_pos q, if_pos (by omega)]
    · rw [if_neg q, if_neg (by omega)]
theorem mNo_at (K A : Nat → Int) (k : Nat) {j : Nat} (hj : j < 8) : mNo K A k 8 (8 * k + j) = A (11 + j) := by
  unfold mNo; rw [if_pos (by omega), show 8 * k + j - 8 * k = j by omega]
theorem mNo_ne (K A : Nat → Int) {k i : Nat} (h : i ≠ k) {j : Nat} (hj : j < 8) : mNo K A k 8 (8 * i + j) = K (8 * i + j) := by
  unfold mNo; rw [if_neg (by omega)]
set_option maxHeartbeats 4000000 in
set_option maxRecDepth 100000 in
theorem lp_noteAt {d k : Nat} (hk : k ≤ 100) (σ : gS) (A F : Nat → Int) : ∀ (n : Nat) (h : Nat), h ≤ 8 → 8 - (h : Int) < (n : Int) → sE g_tt mX7_noteAt d (fun r σ' => r = none ∧ σ' = ms (sRw σ 395 (mNo (σ.2.1 395) A k 8)) A F) 2 [some (.ref 384), some (.int (iZ (k : Int))), some (.int (iZ (h : Int)))] [] (ms (sRw σ 395 (mNo (σ.2.1 395) A k h)) A F) := by
  intro n
  induction n with
  | zero =>
    intro h hh hn
    exact absurd hn (by omega)
  | succ n ih =>
    intro h hh hn
    refine q_iload_n dX7_noteAt_2 rfl rfl ?_
    refine z_bipush dX7_noteAt_3 (by decide +kernel) ?_
    refine z_icmp_ge (tgt := 34) dX7_noteAt_5 (by decide) (by unfold inR at *; omega) (by unfold inR at *; omega) (fun c_1 => ?_) (fun c_1 => ?_)
    · exact s_vret dX7_noteAt_34 rfl ⟨rfl, by rw [show (8 : Nat) = h by omega]⟩
    · refine q_aload_n dX7_noteAt_8 rfl rfl ?_
      refine sg7 (kf := 32) (v := .ref 395) dX7_noteAt_9 flX7_53 (show kd 384 = 7 from rfl) (by decide) rfl ?_
      refine z_bipush dX7_noteAt_12 (by decide +kernel) ?_
      refine q_iload_n dX7_noteAt_14 rfl rfl ?_
      refine z_imul dX7_noteAt_15 ?_
      refine q_iload_n dX7_noteAt_16 rfl rfl ?_
      refine z_iadd dX7_noteAt_17 ?_
      refine q_aload_n dX7_noteAt_18 rfl rfl ?_
      refine sg7 (kf := 0) (v := .ref 385) dX7_noteAt_19 flX7_7 (show kd 384 = 7 from rfl) (by decide) rfl ?_
      refine z_bipush dX7_noteAt_22 (by decide +kernel) ?_
      refine q_iload_n dX7_noteAt_24 rfl rfl ?_
      refine z_iadd dX7_noteAt_25 ?_
      refine s_iald (n := 1583) (x := A (11 + h)) dX7_noteAt_26 (show kd 385 = 100 + 1583 from rfl) (by omega) (by omega) (by decide) rfl ?_
      refine mr_st (b := 395) (n := 808) (k := 8 * k + h) dX7_noteAt_27 (show kd 395 = 100 + 808 from rfl) (by decide) (by omega) (by omega) (by decide) (by omega) ?_
      refine z_iinc dX7_noteAt_28 rfl (by decide) ?_
      show sE g_tt _ _ _ 31 [some (.ref 384), some (.int (iZ (k : Int))), some (.int (iZ ((h : Int) + 1)))] [] (ms (sRw σ 395 (va_up (mNo (σ.2.1 395) A k h) (8 * k + h) (A (11 + h)))) A F)
      refine q_goto (tgt := 2) dX7_noteAt_31 (by decide) ?_
      rw [← mNo_step]
      exact ih (h + 1) (by omega) (by omega)
set_option maxHeartbeats 4000000 in
set_option maxRecDepth 100000 in
theorem m_noteAt {d k : Nat} (hk : k ≤ 100) (σ : gS) (A F : Nat → Int) : sC mX7_noteAt d [.ref 384, .int (iZ (k : Int))] (ms σ A F) (fun r σ' => r = none ∧ σ' = ms (sRw σ 395 (mNo (σ.2.1 395) A k 8)) A F) := by
  refine sC_of rfl (Nat.le_of_ble_eq_true rfl) ?_
  show sE g_tt _ _ _ 0 [some (.ref 384), some (.int (iZ (k : Int))), none] [] (ms σ A F)
  refine z_iconst dX7_noteAt_0 ?_
  refine q_istore_n dX7_noteAt_1 rfl (by decide) ?_
  show sE g_tt _ _ _ 2 [some (.ref 384), some (.int (iZ (k : Int))), some (.int (iZ 0))] [] (ms σ A F)
  refine sE_eq (show ms (sRw σ 395 (mNo (σ.2.1 395) A k 0)) A F = ms σ A F by rw [mNo_0, sRw_id]) ?_
  exact lp_noteAt hk σ A F 9 0 (by omega) (by omega)
set_option maxHeartbeats 4000000 in
set_option maxRecDepth 100000 in
theorem lp_isAsAt {d k : Nat} (hk : k ≤ 100) (σ : gS) (A F : Nat → Int) (hK : ∀ j, j < 8 → inR (σ.2.1 395 (8 * k + j))) (hA : ∀ j, j < 8 → inR (A (11 + j))) : ∀ (n : Nat) (h : Nat), h ≤ 8 → (∀ j, j < h → σ.2.1 395 (8 * k + j) = A (11 + j)) → 8 - (h : Int) < (n : Int) → sE g_tt mX7_isAsAt d (fun r σ' => r = some (.int (iZ (kE (fun i => σ.2.1 395 (8 * k + (i - 11))) A))) ∧ σ' = ms σ A F) 2 [some (.ref 384), some (.int (iZ (k : Int))), some (.int (iZ (h : Int)))] [] (ms σ A F) := by
  intro n
  induction n with
  | zero =>
    intro h hh hs hn
    exact absurd hn (by omega)
  | succ n ih =>
    intro h hh hs hn
    refine q_iload_n dX7_isAsAt_2 rfl rfl ?_
    refine z_bipush dX7_isAsAt_3 (by decide +kernel) ?_
    refine z_icmp_ge (tgt := 39) dX7_isAsAt_5 (by decide) (by unfold inR at *; omega) (by unfold inR at *; omega) (fun c_1 => ?_) (fun c_1 => ?_)
    · refine z_iconst dX7_isAsAt_39 ?_
      exact s_zret dX7_isAsAt_40 rfl (by omega) ⟨by unfold kE; rw [if_pos (fun j hj => by show σ.2.1 395 (8 * k + (11 + j - 11)) = _; rw [show 11 + j - 11 = j by omega]; exact hs j (by omega))], rfl⟩
    · refine q_aload_n dX7_isAsAt_8 rfl rfl ?_
      refine sg7 (kf := 32) (v := .ref 395) dX7_isAsAt_9 flX7_53 (show kd 384 = 7 from rfl) (by decide) rfl ?_
      refine z_bipush dX7_isAsAt_12 (by decide +kernel) ?_
      refine q_iload_n dX7_isAsAt_14 rfl rfl ?_
      refine z_imul dX7_isAsAt_15 ?_
      refine q_iload_n dX7_isAsAt_16 rfl rfl ?_
      refine z_iadd dX7_isAsAt_17 ?_
      refine s_iald (n := 808) (x := σ.2.1 395 (8 * k + h)) dX7_isAsAt_18 (show kd 395 = 100 + 808 from rfl) (by omega) (by omega) (by decide) rfl ?_
      refine q_aload_n dX7_isAsAt_19 rfl rfl ?_
      refine sg7 (kf := 0) (v := .ref 385) dX7_isAsAt_20 flX7_7 (show kd 384 = 7 from rfl) (by decide) rfl ?_
      refine z_bipush dX7_isAsAt_23 (by decide +kernel) ?_
      refine q_iload_n dX7_isAsAt_25 rfl rfl ?_
      refine z_iadd dX7_isAsAt_26 ?_
      refine s_iald (n := 1583) (x := A (11 + h)) dX7_isAsAt_27 (show kd 385 = 100 + 1583 from rfl) (by omega) (by omega) (by decide) rfl ?_
      refine z_icmp_eq (tgt := 33) dX7_isAsAt_28 (by decide) (hK h (by omega)) (hA h (by omega)) (fun c_2 => ?_) (fun c_2 => ?_)
      · refine z_iinc dX7_isAsAt_33 rfl (by decide) ?_
        show sE g_tt _ _ _ 36 [some (.ref 384), some (.int (iZ (k : Int))), some (.int (iZ ((h : Int) + 1)))] [] (ms σ A F)
        refine q_goto (tgt := 2) dX7_isAsAt_36 (by decide) ?_
        refine ih (h + 1) (by omega) (fun j hj => ?_) (by omega)
        rcases Nat.lt_or_eq_of_le (Nat.le_of_lt_succ hj) with q | q
        · exact hs j q
        · subst q; exact c_2
      · refine z_iconst dX7_isAsAt_31 ?_
        exact s_zret dX7_isAsAt_32 rfl (by omega) ⟨by unfold kE; rw [if_neg (fun q => c_2 (by have := q h (by omega); change σ.2.1 395 (8 * k + (11 + h - 11)) = _ at this; rwa [show 11 + h - 11 = h by omega] at this))], rfl⟩
set_option maxHeartbeats 4000000 in
set_option maxRecDepth 100000 in
theorem m_isAsAt {d k : Nat} (hk : k ≤ 100) (σ : gS) (A F : Nat → Int) (hK : ∀ j, j < 8 → inR (σ.2.1 395 (8 * k + j))) (hA : ∀ j, j < 8 → inR (A (11 + j))) : sC mX7_isAsAt d [.ref 384, .int (iZ (k : Int))] (ms σ A F) (fun r σ' => r = some (.int (iZ (kE (fun i => σ.2.1 395 (8 * k + (i - 11))) A))) ∧ σ' = ms σ A F) := by
  refine sC_of rfl (Nat.le_of_ble_eq_true rfl) ?_
  show sE g_tt _ _ _ 0 [some (.ref 384), some (.int (iZ (k : Int))), none] [] (ms σ A F)
  refine z_iconst dX7_isAsAt_0 ?_
  refine q_istore_n dX7_isAsAt_1 rfl (by decide) ?_
  show sE g_tt _ _ _ 2 [some (.ref 384), some (.int (iZ (k : Int))), some (.int (iZ 0))] [] (ms σ A F)
  exact lp_isAsAt hk σ A F hK hA 9 0 (by omega) (fun j hj => absurd hj (by omega)) (by omega)
theorem sRw_at (σ : gS) (b : Nat) (f : Nat → Int) : (sRw σ b f).2.1 b = f := va_up_self _ _ _
theorem kE_cong {A A' B : Nat → Int} (h : ∀ j, j < 8 → A' (11 + j) = A (11 + j)) : kE A' B = kE A B := by
  unfold kE
  by_cases q : ∀ j, j < 8 → A (11 + j) = B (11 + j)
  · rw [if_pos q, if_pos (fun j hj => by rw [h j hj]; exact q j hj)]
  · rw [if_neg q, if_neg (fun q2 => q (fun j hj => by rw [← h j hj]; exact q2 j hj))]
theorem gd_in {nt c : Int} (hc : c ≤ 100000) {A : Nat → Int} (g : gd c nt A) : ∀ j, j < 8 → inR (A (11 + j)) := fun j hj => by have := kd_ran g hj; unfold inR; omega
set_option maxHeartbeats 4000000 in
set_option maxRecDepth 100000 in
theorem m_again {d : Nat} (hd : 9 ≤ d) (σ : gS) (A F : Nat → Int) (h23 : F 23 = 1) (h26 : 0 ≤ F 26) {W : wF} {nt : Int} (hW : wOK (σ.2.1 387) 100000 nt W) (g : gd 100000 nt A) : sC mX7_again d [.ref 384] (ms σ A F) (fun r σ' => r = some (.int (iZ (kE (rA W A) (rA W (inc (inc (rA W A) 0) 7))))) ∧ ∃ σ2 F2, σ' = ms σ2 A F2 ∧ eqX σ σ2 ∧ fS F F2) := by
  have g2 := gd_rA hW g
  have g4 : gd 80 nt (rA W (inc (inc (rA W A) 0) 7)) := gd_rA hW (gd_mono (gd_inc (gd_inc g2 (by decide)) (by decide)) (by decide))
  refine sC_of rfl (Nat.le_of_ble_eq_true rfl) ?_
  show sE g_tt _ _ _ 0 [some (.ref 384), none] [] (ms σ A F)
  refine q_aload_n dX7_again_0 rfl rfl ?_
  refine s_callV (ci := 7) (a := 384) (As := []) (S := []) dX7_again_1 okX7_setAside mlX7_385 rfl (by omega) rfl (Nat.le_of_ble_eq_true rfl) (show kd 384 = 7 from rfl) (by decide) rfl (m_aside (d := d - 1) σ A F) (fun v_ σ_ hq => ?_)
  obtain ⟨rfl, σ1, e9, hA1⟩ := hq
  subst e9
  have hF1 : fS (va_up F 23 0) (va_up F 23 0) := fS_rf (by show 0 ≤ F 26; exact h26)
  have hz1 : va_up F 23 0 23 = 0 := rfl
  show sE g_tt _ _ _ 4 [some (.ref 384), none] [] (ms σ1 A (va_up F 23 0))
  refine q_aload_n dX7_again_4 rfl rfl ?_
  refine s_callV (ci := 7) (a := 384) (As := []) (S := []) dX7_again_5 okX7_settleNow mlX7_331 rfl (by omega) rfl (Nat.le_of_ble_eq_true rfl) (show kd 384 = 7 from rfl) (by decide) rfl (m_stlB (d := d - 1) (by omega) σ1 A (va_up F 23 0) (W := W) (nt := nt) (by rw [asd_T hA1]; exact hW) g hz1) (fun v_ σ_ hq => ?_)
  obtain ⟨rfl, σ2, F2, e9, hE2, hf2, hT2, hM2⟩ := hq
  subst e9
  have hA2 := asd_S hA1 hE2
  have hF2 := fS_tr hF1 hf2
  have hz2 : F2 23 = 0 := (fS_23 hf2).trans hz1
  have hl2 := rL_len hW (A := A) g
  show sE g_tt _ _ _ 8 [some (.ref 384), none] [.int (iZ ((rL W A).length : Int))] (ms σ2 (rA W A) F2)
  refine z_if_lt (tgt := 16) dX7_again_8 (by decide) (by unfold inR at *; omega) (fun c_1 => ?_) (fun c_1 => ?_)
  · exfalso
    omega
  · refine q_aload_n dX7_again_11 rfl rfl ?_
    refine z_iconst dX7_again_12 ?_
    refine s_callV (ci := 7) (a := 384) (As := [.int (iZ 0)]) (S := []) dX7_again_13 okX7_noteAt mlX7_406 rfl (by omega) rfl (Nat.le_of_ble_eq_true rfl) (show kd 384 = 7 from rfl) (by decide) rfl (m_noteAt (d := d - 1) (k := 0) (by omega) σ2 (rA W A) F2) (fun v_ σ_ hq => ?_)
    obtain ⟨rfl, e9⟩ := hq
    have e9 := e9.symm
    subst e9
    have hA3 : asd σ A (sRw σ2 395 (mNo (σ2.2.1 395) (rA W A) 0 8)) := asd_Rw hA2 (by decide) _
    show sE g_tt _ _ _ 16 [some (.ref 384), none] [] (ms (sRw σ2 395 (mNo (σ2.2.1 395) (rA W A) 0 8)) (rA W A) F2)
    refine q_aload_n dX7_again_16 rfl rfl ?_
    refine sg7 (kf := 0) (v := .ref 385) dX7_again_17 flX7_7 (show kd 384 = 7 from rfl) (by decide) rfl ?_
    refine z_bipush dX7_again_20 (by decide +kernel) ?_
    refine q_dup2 dX7_again_22 rfl rfl ?_
    refine s_iald (n := 1583) (x := (rA W A) 11) dX7_again_23 (show kd 385 = 100 + 1583 from rfl) (by omega) (by omega) (by decide) rfl ?_
    refine z_iconst dX7_again_24 ?_
    refine z_iadd dX7_again_25 ?_
    refine ma_st dX7_again_26 (by omega) (by omega) ?_
    refine q_aload_n dX7_again_27 rfl rfl ?_
    refine z_bipush dX7_again_28 (by decide +kernel) ?_
    refine s_callV (ci := 7) (a := 384) (As := [.int (iZ 7)]) (S := []) dX7_again_30 okX7_goOne mlX7_403 rfl (by omega) rfl (Nat.le_of_ble_eq_true rfl) (show kd 384 = 7 from rfl) (by decide) rfl (m_goA (d := d - 1) (h := 7) (by omega) (by decide) (sRw σ2 395 (mNo (σ2.2.1 395) (rA W A) 0 8)) (inc (rA W A) 0) F2 (W := W) (nt := nt) (by rw [asd_T hA3]; exact hW) (gd_mono (gd_inc g2 (by decide)) (by decide)) hz2) (fun v_ σ_ hq => ?_)
    obtain ⟨rfl, σ4, F4, e9, hE4, hf4, hT4, hM4⟩ := hq
    subst e9
    have hA4 := asd_S hA3 hE4
    have hF4 := fS_tr hF2 hf4
    show sE g_tt _ _ _ 33 [some (.ref 384), none] [] (ms σ4 (rA W (inc (inc (rA W A) 0) 7)) F4)
    refine q_aload_n dX7_again_33 rfl rfl ?_
    refine z_iconst dX7_again_34 ?_
    refine s_callV (ci := 7) (a := 384) (As := [.int (iZ 0)]) (S := []) dX7_again_35 okX7_isAsAt mlX7_409 rfl (by omega) rfl (Nat.le_of_ble_eq_true rfl) (show kd 384 = 7 from rfl) (by decide) rfl (m_isAsAt (d := d - 1) (k := 0) (by omega) σ4 (rA W (inc (inc (rA W A) 0) 7)) F4 (fun j hj => by rw [(hE4.2.1 395 (by decide) (by decide))]; rw [sRw_at, mNo_at _ _ _ hj]; exact gd_in (by decide) g2 j hj) (gd_in (by decide) g4)) (fun v_ σ_ hq => ?_)
    obtain ⟨rfl, e9⟩ := hq
    have e9 := e9.symm
    subst e9
    show sE g_tt _ _ _ 38 [some (.ref 384), none] [.int (iZ (kE (fun i => σ4.2.1 395 (8 * 0 + (i - 11))) (rA W (inc (inc (rA W A) 0) 7))))] (ms σ4 (rA W (inc (inc (rA W A) 0) 7)) F4)
    refine q_istore_n dX7_again_38 rfl (by decide) ?_
    show sE g_tt _ _ _ 39 [some (.ref 384), some (.int (iZ (kE (fun i => σ4.2.1 395 (8 * 0 + (i - 11))) (rA W (inc (inc (rA W A) 0) 7)))))] [] (ms σ4 (rA W (inc (inc (rA W A) 0) 7)) F4)
    refine q_aload_n dX7_again_39 rfl rfl ?_
    refine s_callV (ci := 7) (a := 384) (As := []) (S := []) dX7_again_40 okX7_putBack mlX7_388 rfl (by omega) rfl (Nat.le_of_ble_eq_true rfl) (show kd 384 = 7 from rfl) (by decide) rfl (m_putB (d := d - 1) (σ := σ) (A := A) σ4 (rA W (inc (inc (rA W A) 0) 7)) F4 hA4 (agr_tr (agr_rA hW g) (agr_tr (agr_inc _ (by decide)) (agr_tr (agr_inc _ (by decide)) (agr_rA hW (gd_mono (gd_inc (gd_inc g2 (by decide)) (by decide)) (by decide))))))) (fun v_ σ_ hq => ?_)
    obtain ⟨rfl, e9⟩ := hq
    have e9 := e9.symm
    subst e9
    show sE g_tt _ _ _ 43 [some (.ref 384), some (.int (iZ (kE (fun i => σ4.2.1 395 (8 * 0 + (i - 11))) (rA W (inc (inc (rA W A) 0) 7)))))] [] (ms σ4 A (va_up F4 23 1))
    refine q_iload_n dX7_again_43 rfl rfl ?_
    exact s_zret dX7_again_44 rfl (kE_01 _ _) ⟨by rw [kE_cong (A := rA W A) (fun j hj => by show σ4.2.1 395 _ = _; rw [(hE4.2.1 395 (by decide) (by decide))]; rw [sRw_at, show 8 * 0 + (11 + j - 11) = 8 * 0 + j by omega, mNo_at _ _ _ hj])], σ4, _, rfl, hA4.1, fS_fin h23 hF4⟩
/-- good done in house h again and again, from rest on -/
noncomputable def sq (W : wF) (A : Nat → Int) (h : Nat) : Nat → Nat → Int
  | 0 => rA W A
  | n + 1 => rA W (inc (sq W A h n) h)
/-- the first from k on (f of them) of which e is 1; none: -1 -/
def fst1 (e : Nat → Int) : Nat → Nat → Int
  | 0, _ => -1
  | f + 1, k => if e k = 1 then (k : Int) else fst1 e f (k + 1)
theorem fst1_ran (e : Nat → Int) : ∀ f k, fst1 e f k = -1 ∨ ((k : Int) ≤ fst1 e f k ∧ fst1 e f k < (k : Int) + (f : Int)) := by
  intro f
  induction f with
  | zero => intro k; exact Or.inl rfl
  | succ f ih =>
    intro k
    rw [fst1]
    split
    · exact Or.inr ⟨Int.le_refl _, by omega⟩
    · rcases ih (k + 1) with q | q
      · exact Or.inl q
      · exact Or.inr ⟨by omega, by omega⟩
/-- what is said of it: where (u 1), how far it is back from n (u 0) -/
def vPe (u : Int) (n : Nat) (x : Int) : Int := if x = -1 then -1 else if u = 0 then (n : Int) - x else x
noncomputable def eqAt (W : wF) (A : Nat → Int) (h n k : Nat) : Int := kE (sq W A h k) (sq W A h n)
noncomputable def mPe (W : wF) (A : Nat → Int) (h : Nat) (u : Int) : Nat → Nat → Int
  | 0, _ => -1
  | f + 1, n => if fst1 (eqAt W A h n) n 0 = -1 then mPe W A h u f (n + 1) else vPe u n (fst1 (eqAt W A h n) n 0)
theorem gd_sq {T : Nat → Int} {W : wF} {nt : Int} (hW : wOK T 100000 nt W) {A : Nat → Int} (g : gd 100000 nt A) {h : Nat} (hh : h < 8) : ∀ n, gd 80 nt (sq W A h n) ∧ agr A (sq W A h n) := by
  intro n
  induction n with
  | zero => exact ⟨gd_rA hW g, agr_rA hW g⟩
  | succ n ih =>
    have g1 : gd 100000 nt (inc (sq W A h n) h) := gd_mono (gd_inc ih.1 hh) (by decide)
    exact ⟨gd_rA hW g1, agr_tr ih.2 (agr_tr (agr_inc _ hh) (agr_rA hW g1))⟩
theorem vPe_ran {u : Int} {n : Nat} (hn : n ≤ 100) {x : Int} (h : x = -1 ∨ (0 ≤ x ∧ x < (n : Int))) : -1 ≤ vPe u n x ∧ vPe u n x ≤ 100 ∧ (vPe u n x = -1 ↔ x = -1) := by
  unfold vPe
  split
  · exact ⟨by omega, by omega, by omega⟩
  · split
    · exact ⟨by omega, by omega, by omega⟩
    · exact ⟨by omega, by omega, by omega⟩
set_option maxHeartbeats 4000000 in
set_option maxRecDepth 100000 in
theorem tl_period {d h : Nat} (hd : 1 ≤ d) {u v m : Int} (l5 : Option Value) (σ : gS) (A F : Nat → Int) (h23 : F 23 = 1) (h26 : 0 ≤ F 26) (σ1 : gS) (B F1 : Nat → Int) (hA1 : asd σ A σ1) (hF1 : fS (va_up F 23 0) F1) (ha : agr A B) : sE g_tt mX7_period d (fun r σ' => r = some (.int (iZ (v))) ∧ ∃ σ2 F2, σ' = ms σ2 A F2 ∧ eqX σ σ2 ∧ fS F F2) 100 [some (.ref 384), some (.int (iZ (h : Int))), some (.int (iZ u)), some (.int (iZ v)), some (.int (iZ m)), l5] [] (ms σ1 B F1) := by
  refine q_aload_n dX7_period_100 rfl rfl ?_
  refine s_callV (ci := 7) (a := 384) (As := []) (S := []) dX7_period_101 okX7_putBack mlX7_388 rfl (by omega) rfl (Nat.le_of_ble_eq_true rfl) (show kd 384 = 7 from rfl) (by decide) rfl (m_putB (d := d - 1) (σ := σ) (A := A) σ1 B F1 hA1 ha) (fun v_ σ_ hq => ?_)
  obtain ⟨rfl, e9⟩ := hq
  have e9 := e9.symm
  subst e9
  show sE g_tt _ _ _ 104 [some (.ref 384), some (.int (iZ (h : Int))), some (.int (iZ u)), some (.int (iZ v)), some (.int (iZ m)), l5] [] (ms σ1 A (va_up F1 23 1))
  refine q_iload_n dX7_period_104 rfl rfl ?_
  exact s_iretZ dX7_period_105 rfl ⟨rfl, σ1, _, rfl, hA1.1, fS_fin h23 hF1⟩
set_option maxHeartbeats 4000000 in
set_option maxRecDepth 100000 in
theorem tl_period2 {d h : Nat} (hd : 1 ≤ d) {u v m : Int} (l5 : Option Value) (σ : gS) (A F : Nat → Int) (h23 : F 23 = 1) (h26 : 0 ≤ F 26) (σ1 : gS) (B F1 : Nat → Int) (hA1 : asd σ A σ1) (hF1 : fS (va_up F 23 0) F1) (ha : agr A B) (hv : inR v) (hv1 : v ≠ -1) (hm : inR m) : sE g_tt mX7_period d (fun r σ' => r = some (.int (iZ (v))) ∧ ∃ σ2 F2, σ' = ms σ2 A F2 ∧ eqX σ σ2 ∧ fS F F2) 30 [some (.ref 384), some (.int (iZ (h : Int))), some (.int (iZ u)), some (.int (iZ v)), some (.int (iZ m)), l5] [] (ms σ1 B F1) := by
  refine q_iload dX7_period_30 rfl ?_
  refine z_bipush dX7_period_32 (by decide +kernel) ?_
  refine z_icmp_gt (tgt := 100) dX7_period_34 (by decide) (by unfold inR at *; omega) (by unfold inR at *; omega) (fun c_1 => ?_) (fun c_1 => ?_)
  · exact tl_period hd l5 σ A F h23 h26 σ1 B F1 hA1 hF1 ha
  · refine q_iload_n dX7_period_37 rfl rfl ?_
    refine z_iconst dX7_period_38 ?_
    refine z_icmp_ne (tgt := 100) dX7_period_39 (by decide) (by unfold inR at *; omega) (by unfold inR at *; omega) (fun c_2 => ?_) (fun c_2 => ?_)
    · exact tl_period hd l5 σ A F h23 h26 σ1 B F1 hA1 hF1 ha
    · exfalso
      omega
set_option maxHeartbeats 4000000 in
set_option maxRecDepth 100000 in
theorem lp_period1 {d h n : Nat} {vv : Int} (hd : 9 ≤ d) (hh : h < 8) (hn : n ≤ 100) {u : Int} (hu : u = 0 ∨ u = 1) (σ : gS) (A F : Nat → Int) (h23 : F 23 = 1) (h26 : 0 ≤ F 26) {W : wF} {nt : Int} (hW : wOK (σ.2.1 387) 100000 nt W) (g : gd 100000 nt A) (σ1 : gS) (F1 : Nat → Int) (hK : (∀ i, i < n → ∀ j, j < 8 → σ1.2.1 395 (8 * i + j) = sq W A h i (11 + j))) (kc : sE g_tt mX7_period d (fun r σ' => r = some (.int (iZ (vv))) ∧ ∃ σ2 F2, σ' = ms σ2 A F2 ∧ eqX σ σ2 ∧ fS F F2) 88 [some (.ref 384), some (.int (iZ (h : Int))), some (.int (iZ u)), some (.int (iZ (vPe u n (fst1 (eqAt W A h n) (n - 0) 0)))), some (.int (iZ (n : Int))), some (.int (iZ (-1)))] [] (ms σ1 (sq W A h n) F1)) : ∀ (k : Nat), k ≤ n → sE g_tt mX7_period d (fun r σ' => r = some (.int (iZ (vv))) ∧ ∃ σ2 F2, σ' = ms σ2 A F2 ∧ eqX σ σ2 ∧ fS F F2) 53 [some (.ref 384), some (.int (iZ (h : Int))), some (.int (iZ u)), some (.int (iZ (vPe u n (fst1 (eqAt W A h n) (n - k) k)))), some (.int (iZ (n : Int))), some (.int (iZ ((k : Int) - 1)))] [] (ms σ1 (sq W A h n) F1) := by
  intro k
  induction k with
  | zero =>
    intro _
    show sE g_tt mX7_period d (fun r σ' => r = some (.int (iZ (vv))) ∧ ∃ σ2 F2, σ' = ms σ2 A F2 ∧ eqX σ σ2 ∧ fS F F2) 53 [some (.ref 384), some (.int (iZ (h : Int))), some (.int (iZ u)), some (.int (iZ (vPe u n (fst1 (eqAt W A h n) (n - 0) 0)))), some (.int (iZ (n : Int))), some (.int (iZ (-1)))] [] (ms σ1 (sq W A h n) F1)
    refine q_iload dX7_period_53 rfl ?_
    refine z_if_lt (tgt := 88) dX7_period_55 (by decide) (by unfold inR at *; omega) (fun c_1 => ?_) (fun c_1 => ?_)
    · exact kc
    · exfalso
      revert c_1
      decide
  | succ k ih =>
    intro hk
    have ih := fun (_ : (∀ i, i < n → ∀ j, j < 8 → σ1.2.1 395 (8 * i + j) = sq W A h i (11 + j))) (_ : sE g_tt mX7_period d (fun r σ' => r = some (.int (iZ (vv))) ∧ ∃ σ2 F2, σ' = ms σ2 A F2 ∧ eqX σ σ2 ∧ fS F F2) 88 [some (.ref 384), some (.int (iZ (h : Int))), some (.int (iZ u)), some (.int (iZ (vPe u n (fst1 (eqAt W A h n) (n - 0) 0)))), some (.int (iZ (n : Int))), some (.int (iZ (-1)))] [] (ms σ1 (sq W A h n) F1)) => ih
    refine sE_eq rfl ?_
    rw [show ((k + 1 : Nat) : Int) - 1 = (k : Int) by omega]
    refine q_iload dX7_period_53 rfl ?_
    refine z_if_lt (tgt := 88) dX7_period_55 (by decide) (by unfold inR at *; omega) (fun c_1 => ?_) (fun c_1 => ?_)
    · exfalso
      omega
    · refine q_aload_n dX7_period_58 rfl rfl ?_
      refine q_iload dX7_period_59 rfl ?_
      refine s_callV (ci := 7) (a := 384) (As := [.int (iZ (k : Int))]) (S := []) dX7_period_61 okX7_isAsAt mlX7_409 rfl (by omega) rfl (Nat.le_of_ble_eq_true rfl) (show kd 384 = 7 from rfl) (by decide) rfl (m_isAsAt (d := d - 1) (k := k) (by omega) σ1 (sq W A h n) F1 (fun j hj => by rw [hK k (by omega) j hj]; exact gd_in (by decide) (gd_sq hW g hh k).1 j hj) (gd_in (by decide) (gd_sq hW g hh n).1)) (fun v_ σ_ hq => ?_)
      obtain ⟨rfl, e9⟩ := hq
      have e9 := e9.symm
      subst e9
      have e8 : kE (fun i => σ1.2.1 395 (8 * k + (i - 11))) (sq W A h n) = eqAt W A h n k := kE_cong (fun j hj => by show σ1.2.1 395 (8 * k + (11 + j - 11)) = _; rw [show 11 + j - 11 = j by omega]; exact hK k (by omega) j hj)
      have e7 := kE_01 (sq W A h k) (sq W A h n)
      refine z_top e8 ?_
      change eqAt W A h n k = 0 ∨ eqAt W A h n k = 1 at e7
      show sE g_tt _ _ _ 64 [some (.ref 384), some (.int (iZ (h : Int))), some (.int (iZ u)), some (.int (iZ (vPe u n (fst1 (eqAt W A h n) (n - (k + 1)) (k + 1))))), some (.int (iZ (n : Int))), some (.int (iZ (k : Int)))] [.int (iZ (eqAt W A h n k))] (ms σ1 (sq W A h n) F1)
      refine z_if_eq (tgt := 82) dX7_period_64 (by decide) (by unfold inR; omega) (fun c_2 => ?_) (fun c_2 => ?_)
      · refine z_iinc dX7_period_82 rfl (by decide) ?_
        show sE g_tt _ _ _ 85 [some (.ref 384), some (.int (iZ (h : Int))), some (.int (iZ u)), some (.int (iZ (vPe u n (fst1 (eqAt W A h n) (n - (k + 1)) (k + 1))))), some (.int (iZ (n : Int))), some (.int (iZ ((k : Int) + (-1))))] [] (ms σ1 (sq W A h n) F1)
        refine q_goto (tgt := 53) dX7_period_85 (by decide) ?_
        have e6 : vPe u n (fst1 (eqAt W A h n) (n - k) k) = vPe u n (fst1 (eqAt W A h n) (n - (k + 1)) (k + 1)) := by rw [show n - k = (n - (k + 1)) + 1 by omega, fst1, if_neg (by omega)]
        have k9 := ih hK kc (by omega)
        rw [e6] at k9
        rw [show (k : Int) + (-1) = (k : Int) - 1 by omega]
        exact k9
      · refine q_iload_n dX7_period_67 rfl rfl ?_
        refine z_if_eq (tgt := 76) dX7_period_68 (by decide) (by unfold inR at *; omega) (fun c_3 => ?_) (fun c_3 => ?_)
        · refine q_iload dX7_period_76 rfl ?_
          refine q_iload dX7_period_78 rfl ?_
          refine z_isub dX7_period_80 ?_
          refine q_istore_n dX7_period_81 rfl (by decide) ?_
          show sE g_tt _ _ _ 82 [some (.ref 384), some (.int (iZ (h : Int))), some (.int (iZ u)), some (.int (iZ ((n : Int) - (k : Int)))), some (.int (iZ (n : Int))), some (.int (iZ (k : Int)))] [] (ms σ1 (sq W A h n) F1)
          refine z_iinc dX7_period_82 rfl (by decide) ?_
          show sE g_tt _ _ _ 85 [some (.ref 384), some (.int (iZ (h : Int))), some (.int (iZ u)), some (.int (iZ ((n : Int) - (k : Int)))), some (.int (iZ (n : Int))), some (.int (iZ ((k : Int) + (-1))))] [] (ms σ1 (sq W A h n) F1)
          refine q_goto (tgt := 53) dX7_period_85 (by decide) ?_
          have e6 : vPe u n (fst1 (eqAt W A h n) (n - k) k) = (n : Int) - (k : Int) := by rw [show n - k = (n - (k + 1)) + 1 by omega, fst1, if_pos (by omega)]; unfold vPe; (repeat (first | rw [if_pos (by omega)] | rw [if_neg (by omega)])); (try rfl)
          have k9 := ih hK kc (by omega)
          rw [e6] at k9
          rw [show (k : Int) + (-1) = (k : Int) - 1 by omega]
          exact k9
        · refine q_iload dX7_period_71 rfl ?_
          refine q_goto (tgt := 81) dX7_period_73 (by decide) ?_
          refine q_istore_n dX7_period_81 rfl (by decide) ?_
          show sE g_tt _ _ _ 82 [some (.ref 384), some (.int (iZ (h : Int))), some (.int (iZ u)), some (.int (iZ (k : Int))), some (.int (iZ (n : Int))), some (.int (iZ (k : Int)))] [] (ms σ1 (sq W A h n) F1)
          refine z_iinc dX7_period_82 rfl (by decide) ?_
          show sE g_tt _ _ _ 85 [some (.ref 384), some (.int (iZ (h : Int))), some (.int (iZ u)), some (.int (iZ (k : Int))), some (.int (iZ (n : Int))), some (.int (iZ ((k : Int) + (-1))))] [] (ms σ1 (sq W A h n) F1)
          refine q_goto (tgt := 53) dX7_period_85 (by decide) ?_
          have e6 : vPe u n (fst1 (eqAt W A h n) (n - k) k) = (k : Int) := by rw [show n - k = (n - (k + 1)) + 1 by omega, fst1, if_pos (by omega)]; unfold vPe; (repeat (first | rw [if_pos (by omega)] | rw [if_neg (by omega)])); (try rfl)
          have k9 := ih hK kc (by omega)
          rw [e6] at k9
          rw [show (k : Int) + (-1) = (k : Int) - 1 by omega]
          exact k9
set_option maxHeartbeats 4000000 in
set_option maxRecDepth 100000 in
theorem lp_period {d h : Nat} (hd : 9 ≤ d) (hh : h < 8) {u : Int} (hu : u = 0 ∨ u = 1) (σ : gS) (A F : Nat → Int) (h23 : F 23 = 1) (h26 : 0 ≤ F 26) {W : wF} {nt : Int} (hW : wOK (σ.2.1 387) 100000 nt W) (g : gd 100000 nt A) : ∀ (f : Nat) (n : Nat) (σ1 : gS) (F1 : Nat → Int) (l5 : Option Value), asd σ A σ1 → fS (va_up F 23 0) F1 → F1 23 = 0 → (∀ i, i < n → ∀ j, j < 8 → σ1.2.1 395 (8 * i + j) = sq W A h i (11 + j)) → 1 ≤ n → n ≤ 101 → 101 - (n : Int) < (f : Int) → sE g_tt mX7_period d (fun r σ' => r = some (.int (iZ (mPe W A h u (101 - n) n))) ∧ ∃ σ2 F2, σ' = ms σ2 A F2 ∧ eqX σ σ2 ∧ fS F F2) 30 [some (.ref 384), some (.int (iZ (h : Int))), some (.int (iZ u)), some (.int (iZ (-1))), some (.int (iZ (n : Int))), l5] [] (ms σ1 (sq W A h (n - 1)) F1) := by
  intro f
  induction f with
  | zero =>
    intro n σ1 F1 l5 hA1 hF1 hz1 hK hn1 hn hf
    exact absurd hf (by omega)
  | succ f ih =>
    intro n σ1 F1 l5 hA1 hF1 hz1 hK hn1 hn hf
    obtain ⟨n0, en⟩ : ∃ n0, n0 + 1 = n := ⟨n - 1, by omega⟩
    rw [show n - 1 = n0 by omega]
    have hK : (∀ i, i < n → ∀ j, j < 8 → σ1.2.1 395 (8 * i + j) = sq W A h i (11 + j)) := hK
    refine q_iload dX7_period_30 rfl ?_
    refine z_bipush dX7_period_32 (by decide +kernel) ?_
    refine z_icmp_gt (tgt := 100) dX7_period_34 (by decide) (by unfold inR at *; omega) (by unfold inR at *; omega) (fun c_1 => ?_) (fun c_1 => ?_)
    · rw [show 101 - n = 0 by omega, mPe]
      exact tl_period (by omega) _ σ A F h23 h26 σ1 _ F1 hA1 hF1 (gd_sq hW g hh n0).2
    · refine q_iload_n dX7_period_37 rfl rfl ?_
      refine z_iconst dX7_period_38 ?_
      refine z_icmp_ne (tgt := 100) dX7_period_39 (by decide) (by unfold inR at *; omega) (by unfold inR at *; omega) (fun c_2 => ?_) (fun c_2 => ?_)
      · exfalso
        revert c_2
        decide
      · refine q_aload_n dX7_period_42 rfl rfl ?_
        refine q_iload_n dX7_period_43 rfl rfl ?_
        refine s_callV (ci := 7) (a := 384) (As := [.int (iZ (h : Int))]) (S := []) dX7_period_44 okX7_goOne mlX7_403 rfl (by omega) rfl (Nat.le_of_ble_eq_true rfl) (show kd 384 = 7 from rfl) (by decide) rfl (m_goA (d := d - 1) (h := h) (by omega) hh σ1 (sq W A h n0) F1 (W := W) (nt := nt) (by rw [asd_T hA1]; exact hW) (gd_mono (gd_sq hW g hh n0).1 (by decide)) hz1) (fun v_ σ_ hq => ?_)
        obtain ⟨rfl, σ2, F2, e9, hE2, hf2, hT2, hM2⟩ := hq
        subst e9
        have hA2 := asd_S hA1 hE2
        have hF2 := fS_tr hF1 hf2
        have hz2 : F2 23 = 0 := (fS_23 hf2).trans hz1
        have e4 : rA W (inc (sq W A h n0) h) = (sq W A h n) := by subst en; rfl
        rw [e4]
        show sE g_tt _ _ _ 47 [some (.ref 384), some (.int (iZ (h : Int))), some (.int (iZ u)), some (.int (iZ (-1))), some (.int (iZ (n : Int))), l5] [] (ms σ2 (sq W A h n) F2)
        refine q_iload dX7_period_47 rfl ?_
        refine z_iconst dX7_period_49 ?_
        refine z_isub dX7_period_50 ?_
        refine q_istore dX7_period_51 (by decide) ?_
        show sE g_tt _ _ _ 53 [some (.ref 384), some (.int (iZ (h : Int))), some (.int (iZ u)), some (.int (iZ (-1))), some (.int (iZ (n : Int))), some (.int (iZ ((n : Int) - 1)))] [] (ms σ2 (sq W A h n) F2)
        have hK2 : (∀ i, i < n → ∀ j, j < 8 → σ2.2.1 395 (8 * i + j) = sq W A h i (11 + j)) := fun i hi j hj => by rw [hE2.2.1 395 (by decide) (by decide)]; exact hK i hi j hj
        have e5 : vPe u n (fst1 (eqAt W A h n) (n - n) n) = -1 := by rw [Nat.sub_self]; rfl
        rw [show (-1 : Int) = vPe u n (fst1 (eqAt W A h n) (n - n) n) from e5.symm]
        refine lp_period1 hd hh (by omega) hu σ A F h23 h26 hW g σ2 F2 hK2 ?_ n (Nat.le_refl _)
        refine q_aload_n dX7_period_88 rfl rfl ?_
        refine q_iload dX7_period_89 rfl ?_
        refine s_callV (ci := 7) (a := 384) (As := [.int (iZ (n : Int))]) (S := []) dX7_period_91 okX7_noteAt mlX7_406 rfl (by omega) rfl (Nat.le_of_ble_eq_true rfl) (show kd 384 = 7 from rfl) (by decide) rfl (m_noteAt (d := d - 1) (k := n) (by omega) σ2 (sq W A h n) F2) (fun v_ σ_ hq => ?_)
        obtain ⟨rfl, e9⟩ := hq
        have e9 := e9.symm
        subst e9
        show sE g_tt _ _ _ 94 [some (.ref 384), some (.int (iZ (h : Int))), some (.int (iZ u)), some (.int (iZ (vPe u n (fst1 (eqAt W A h n) (n - 0) 0)))), some (.int (iZ (n : Int))), some (.int (iZ (-1)))] [] (ms (sRw σ2 395 (mNo (σ2.2.1 395) (sq W A h n) n 8)) (sq W A h n) F2)
        refine z_iinc dX7_period_94 rfl (by decide) ?_
        show sE g_tt _ _ _ 97 [some (.ref 384), some (.int (iZ (h : Int))), some (.int (iZ u)), some (.int (iZ (vPe u n (fst1 (eqAt W A h n) (n - 0) 0)))), some (.int (iZ ((n : Int) + 1))), some (.int (iZ (-1)))] [] (ms (sRw σ2 395 (mNo (σ2.2.1 395) (sq W A h n) n 8)) (sq W A h n) F2)
        refine q_goto (tgt := 30) dX7_period_97 (by decide) ?_
        rw [Nat.sub_zero]
        rcases fst1_ran (eqAt W A h n) n 0 with q | q
        · rw [show 101 - n = (101 - (n + 1)) + 1 by omega, mPe, if_pos q, q]
          exact ih (n + 1) (sRw σ2 395 (mNo (σ2.2.1 395) (sq W A h n) n 8)) F2 _ (asd_Rw hA2 (by decide) _) hF2 hz2 (fun i hi j hj => by
            show va_up σ2.2.1 395 (mNo (σ2.2.1 395) (sq W A h n) n 8) 395 (8 * i + j) = _
            rw [va_up_self]
            rcases Nat.lt_or_eq_of_le (Nat.le_of_lt_succ hi) with q | q
            · rw [mNo_ne _ _ (by omega) hj, hE2.2.1 395 (by decide) (by decide)]; exact hK i q j hj
            · subst q; exact mNo_at _ _ _ hj) (by omega) (by omega) (by omega)
        · rw [show 101 - n = (101 - (n + 1)) + 1 by omega, mPe, if_neg (by omega)]
          have vr := vPe_ran (u := u) (n := n) (by omega) (x := fst1 (eqAt W A h n) n 0) (by omega)
          exact tl_period2 (by omega) _ σ A F h23 h26 _ _ F2 (asd_Rw hA2 (by decide) _) hF2 (gd_sq hW g hh n).2 (by unfold inR; omega) (by omega) (by unfold inR; omega)
set_option maxHeartbeats 4000000 in
set_option maxRecDepth 100000 in
theorem m_period {d h : Nat} (hd : 9 ≤ d) (hh : h < 8) {u : Int} (hu : u = 0 ∨ u = 1) (σ : gS) (A F : Nat → Int) (h23 : F 23 = 1) (h26 : 0 ≤ F 26) {W : wF} {nt : Int} (hW : wOK (σ.2.1 387) 100000 nt W) (g : gd 100000 nt A) : sC mX7_period d [.ref 384, .int (iZ (h : Int)), .int (iZ u)] (ms σ A F) (fun r σ' => r = some (.int (iZ (mPe W A h u 100 1))) ∧ ∃ σ2 F2, σ' = ms σ2 A F2 ∧ eqX σ σ2 ∧ fS F F2) := by
  refine sC_of rfl (Nat.le_of_ble_eq_true rfl) ?_
  show sE g_tt _ _ _ 0 [some (.ref 384), some (.int (iZ (h : Int))), some (.int (iZ u)), none, none, none] [] (ms σ A F)
  refine q_iload_n dX7_period_0 rfl rfl ?_
  refine s_callS (As := [.int (iZ (h : Int))]) (S := []) dX7_period_1 okX7_isHouse mlX7_70 rfl (by omega) rfl (Nat.le_of_ble_eq_true rfl) (m_isHouse (d := d - 1) (by omega) (h := (h : Int)) (by unfold inR at *; omega) (ms σ A F)) (fun v_ σ_ hq => ?_)
  obtain ⟨rfl, e9⟩ := hq
  have e9 := e9.symm
  subst e9
  show sE g_tt _ _ _ 4 [some (.ref 384), some (.int (iZ (h : Int))), some (.int (iZ u)), none, none, none] [.int (iZ (if 0 ≤ (h : Int) ∧ (h : Int) < 8 then 1 else 0))] (ms σ A F)
  refine z_if_ne (tgt := 9) dX7_period_4 (by decide) inR_01 (fun c_1 => ?_) (fun c_1 => ?_)
  · have c_1 := if01_1 c_1
    refine q_aload_n dX7_period_9 rfl rfl ?_
    refine s_callV (ci := 7) (a := 384) (As := []) (S := []) dX7_period_10 okX7_setAside mlX7_385 rfl (by omega) rfl (Nat.le_of_ble_eq_true rfl) (show kd 384 = 7 from rfl) (by decide) rfl (m_aside (d := d - 1) σ A F) (fun v_ σ_ hq => ?_)
    obtain ⟨rfl, σ1, e9, hA1⟩ := hq
    subst e9
    have hF1 : fS (va_up F 23 0) (va_up F 23 0) := fS_rf (by show 0 ≤ F 26; exact h26)
    have hz1 : va_up F 23 0 23 = 0 := rfl
    show sE g_tt _ _ _ 13 [some (.ref 384), some (.int (iZ (h : Int))), some (.int (iZ u)), none, none, none] [] (ms σ1 A (va_up F 23 0))
    refine z_iconst dX7_period_13 ?_
    refine q_istore_n dX7_period_14 rfl (by decide) ?_
    show sE g_tt _ _ _ 15 [some (.ref 384), some (.int (iZ (h : Int))), some (.int (iZ u)), some (.int (iZ (-1))), none, none] [] (ms σ1 A (va_up F 23 0))
    refine q_aload_n dX7_period_15 rfl rfl ?_
    refine s_callV (ci := 7) (a := 384) (As := []) (S := []) dX7_period_16 okX7_settleNow mlX7_331 rfl (by omega) rfl (Nat.le_of_ble_eq_true rfl) (show kd 384 = 7 from rfl) (by decide) rfl (m_stlB (d := d - 1) (by omega) σ1 A (va_up F 23 0) (W := W) (nt := nt) (by rw [asd_T hA1]; exact hW) g hz1) (fun v_ σ_ hq => ?_)
    obtain ⟨rfl, σ2, F2, e9, hE2, hf2, hT2, hM2⟩ := hq
    subst e9
    have hA2 := asd_S hA1 hE2
    have hF2 := fS_tr hF1 hf2
    have hz2 : F2 23 = 0 := (fS_23 hf2).trans hz1
    have hl2 := rL_len hW (A := A) g
    show sE g_tt _ _ _ 19 [some (.ref 384), some (.int (iZ (h : Int))), some (.int (iZ u)), some (.int (iZ (-1))), none, none] [.int (iZ ((rL W A).length : Int))] (ms σ2 (rA W A) F2)
    refine z_if_lt (tgt := 27) dX7_period_19 (by decide) (by unfold inR at *; omega) (fun c_2 => ?_) (fun c_2 => ?_)
    · exfalso
      omega
    · refine q_aload_n dX7_period_22 rfl rfl ?_
      refine z_iconst dX7_period_23 ?_
      refine s_callV (ci := 7) (a := 384) (As := [.int (iZ 0)]) (S := []) dX7_period_24 okX7_noteAt mlX7_406 rfl (by omega) rfl (Nat.le_of_ble_eq_true rfl) (show kd 384 = 7 from rfl) (by decide) rfl (m_noteAt (d := d - 1) (k := 0) (by omega) σ2 (rA W A) F2) (fun v_ σ_ hq => ?_)
      obtain ⟨rfl, e9⟩ := hq
      have e9 := e9.symm
      subst e9
      show sE g_tt _ _ _ 27 [some (.ref 384), some (.int (iZ (h : Int))), some (.int (iZ u)), some (.int (iZ (-1))), none, none] [] (ms (sRw σ2 395 (mNo (σ2.2.1 395) (rA W A) 0 8)) (rA W A) F2)
      refine z_iconst dX7_period_27 ?_
      refine q_istore dX7_period_28 (by decide) ?_
      show sE g_tt _ _ _ 30 [some (.ref 384), some (.int (iZ (h : Int))), some (.int (iZ u)), some (.int (iZ (-1))), some (.int (iZ 1)), none] [] (ms (sRw σ2 395 (mNo (σ2.2.1 395) (rA W A) 0 8)) (rA W A) F2)
      exact lp_period hd hh hu σ A F h23 h26 hW g 101 1 (sRw σ2 395 (mNo (σ2.2.1 395) (rA W A) 0 8)) F2 _ (asd_Rw hA2 (by decide) _) hF2 hz2 (fun i hi j hj => by
        obtain rfl : i = 0 := by omega
        show va_up σ2.2.1 395 (mNo (σ2.2.1 395) (rA W A) 0 8) 395 (8 * 0 + j) = _
        rw [va_up_self]
        exact mNo_at _ _ _ hj) (by omega) (by omega) (by omega)
  · have c_1 := if01_0 c_1
    exfalso
    omega
set_option maxHeartbeats 4000000 in
set_option maxRecDepth 100000 in
theorem m_period0 {d : Nat} (hd : 2 ≤ d) {h u : Int} (hh : inR h) (hno : ¬ (0 ≤ h ∧ h < 8)) (σ : gS) (A F : Nat → Int) : sC mX7_period d [.ref 384, .int (iZ h), .int (iZ u)] (ms σ A F) (fun r σ' => r = some (.int (iZ (-1))) ∧ σ' = ms σ A F) := by
  refine sC_of rfl (Nat.le_of_ble_eq_true rfl) ?_
  show sE g_tt _ _ _ 0 [some (.ref 384), some (.int (iZ h)), some (.int (iZ u)), none, none, none] [] (ms σ A F)
  refine q_iload_n dX7_period_0 rfl rfl ?_
  refine s_callS (As := [.int (iZ h)]) (S := []) dX7_period_1 okX7_isHouse mlX7_70 rfl (by omega) rfl (Nat.le_of_ble_eq_true rfl) (m_isHouse (d := d - 1) (by omega) (h := h) (by unfold inR at *; omega) (ms σ A F)) (fun v_ σ_ hq => ?_)
  obtain ⟨rfl, e9⟩ := hq
  have e9 := e9.symm
  subst e9
  show sE g_tt _ _ _ 4 [some (.ref 384), some (.int (iZ h)), some (.int (iZ u)), none, none, none] [.int (iZ (if 0 ≤ h ∧ h < 8 then 1 else 0))] (ms σ A F)
  refine z_if_ne (tgt := 9) dX7_period_4 (by decide) inR_01 (fun c_1 => ?_) (fun c_1 => ?_)
  · have c_1 := if01_1 c_1
    exfalso
    omega
  · have c_1 := if01_0 c_1
    refine z_iconst dX7_period_7 ?_
    exact s_iretZ dX7_period_8 rfl ⟨rfl, rfl⟩
