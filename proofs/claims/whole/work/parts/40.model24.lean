/-! ===== least, meeting ===== -/
/-- n more kindness in house h -/
def addn (B : Nat → Int) (h : Nat) (n : Int) : Nat → Int := va_up B (11 + h) (B (11 + h) + n)
theorem gd_addn {c nt : Int} {A : Nat → Int} (g : gd c nt A) {h : Nat} (hh : h < 8) {n : Int} (h0 : 0 ≤ n) : gd (c + n) nt (addn A h n) := by
  have k := kd_ran g hh
  exact gd_kind g hh (by omega) (by omega)
theorem agr_addn (B : Nat → Int) {h : Nat} (hh : h < 8) (n : Int) : agr B (addn B h n) := agr_up _ _ (by omega)
/-- whether n good in house h bring person p off the street (1, 0) -/
noncomputable def offB (W : wF) (A : Nat → Int) (p h : Nat) (n : Int) : Int := if A (11 + h) + n ≤ 99 ∧ rA W (addn A h n) (19 + p) = -1 then 1 else 0
noncomputable def offR (W : wF) (A : Nat → Int) (p : Nat) : Int := if rA W A (19 + p) = -1 then 1 else 0
/-- the fewest good from n on (f tries): which house (u 1), how many (u 0) -/
noncomputable def mLe (W : wF) (A : Nat → Int) (p : Nat) (u : Int) : Nat → Nat → Int
  | 0, _ => -1
  | f + 1, n => if fst1 (fun h => offB W A p h (n : Int)) 8 0 = -1 then mLe W A p u f (n + 1) else if u = 0 then (n : Int) else fst1 (fun h => offB W A p h (n : Int)) 8 0
set_option maxHeartbeats 4000000 in
set_option maxRecDepth 100000 in
theorem m_isOffBy {d p h : Nat} (hd : 8 ≤ d) (hp : p < 5) (hh : h < 8) {n : Int} (hn1 : 1 ≤ n) (hn : n ≤ 20) (σ : gS) (A F : Nat → Int) (h23 : F 23 = 1) (h26 : 0 ≤ F 26) {W : wF} {nt : Int} (hW : wOK (σ.2.1 387) 100000 nt W) (g : gd 98000 nt A) : sC mX7_isOffBy d [.ref 384, .int (iZ (p : Int)), .int (iZ (h : Int)), .int (iZ n)] (ms σ A F) (fun r σ' => r = some (.int (iZ (offB W A p h n))) ∧ ∃ σ2 F2, σ' = ms σ2 A F2 ∧ eqX σ σ2 ∧ fS F F2) := by
  have g2 : gd 100000 nt (addn A h n) := gd_mono (gd_addn g hh (by omega)) (by omega)
  have kp := (gd_rA hW g2).2.1 p hp
  refine sC_of rfl (Nat.le_of_ble_eq_true rfl) ?_
  show sE g_tt _ _ _ 0 [some (.ref 384), some (.int (iZ (p : Int))), some (.int (iZ (h : Int))), some (.int (iZ n)), none] [] (ms σ A F)
  refine q_aload_n dX7_isOffBy_0 rfl rfl ?_
  refine q_iload_n dX7_isOffBy_1 rfl rfl ?_
  refine q_iload_n dX7_isOffBy_2 rfl rfl ?_
  refine s_callV (ci := 7) (a := 384) (As := [.int (iZ (h : Int)), .int (iZ n)]) (S := []) dX7_isOffBy_3 okX7_canGood mlX7_334 rfl (by omega) rfl (Nat.le_of_ble_eq_true rfl) (show kd 384 = 7 from rfl) (by decide) rfl (m_canGood (d := d - 1) (by omega) (h := (h : Int)) (n := n) (by unfold inR; omega) σ A F (fun _ => by have := kd_ran g hh; unfold inR; show _ ≤ A (11 + h) + n ∧ A (11 + h) + n ≤ _; omega)) (fun v_ σ_ hq => ?_)
  obtain ⟨rfl, e9⟩ := hq
  have e9 := e9.symm
  subst e9
  have eI : A (11 + (h : Int)).toNat = A (11 + h) := rfl
  refine z_top (y := if (0 ≤ (h : Int) ∧ (h : Int) < 8) ∧ A (11 + h) + n ≤ 99 then 1 else 0) rfl ?_
  show sE g_tt _ _ _ 6 [some (.ref 384), some (.int (iZ (p : Int))), some (.int (iZ (h : Int))), some (.int (iZ n)), none] [.int (iZ (if (0 ≤ (h : Int) ∧ (h : Int) < 8) ∧ A (11 + h) + n ≤ 99 then 1 else 0))] (ms σ A F)
  refine z_if_ne (tgt := 11) dX7_isOffBy_6 (by decide) inR_01 (fun c_1 => ?_) (fun c_1 => ?_)
  · have c_1 := if01_1 c_1
    refine q_aload_n dX7_isOffBy_11 rfl rfl ?_
    refine s_callV (ci := 7) (a := 384) (As := []) (S := []) dX7_isOffBy_12 okX7_setAside mlX7_385 rfl (by omega) rfl (Nat.le_of_ble_eq_true rfl) (show kd 384 = 7 from rfl) (by decide) rfl (m_aside (d := d - 1) σ A F) (fun v_ σ_ hq => ?_)
    obtain ⟨rfl, σ1, e9, hA1⟩ := hq
    subst e9
    have hF1 : fS (va_up F 23 0) (va_up F 23 0) := fS_rf (by show 0 ≤ F 26; exact h26)
    have hz1 : va_up F 23 0 23 = 0 := rfl
    show sE g_tt _ _ _ 15 [some (.ref 384), some (.int (iZ (p : Int))), some (.int (iZ (h : Int))), some (.int (iZ n)), none] [] (ms σ1 A (va_up F 23 0))
    refine q_aload_n dX7_isOffBy_15 rfl rfl ?_
    refine sg7 (kf := 0) (v := .ref 385) dX7_isOffBy_16 flX7_7 (show kd 384 = 7 from rfl) (by decide) rfl ?_
    refine z_bipush dX7_isOffBy_19 (by decide +kernel) ?_
    refine q_iload_n dX7_isOffBy_21 rfl rfl ?_
    refine z_iadd dX7_isOffBy_22 ?_
    refine q_dup2 dX7_isOffBy_23 rfl rfl ?_
    refine s_iald (n := 1583) (x := A (11 + h)) dX7_isOffBy_24 (show kd 385 = 100 + 1583 from rfl) (by omega) (by omega) (by decide) rfl ?_
    refine q_iload_n dX7_isOffBy_25 rfl rfl ?_
    refine z_iadd dX7_isOffBy_26 ?_
    refine ma_st dX7_isOffBy_27 (by omega) (by omega) ?_
    refine q_aload_n dX7_isOffBy_28 rfl rfl ?_
    refine s_callV (ci := 7) (a := 384) (As := []) (S := []) dX7_isOffBy_29 okX7_settleNow mlX7_331 rfl (by omega) rfl (Nat.le_of_ble_eq_true rfl) (show kd 384 = 7 from rfl) (by decide) rfl (m_stlB (d := d - 1) (by omega) σ1 (addn A h n) (va_up F 23 0) (W := W) (nt := nt) (by rw [asd_T hA1]; exact hW) g2 hz1) (fun v_ σ_ hq => ?_)
    obtain ⟨rfl, σ2, F2, e9, hE2, hf2, hT2, hM2⟩ := hq
    subst e9
    have hA2 := asd_S hA1 hE2
    have hF2 := fS_tr hF1 hf2
    have hz2 : F2 23 = 0 := (fS_23 hf2).trans hz1
    have hl2 := rL_len hW (A := (addn A h n)) g2
    show sE g_tt _ _ _ 32 [some (.ref 384), some (.int (iZ (p : Int))), some (.int (iZ (h : Int))), some (.int (iZ n)), none] [.int (iZ ((rL W (addn A h n)).length : Int))] (ms σ2 (rA W (addn A h n)) F2)
    refine z_if_lt (tgt := 52) dX7_isOffBy_32 (by decide) (by unfold inR at *; omega) (fun c_2 => ?_) (fun c_2 => ?_)
    · exfalso
      omega
    · refine q_aload_n dX7_isOffBy_35 rfl rfl ?_
      refine sg7 (kf := 0) (v := .ref 385) dX7_isOffBy_36 flX7_7 (show kd 384 = 7 from rfl) (by decide) rfl ?_
      refine z_bipush dX7_isOffBy_39 (by decide +kernel) ?_
      refine q_iload_n dX7_isOffBy_41 rfl rfl ?_
      refine z_iadd dX7_isOffBy_42 ?_
      refine s_iald (n := 1583) (x := (rA W (addn A h n)) (19 + p)) dX7_isOffBy_43 (show kd 385 = 100 + 1583 from rfl) (by omega) (by omega) (by decide) rfl ?_
      refine z_iconst dX7_isOffBy_44 ?_
      refine z_icmp_ne (tgt := 52) dX7_isOffBy_45 (by decide) (by unfold inR at *; omega) (by unfold inR at *; omega) (fun c_3 => ?_) (fun c_3 => ?_)
      · refine z_iconst dX7_isOffBy_52 ?_
        refine q_istore dX7_isOffBy_53 (by decide) ?_
        show sE g_tt _ _ _ 55 [some (.ref 384), some (.int (iZ (p : Int))), some (.int (iZ (h : Int))), some (.int (iZ n)), some (.int (iZ 0))] [] (ms σ2 (rA W (addn A h n)) F2)
        refine q_aload_n dX7_isOffBy_55 rfl rfl ?_
        refine s_callV (ci := 7) (a := 384) (As := []) (S := []) dX7_isOffBy_56 okX7_putBack mlX7_388 rfl (by omega) rfl (Nat.le_of_ble_eq_true rfl) (show kd 384 = 7 from rfl) (by decide) rfl (m_putB (d := d - 1) (σ := σ) (A := A) σ2 (rA W (addn A h n)) F2 hA2 (agr_tr (agr_addn A hh n) (agr_rA hW g2))) (fun v_ σ_ hq => ?_)
        obtain ⟨rfl, e9⟩ := hq
        have e9 := e9.symm
        subst e9
        show sE g_tt _ _ _ 59 [some (.ref 384), some (.int (iZ (p : Int))), some (.int (iZ (h : Int))), some (.int (iZ n)), some (.int (iZ 0))] [] (ms σ2 A (va_up F2 23 1))
        refine q_iload dX7_isOffBy_59 rfl ?_
        exact s_zret dX7_isOffBy_61 rfl (by omega) ⟨by unfold offB; (repeat (first | rw [if_pos (by omega)] | rw [if_neg (by omega)])), σ2, _, rfl, hA2.1, fS_fin h23 hF2⟩
      · refine z_iconst dX7_isOffBy_48 ?_
        refine q_goto (tgt := 53) dX7_isOffBy_49 (by decide) ?_
        refine q_istore dX7_isOffBy_53 (by decide) ?_
        show sE g_tt _ _ _ 55 [some (.ref 384), some (.int (iZ (p : Int))), some (.int (iZ (h : Int))), some (.int (iZ n)), some (.int (iZ 1))] [] (ms σ2 (rA W (addn A h n)) F2)
        refine q_aload_n dX7_isOffBy_55 rfl rfl ?_
        refine s_callV (ci := 7) (a := 384) (As := []) (S := []) dX7_isOffBy_56 okX7_putBack mlX7_388 rfl (by omega) rfl (Nat.le_of_ble_eq_true rfl) (show kd 384 = 7 from rfl) (by decide) rfl (m_putB (d := d - 1) (σ := σ) (A := A) σ2 (rA W (addn A h n)) F2 hA2 (agr_tr (agr_addn A hh n) (agr_rA hW g2))) (fun v_ σ_ hq => ?_)
        obtain ⟨rfl, e9⟩ := hq
        have e9 := e9.symm
        subst e9
        show sE g_tt _ _ _ 59 [some (.ref 384), some (.int (iZ (p : Int))), some (.int (iZ (h : Int))), some (.int (iZ n)), some (.int (iZ 1))] [] (ms σ2 A (va_up F2 23 1))
        refine q_iload dX7_isOffBy_59 rfl ?_
        exact s_zret dX7_isOffBy_61 rfl (by omega) ⟨by unfold offB; (repeat (first | rw [if_pos (by omega)] | rw [if_neg (by omega)])), σ2, _, rfl, hA2.1, fS_fin h23 hF2⟩
  · have c_1 := if01_0 c_1
    refine z_iconst dX7_isOffBy_9 ?_
    exact s_zret dX7_isOffBy_10 rfl (by omega) ⟨by unfold offB; (repeat (first | rw [if_pos (by omega)] | rw [if_neg (by omega)])), σ, F, rfl, eqX_rf σ, fS_rf h26⟩
set_option maxHeartbeats 4000000 in
set_option maxRecDepth 100000 in
theorem lp_least1 {d p n : Nat} (hd : 9 ≤ d) (hp : p < 5) (hn1 : 1 ≤ n) (hn20 : n ≤ 20) {u : Int} (hu : u = 0 ∨ u = 1) (l3 : Int) (σ : gS) (A F : Nat → Int) (h23 : F 23 = 1) (h26 : 0 ≤ F 26) {W : wF} {nt : Int} (hW : wOK (σ.2.1 387) 100000 nt W) (g : gd 98000 nt A) (kc : ∀ (σ1 : gS) (F1 : Nat → Int) (l5 : Option Value), eqX σ σ1 → fS F F1 → fst1 (fun h => offB W A p h (n : Int)) 8 0 = -1 → sE g_tt mX7_least d (fun r σ' => r = some (.int (iZ (mLe W A p u (21 - n) n))) ∧ ∃ σ2 F2, σ' = ms σ2 A F2 ∧ eqX σ σ2 ∧ fS F F2) 100 [some (.ref 384), some (.int (iZ (p : Int))), some (.int (iZ u)), some (.int (iZ l3)), some (.int (iZ (n : Int))), l5] [] (ms σ1 A F1)) : ∀ (f : Nat) (h : Nat) (σ1 : gS) (F1 : Nat → Int), h ≤ 8 → 0 ≤ h → eqX σ σ1 → fS F F1 → fst1 (fun h => offB W A p h (n : Int)) (8 - h) h = fst1 (fun h => offB W A p h (n : Int)) 8 0 → 8 - (h : Int) < (f : Int) → sE g_tt mX7_least d (fun r σ' => r = some (.int (iZ (mLe W A p u (21 - n) n))) ∧ ∃ σ2 F2, σ' = ms σ2 A F2 ∧ eqX σ σ2 ∧ fS F F2) 63 [some (.ref 384), some (.int (iZ (p : Int))), some (.int (iZ u)), some (.int (iZ l3)), some (.int (iZ (n : Int))), some (.int (iZ (h : Int)))] [] (ms σ1 A F1) := by
  intro f
  induction f with
  | zero =>
    intro h σ1 F1 hh h0 hE1 hF1 hfs hf
    exact absurd hf (by omega)
  | succ f ih =>
    intro h σ1 F1 hh h0 hE1 hF1 hfs hf
    refine q_iload dX7_least_63 rfl ?_
    refine z_bipush dX7_least_65 (by decide +kernel) ?_
    refine z_icmp_ge (tgt := 100) dX7_least_67 (by decide) (by unfold inR at *; omega) (by unfold inR at *; omega) (fun c_1 => ?_) (fun c_1 => ?_)
    · exact kc σ1 F1 _ hE1 hF1 (by rw [← hfs, show 8 - h = 0 by omega, fst1])
    · refine q_aload_n dX7_least_70 rfl rfl ?_
      refine q_iload_n dX7_least_71 rfl rfl ?_
      refine q_iload dX7_least_72 rfl ?_
      refine q_iload dX7_least_74 rfl ?_
      refine s_callV (ci := 7) (a := 384) (As := [.int (iZ (p : Int)), .int (iZ (h : Int)), .int (iZ (n : Int))]) (S := []) dX7_least_76 okX7_isOffBy mlX7_412 rfl (by omega) rfl (Nat.le_of_ble_eq_true rfl) (show kd 384 = 7 from rfl) (by decide) rfl (m_isOffBy (d := d - 1) (h := h) (n := (n : Int)) (by omega) hp (by omega) (by omega) (by omega) σ1 A F1 ((fS_23 hF1).trans h23) hF1.2 (by rw [hE1.2.1 387 (by decide)]; exact hW) g) (fun v_ σ_ hq => ?_)
      obtain ⟨rfl, σ2, F2, e9, hE2, hF2⟩ := hq
      subst e9
      have hE3 := eqX_tr hE1 hE2
      have hF3 := fS_tr hF1 hF2
      have o1 : offB W A p h (n : Int) = 0 ∨ offB W A p h (n : Int) = 1 := by unfold offB; exact if01.symm.symm
      show sE g_tt _ _ _ 79 [some (.ref 384), some (.int (iZ (p : Int))), some (.int (iZ u)), some (.int (iZ l3)), some (.int (iZ (n : Int))), some (.int (iZ (h : Int)))] [.int (iZ (offB W A p h (n : Int)))] (ms σ2 A F2)
      refine z_if_eq (tgt := 94) dX7_least_79 (by decide) (by unfold inR; omega) (fun c_2 => ?_) (fun c_2 => ?_)
      · refine z_iinc dX7_least_94 rfl (by decide) ?_
        show sE g_tt _ _ _ 97 [some (.ref 384), some (.int (iZ (p : Int))), some (.int (iZ u)), some (.int (iZ l3)), some (.int (iZ (n : Int))), some (.int (iZ ((h : Int) + 1)))] [] (ms σ2 A F2)
        refine q_goto (tgt := 63) dX7_least_97 (by decide) ?_
        refine ih (h + 1) σ2 F2 (by omega) (by omega) hE3 hF3 ?_ (by omega)
        rw [← hfs, show 8 - h = (8 - (h + 1)) + 1 by omega, fst1, if_neg (by show ¬ offB W A p h (n : Int) = 1; omega)]
      · refine q_iload_n dX7_least_82 rfl rfl ?_
        refine z_if_eq (tgt := 91) dX7_least_83 (by decide) (by unfold inR at *; omega) (fun c_3 => ?_) (fun c_3 => ?_)
        · refine q_iload dX7_least_91 rfl ?_
          exact s_iretZ dX7_least_93 rfl ⟨(by rw [show 21 - n = (21 - (n + 1)) + 1 by omega, mLe, show fst1 (fun h => offB W A p h (n : Int)) 8 0 = (h : Int) by rw [← hfs, show 8 - h = (8 - (h + 1)) + 1 by omega, fst1, if_pos (show offB W A p h (n : Int) = 1 by omega)]]; (repeat (first | rw [if_pos (by omega)] | rw [if_neg (by omega)]))), σ2, F2, rfl, hE3, hF3⟩
        · refine q_iload dX7_least_86 rfl ?_
          refine q_goto (tgt := 93) dX7_least_88 (by decide) ?_
          exact s_iretZ dX7_least_93 rfl ⟨(by rw [show 21 - n = (21 - (n + 1)) + 1 by omega, mLe, show fst1 (fun h => offB W A p h (n : Int)) 8 0 = (h : Int) by rw [← hfs, show 8 - h = (8 - (h + 1)) + 1 by omega, fst1, if_pos (show offB W A p h (n : Int) = 1 by omega)]]; (repeat (first | rw [if_pos (by omega)] | rw [if_neg (by omega)]))), σ2, F2, rfl, hE3, hF3⟩
set_option maxHeartbeats 4000000 in
set_option maxRecDepth 100000 in
theorem lp_least {d p : Nat} (hd : 9 ≤ d) (hp : p < 5) {u : Int} (hu : u = 0 ∨ u = 1) (l3 : Int) (σ : gS) (A F : Nat → Int) (h23 : F 23 = 1) (h26 : 0 ≤ F 26) {W : wF} {nt : Int} (hW : wOK (σ.2.1 387) 100000 nt W) (g : gd 98000 nt A) : ∀ (f : Nat) (n : Nat) (σ1 : gS) (F1 : Nat → Int) (l5 : Option Value), 1 ≤ n → n ≤ 21 → eqX σ σ1 → fS F F1 → 21 - (n : Int) < (f : Int) → sE g_tt mX7_least d (fun r σ' => r = some (.int (iZ (mLe W A p u (21 - n) n))) ∧ ∃ σ2 F2, σ' = ms σ2 A F2 ∧ eqX σ σ2 ∧ fS F F2) 53 [some (.ref 384), some (.int (iZ (p : Int))), some (.int (iZ u)), some (.int (iZ l3)), some (.int (iZ (n : Int))), l5] [] (ms σ1 A F1) := by
  intro f
  induction f with
  | zero =>
    intro n σ1 F1 l5 hn1 hn20 hE1 hF1 hf
    exact absurd hf (by omega)
  | succ f ih =>
    intro n σ1 F1 l5 hn1 hn20 hE1 hF1 hf
    refine q_iload dX7_least_53 rfl ?_
    refine z_bipush dX7_least_55 (by decide +kernel) ?_
    refine z_icmp_gt (tgt := 106) dX7_least_57 (by decide) (by unfold inR at *; omega) (by unfold inR at *; omega) (fun c_1 => ?_) (fun c_1 => ?_)
    · refine z_iconst dX7_least_106 ?_
      exact s_iretZ dX7_least_107 rfl ⟨by rw [show 21 - n = 0 by omega, mLe], σ1, F1, rfl, hE1, hF1⟩
    · refine z_iconst dX7_least_60 ?_
      refine q_istore dX7_least_61 (by decide) ?_
      show sE g_tt _ _ _ 63 [some (.ref 384), some (.int (iZ (p : Int))), some (.int (iZ u)), some (.int (iZ l3)), some (.int (iZ (n : Int))), some (.int (iZ 0))] [] (ms σ1 A F1)
      refine lp_least1 hd hp (by omega) (by omega) hu l3 σ A F h23 h26 hW g ?_ 9 0 σ1 F1 (by omega) (by omega) hE1 hF1 rfl (by omega)
      intro σ2 F2 l9 hE2 hF2 hfn
      refine z_iinc dX7_least_100 rfl (by decide) ?_
      show sE g_tt _ _ _ 103 [some (.ref 384), some (.int (iZ (p : Int))), some (.int (iZ u)), some (.int (iZ l3)), some (.int (iZ ((n : Int) + 1))), l9] [] (ms σ2 A F2)
      refine q_goto (tgt := 53) dX7_least_103 (by decide) ?_
      rw [show 21 - n = (21 - (n + 1)) + 1 by omega, mLe, if_pos hfn]
      exact ih (n + 1) σ2 F2 _ (by omega) (by omega) hE2 hF2 (by omega)
set_option maxHeartbeats 4000000 in
set_option maxRecDepth 100000 in
theorem m_least {d p : Nat} (hd : 9 ≤ d) (σ : gS) (A F : Nat → Int) (h23 : F 23 = 1) (h26 : 0 ≤ F 26) {W : wF} {nt : Int} (hW : wOK (σ.2.1 387) 100000 nt W) (g : gd 98000 nt A) (hp : (p : Int) < A 0) {u : Int} (hu : u = 0 ∨ u = 1) : sC mX7_least d [.ref 384, .int (iZ (p : Int)), .int (iZ u)] (ms σ A F) (fun r σ' => r = some (.int (iZ (if rA W A (19 + p) = -1 then 0 else mLe W A p u 20 1))) ∧ ∃ σ2 F2, σ' = ms σ2 A F2 ∧ eqX σ σ2 ∧ fS F F2) := by
  have g0 := g.1
  have kp := (gd_rA hW (gd_mono g (show (98000 : Int) ≤ 100000 by decide))).2.1 p (by omega)
  refine sC_of rfl (Nat.le_of_ble_eq_true rfl) ?_
  show sE g_tt _ _ _ 0 [some (.ref 384), some (.int (iZ (p : Int))), some (.int (iZ u)), none, none, none] [] (ms σ A F)
  refine q_aload_n dX7_least_0 rfl rfl ?_
  refine q_iload_n dX7_least_1 rfl rfl ?_
  refine s_callV (ci := 7) (a := 384) (As := [.int (iZ (p : Int))]) (S := []) dX7_least_2 okX7_isPerson mlX7_367 rfl (by omega) rfl (Nat.le_of_ble_eq_true rfl) (show kd 384 = 7 from rfl) (by decide) rfl (m_isPerson (d := d - 1) (by omega) (p := (p : Int)) (by unfold inR; omega) σ A F g.1.1 g.1.2) (fun v_ σ_ hq => ?_)
  obtain ⟨rfl, e9⟩ := hq
  have e9 := e9.symm
  subst e9
  show sE g_tt _ _ _ 5 [some (.ref 384), some (.int (iZ (p : Int))), some (.int (iZ u)), none, none, none] [.int (iZ (if 0 ≤ (p : Int) ∧ (p : Int) < A 0 then 1 else 0))] (ms σ A F)
  refine z_if_ne (tgt := 10) dX7_least_5 (by decide) inR_01 (fun c_1 => ?_) (fun c_1 => ?_)
  · have c_1 := if01_1 c_1
    refine q_aload_n dX7_least_10 rfl rfl ?_
    refine s_callV (ci := 7) (a := 384) (As := []) (S := []) dX7_least_11 okX7_setAside mlX7_385 rfl (by omega) rfl (Nat.le_of_ble_eq_true rfl) (show kd 384 = 7 from rfl) (by decide) rfl (m_aside (d := d - 1) σ A F) (fun v_ σ_ hq => ?_)
    obtain ⟨rfl, σ1, e9, hA1⟩ := hq
    subst e9
    have hF1 : fS (va_up F 23 0) (va_up F 23 0) := fS_rf (by show 0 ≤ F 26; exact h26)
    have hz1 : va_up F 23 0 23 = 0 := rfl
    show sE g_tt _ _ _ 14 [some (.ref 384), some (.int (iZ (p : Int))), some (.int (iZ u)), none, none, none] [] (ms σ1 A (va_up F 23 0))
    refine q_aload_n dX7_least_14 rfl rfl ?_
    refine s_callV (ci := 7) (a := 384) (As := []) (S := []) dX7_least_15 okX7_settleNow mlX7_331 rfl (by omega) rfl (Nat.le_of_ble_eq_true rfl) (show kd 384 = 7 from rfl) (by decide) rfl (m_stlB (d := d - 1) (by omega) σ1 A (va_up F 23 0) (W := W) (nt := nt) (by rw [asd_T hA1]; exact hW) (gd_mono g (by decide)) hz1) (fun v_ σ_ hq => ?_)
    obtain ⟨rfl, σ2, F2, e9, hE2, hf2, hT2, hM2⟩ := hq
    subst e9
    have hA2 := asd_S hA1 hE2
    have hF2 := fS_tr hF1 hf2
    have hz2 : F2 23 = 0 := (fS_23 hf2).trans hz1
    have hl2 := rL_len hW (A := A) (gd_mono g (by decide))
    show sE g_tt _ _ _ 18 [some (.ref 384), some (.int (iZ (p : Int))), some (.int (iZ u)), none, none, none] [.int (iZ ((rL W A).length : Int))] (ms σ2 (rA W A) F2)
    refine z_if_lt (tgt := 38) dX7_least_18 (by decide) (by unfold inR at *; omega) (fun c_2 => ?_) (fun c_2 => ?_)
    · exfalso
      omega
    · refine q_aload_n dX7_least_21 rfl rfl ?_
      refine sg7 (kf := 0) (v := .ref 385) dX7_least_22 flX7_7 (show kd 384 = 7 from rfl) (by decide) rfl ?_
      refine z_bipush dX7_least_25 (by decide +kernel) ?_
      refine q_iload_n dX7_least_27 rfl rfl ?_
      refine z_iadd dX7_least_28 ?_
      refine s_iald (n := 1583) (x := (rA W A) (19 + p)) dX7_least_29 (show kd 385 = 100 + 1583 from rfl) (by omega) (by omega) (by decide) rfl ?_
      refine z_iconst dX7_least_30 ?_
      refine z_icmp_ne (tgt := 38) dX7_least_31 (by decide) (by unfold inR at *; omega) (by unfold inR at *; omega) (fun c_3 => ?_) (fun c_3 => ?_)
      · refine z_iconst dX7_least_38 ?_
        refine q_istore_n dX7_least_39 rfl (by decide) ?_
        show sE g_tt _ _ _ 40 [some (.ref 384), some (.int (iZ (p : Int))), some (.int (iZ u)), some (.int (iZ 0)), none, none] [] (ms σ2 (rA W A) F2)
        refine q_aload_n dX7_least_40 rfl rfl ?_
        refine s_callV (ci := 7) (a := 384) (As := []) (S := []) dX7_least_41 okX7_putBack mlX7_388 rfl (by omega) rfl (Nat.le_of_ble_eq_true rfl) (show kd 384 = 7 from rfl) (by decide) rfl (m_putB (d := d - 1) (σ := σ) (A := A) σ2 (rA W A) F2 hA2 (agr_rA hW (gd_mono g (by decide)))) (fun v_ σ_ hq => ?_)
        obtain ⟨rfl, e9⟩ := hq
        have e9 := e9.symm
        subst e9
        show sE g_tt _ _ _ 44 [some (.ref 384), some (.int (iZ (p : Int))), some (.int (iZ u)), some (.int (iZ 0)), none, none] [] (ms σ2 A (va_up F2 23 1))
        refine q_iload_n dX7_least_44 rfl rfl ?_
        refine z_if_eq (tgt := 50) dX7_least_45 (by decide) (by unfold inR at *; omega) (fun c_4 => ?_) (fun c_4 => ?_)
        · refine z_iconst dX7_least_50 ?_
          refine q_istore dX7_least_51 (by decide) ?_
          show sE g_tt _ _ _ 53 [some (.ref 384), some (.int (iZ (p : Int))), some (.int (iZ u)), some (.int (iZ 0)), some (.int (iZ 1)), none] [] (ms σ2 A (va_up F2 23 1))
          rw [if_neg (by omega)]
          exact lp_least hd (by omega) hu _ σ A F h23 h26 hW g 21 1 σ2 _ _ (by omega) (by omega) hA2.1 (fS_fin h23 hF2) (by omega)
        · exfalso
          revert c_4
          decide
      · refine z_iconst dX7_least_34 ?_
        refine q_goto (tgt := 39) dX7_least_35 (by decide) ?_
        refine q_istore_n dX7_least_39 rfl (by decide) ?_
        show sE g_tt _ _ _ 40 [some (.ref 384), some (.int (iZ (p : Int))), some (.int (iZ u)), some (.int (iZ 1)), none, none] [] (ms σ2 (rA W A) F2)
        refine q_aload_n dX7_least_40 rfl rfl ?_
        refine s_callV (ci := 7) (a := 384) (As := []) (S := []) dX7_least_41 okX7_putBack mlX7_388 rfl (by omega) rfl (Nat.le_of_ble_eq_true rfl) (show kd 384 = 7 from rfl) (by decide) rfl (m_putB (d := d - 1) (σ := σ) (A := A) σ2 (rA W A) F2 hA2 (agr_rA hW (gd_mono g (by decide)))) (fun v_ σ_ hq => ?_)
        obtain ⟨rfl, e9⟩ := hq
        have e9 := e9.symm
        subst e9
        show sE g_tt _ _ _ 44 [some (.ref 384), some (.int (iZ (p : Int))), some (.int (iZ u)), some (.int (iZ 1)), none, none] [] (ms σ2 A (va_up F2 23 1))
        refine q_iload_n dX7_least_44 rfl rfl ?_
        refine z_if_eq (tgt := 50) dX7_least_45 (by decide) (by unfold inR at *; omega) (fun c_5 => ?_) (fun c_5 => ?_)
        · exfalso
          revert c_5
          decide
        · refine z_iconst dX7_least_48 ?_
          exact s_iretZ dX7_least_49 rfl ⟨by rw [if_pos (by omega)], σ2, _, rfl, hA2.1, fS_fin h23 hF2⟩
  · have c_1 := if01_0 c_1
    exfalso
    omega
set_option maxHeartbeats 4000000 in
set_option maxRecDepth 100000 in
theorem m_least0 {d : Nat} (hd : 2 ≤ d) {p u : Int} (hp : inR p) (σ : gS) (A F : Nat → Int) (h0 : 0 ≤ A 0) (h5 : A 0 ≤ 5) (hno : ¬ (0 ≤ p ∧ p < A 0)) : sC mX7_least d [.ref 384, .int (iZ p), .int (iZ u)] (ms σ A F) (fun r σ' => r = some (.int (iZ (-1))) ∧ σ' = ms σ A F) := by
  refine sC_of rfl (Nat.le_of_ble_eq_true rfl) ?_
  show sE g_tt _ _ _ 0 [some (.ref 384), some (.int (iZ p)), some (.int (iZ u)), none, none, none] [] (ms σ A F)
  refine q_aload_n dX7_least_0 rfl rfl ?_
  refine q_iload_n dX7_least_1 rfl rfl ?_
  refine s_callV (ci := 7) (a := 384) (As := [.int (iZ p)]) (S := []) dX7_least_2 okX7_isPerson mlX7_367 rfl (by omega) rfl (Nat.le_of_ble_eq_true rfl) (show kd 384 = 7 from rfl) (by decide) rfl (m_isPerson (d := d - 1) (by omega) (p := p) (by unfold inR at *; omega) σ A F (by omega) (by omega)) (fun v_ σ_ hq => ?_)
  obtain ⟨rfl, e9⟩ := hq
  have e9 := e9.symm
  subst e9
  show sE g_tt _ _ _ 5 [some (.ref 384), some (.int (iZ p)), some (.int (iZ u)), none, none, none] [.int (iZ (if 0 ≤ p ∧ p < A 0 then 1 else 0))] (ms σ A F)
  refine z_if_ne (tgt := 10) dX7_least_5 (by decide) inR_01 (fun c_1 => ?_) (fun c_1 => ?_)
  · have c_1 := if01_1 c_1
    exfalso
    omega
  · have c_1 := if01_0 c_1
    refine z_iconst dX7_least_8 ?_
    exact s_iretZ dX7_least_9 rfl ⟨rfl, rfl⟩
