/-! ===== at rest, waves, until ===== -/
theorem mTh_r (A : Nat → Int) (h th : Nat) {F G : Nat → Int} (q : F 23 = G 23) : ∀ n, (mTh A F h th n).1 = (mTh A G h th n).1 ∧ (mTh A F h th n).2 23 = (mTh A G h th n).2 23 := by
  intro n
  induction n with
  | zero => exact ⟨rfl, q⟩
  | succ n ih =>
    simp only [mTh]
    split
    · simp only [mStep]
      rw [ih.1, ih.2]
      exact ⟨rfl, ih.2⟩
    · exact ih
theorem mThank_r (A : Nat → Int) (h : Nat) {F G : Nat → Int} (q : F 23 = G 23) : (mThank A F h).1 = (mThank A G h).1 ∧ (mThank A F h).2 23 = (mThank A G h).2 23 := by
  unfold mThank
  exact mTh_r _ _ _ (F := va_up F 26 (((F 26).toNat ||| 2 ^ h : Nat) : Int)) (G := va_up G 26 (((G 26).toNat ||| 2 ^ h : Nat) : Int)) q _
theorem sett_r {W : wF} : ∀ (f : Nat) (A F G : Nat → Int), F 23 = G 23 → (sett W f A F).1 = (sett W f A G).1 ∧ (sett W f A F).2.1 = (sett W f A G).2.1 := by
  intro f
  induction f with
  | zero => intro A F G q; exact ⟨rfl, rfl⟩
  | succ f ih =>
    intro A F G q
    simp only [sett]
    split
    · exact ⟨rfl, rfl⟩
    · have t := mThank_r A (rdI W A).toNat q
      have z := ih (mThank A F (rdI W A).toNat).1 (mThank A F (rdI W A).toNat).2 (mThank A G (rdI W A).toNat).2 t.2
      rw [t.1] at z
      rw [t.1]
      exact ⟨by rw [z.1], z.2⟩
theorem mTh_25 (A F : Nat → Int) (h th : Nat) : ∀ n : Nat, F 25 ≤ (mTh A F h th n).2 25 ∧ (mTh A F h th n).2 25 ≤ F 25 + (n : Int) := by
  intro n
  induction n with
  | zero => exact ⟨Int.le_refl _, by show F 25 ≤ F 25 + ((0 : Nat) : Int); omega⟩
  | succ n ih =>
    simp only [mTh]
    split
    · show F 25 ≤ (mTh A F h th n).2 25 + 1 ∧ (mTh A F h th n).2 25 + 1 ≤ _
      omega
    · omega
theorem sett_25 {W : wF} : ∀ (f : Nat) (A F : Nat → Int), gd 100000 5 A ∨ True → F 25 ≤ (sett W f A F).2.2 25 := by
  intro f
  induction f with
  | zero => intro A F _; exact Int.le_refl _
  | succ f ih =>
    intro A F _
    simp only [sett]
    split
    · exact Int.le_refl _
    · refine Int.le_trans ?_ (ih _ _ (Or.inr trivial))
      exact (mTh_25 (mKd A (rdI W A).toNat) (va_up F 26 _) _ _ _).1
theorem sett_25b {W : wF} {c nt : Int} (hW : ∀ A, gd c nt A → ∀ h, h < 8 → 0 ≤ wA W A h) : ∀ (f : Nat) (A F : Nat → Int), gd c nt A → (sett W f A F).2.2 25 ≤ F 25 + 5 * ((sett W f A F).1.length : Int) := by
  intro f
  induction f with
  | zero => intro A F _; show F 25 ≤ F 25 + 5 * ((0 : Nat) : Int); omega
  | succ f ih =>
    intro A F g
    simp only [sett]
    split
    · show F 25 ≤ F 25 + 5 * ((0 : Nat) : Int); omega
    · rename_i hr
      obtain ⟨j, hj, ej, hw⟩ := (rdI_spec (W := W) (A := A)).resolve_left hr
      rw [ej, Int.toNat_natCast]
      have w0 := hW A g j hj
      have i9 := ih (mThank A F j).1 (mThank A F j).2 (gd_thank g F hj (by omega))
      have k9 : (mThank A F j).2 25 ≤ F 25 + (((A 0).toNat : Nat) : Int) := (mTh_25 (mKd A j) (va_up F 26 (((F 26).toNat ||| 2 ^ j : Nat) : Int)) j (mPeo (mKd A j) j (A 0).toNat) (A 0).toNat).2
      have a0 := g.1
      simp only [List.length_cons]
      omega
theorem rM_ran {T : Nat → Int} {W : wF} {nt : Int} (hW : wOK T 100000 nt W) {A : Nat → Int} (g : gd 100000 nt A) : 0 ≤ rM W A ∧ rM W A ≤ 5000000 := by
  have a : (0 : Int) ≤ rM W A := sett_25 (W := W) fuS A (va_up (va_up zF 26 0) 25 0) (Or.inr trivial)
  have b : rM W A ≤ 0 + 5 * ((rL W A).length : Int) := sett_25b (wOK_0 hW) fuS A (va_up (va_up zF 26 0) 25 0) g
  have c := rL_len hW g
  exact ⟨a, by omega⟩
theorem m_stlB {d : Nat} (hd : 7 ≤ d) (σ1 : gS) (B F : Nat → Int) {W : wF} {nt : Int} (hW : wOK (σ1.2.1 387) 100000 nt W) (g : gd 100000 nt B) (hz : F 23 = 0) : sC mX7_settleNow d [.ref 384] (ms σ1 B F) (fun r σ' => r = some (.int (iZ ((rL W B).length : Int))) ∧ ∃ σ2 F2, σ' = ms σ2 (rA W B) F2 ∧ eqS σ1 σ2 ∧ fS F F2 ∧ F2 26 = rT W B ∧ F2 25 = rM W B) := by
  refine sC_imp ?_ (m_settle hd σ1 B F (Int.le_refl _) hW g (by rw [hz]; unfold inR; decide))
  rintro v s ⟨e1, σ2, e2, e3⟩
  have q := rS (W := W) B (F := F) hz
  exact ⟨by rw [e1, q.1], σ2, (mS W B F).2.2, by rw [e2, q.2.1], e3, fS_mS B F, q.2.2.1, q.2.2.2⟩
theorem asd_mk {σ σ0 : gS} {A : Nat → Int} (h : eqX σ σ0) : asd σ A (sRw σ0 393 (mAs A (σ0.2.1 393) 24)) := ⟨eqX_tr h (eqX_Rw _ (by decide) _), fun i a b => by
  show va_up σ0.2.1 393 (mAs A (σ0.2.1 393) 24) 393 i = A i
  rw [va_up_self]
  unfold mAs
  rw [if_pos ⟨a, b⟩]⟩
set_option maxHeartbeats 4000000 in
set_option maxRecDepth 100000 in
theorem m_goA {d h : Nat} (hd : 8 ≤ d) (hh : h < 8) (σ1 : gS) (B F : Nat → Int) {W : wF} {nt : Int} (hW : wOK (σ1.2.1 387) 100000 nt W) (g : gd 99000 nt B) (hz1 : F 23 = 0) : sC mX7_goOne d [.ref 384, .int (iZ (h : Int))] (ms σ1 B F) (fun r σ' => r = none ∧ ∃ σ2 F2, σ' = ms σ2 (rA W (inc B h)) F2 ∧ eqS σ1 σ2 ∧ fS F F2 ∧ F2 26 = rT W (inc B h) ∧ F2 25 = rM W (inc B h)) := by
  have k9 := kd_ran g hh
  have g2 : gd 100000 nt (inc B h) := gd_mono (gd_inc g hh) (by decide)
  refine sC_of rfl (Nat.le_of_ble_eq_true rfl) ?_
  show sE g_tt _ _ _ 0 [some (.ref 384), some (.int (iZ (h : Int)))] [] (ms σ1 B F)
  refine q_aload_n dX7_goOne_0 rfl rfl ?_
  refine sg7 (kf := 0) (v := .ref 385) dX7_goOne_1 flX7_7 (show kd 384 = 7 from rfl) (by decide) rfl ?_
  refine z_bipush dX7_goOne_4 (by decide +kernel) ?_
  refine q_iload_n dX7_goOne_6 rfl rfl ?_
  refine z_iadd dX7_goOne_7 ?_
  refine q_dup2 dX7_goOne_8 rfl rfl ?_
  refine s_iald (n := 1583) (x := B (11 + h)) dX7_goOne_9 (show kd 385 = 100 + 1583 from rfl) (by omega) (by omega) (by decide) rfl ?_
  refine z_iconst dX7_goOne_10 ?_
  refine z_iadd dX7_goOne_11 ?_
  refine ma_st dX7_goOne_12 (by omega) (by omega) ?_
  refine q_aload_n dX7_goOne_13 rfl rfl ?_
  refine s_callV (ci := 7) (a := 384) (As := []) (S := []) dX7_goOne_14 okX7_settleNow mlX7_331 rfl (by omega) rfl (Nat.le_of_ble_eq_true rfl) (show kd 384 = 7 from rfl) (by decide) rfl (m_stlB (d := d - 1) (by omega) σ1 (inc B h) F (W := W) (nt := nt) hW g2 hz1) (fun v_ σ_ hq => ?_)
  obtain ⟨rfl, σ2, F2, e9, hE2, hf2, hT2, hM2⟩ := hq
  subst e9
  have hz2 : F2 23 = 0 := (fS_23 hf2).trans hz1
  have hl2 := rL_len hW (A := (inc B h)) g2
  show sE g_tt _ _ _ 17 [some (.ref 384), some (.int (iZ (h : Int)))] [.int (iZ ((rL W (inc B h)).length : Int))] (ms σ2 (rA W (inc B h)) F2)
  refine z_if_ge (tgt := 28) dX7_goOne_17 (by decide) (by unfold inR at *; omega) (fun c_1 => ?_) (fun c_1 => ?_)
  · exact s_vret dX7_goOne_28 rfl ⟨rfl, σ2, F2, rfl, hE2, hf2, hT2, hM2⟩
  · exfalso
    omega
set_option maxHeartbeats 4000000 in
set_option maxRecDepth 100000 in
theorem m_layWave {d h : Nat} (hd : 8 ≤ d) (hh : h < 8) (σ : gS) (A F : Nat → Int) (h23 : F 23 = 1) (h26 : 0 ≤ F 26) {W : wF} {nt : Int} (hW : wOK (σ.2.1 387) 100000 nt W) (g : gd 100000 nt A) : sC mX7_layWave d [.ref 384, .int (iZ (h : Int)), .int (iZ (-1))] (ms σ A F) (fun r σ' => r = none ∧ ∃ σ2 F2, σ' = ms σ2 A F2 ∧ eqX σ σ2 ∧ fS F F2 ∧ F2 29 = ((rL W (inc (rA W A) h)).length : Int) ∧ F2 30 = rT W (inc (rA W A) h) ∧ F2 31 = rM W (inc (rA W A) h)) := by
  have g2 := gd_rA hW g
  have k9 := kd_ran g2 hh
  have g3 : gd 100000 nt (inc (rA W A) h) := gd_mono (gd_inc g2 hh) (by decide)
  refine sC_of rfl (Nat.le_of_ble_eq_true rfl) ?_
  show sE g_tt _ _ _ 0 [some (.ref 384), some (.int (iZ (h : Int))), some (.int (iZ (-1))), none] [] (ms σ A F)
  refine q_aload_n dX7_layWave_0 rfl rfl ?_
  refine s_callV (ci := 7) (a := 384) (As := []) (S := []) dX7_layWave_1 okX7_setAside mlX7_385 rfl (by omega) rfl (Nat.le_of_ble_eq_true rfl) (show kd 384 = 7 from rfl) (by decide) rfl (m_aside (d := d - 1) σ A F) (fun v_ σ_ hq => ?_)
  obtain ⟨rfl, σ1, e9, hA1⟩ := hq
  subst e9
  have hF1 : fS (va_up F 23 0) (va_up F 23 0) := fS_rf (by show 0 ≤ F 26; exact h26)
  have hz1 : va_up F 23 0 23 = 0 := rfl
  show sE g_tt _ _ _ 4 [some (.ref 384), some (.int (iZ (h : Int))), some (.int (iZ (-1))), none] [] (ms σ1 A (va_up F 23 0))
  refine q_aload_n dX7_layWave_4 rfl rfl ?_
  refine s_callV (ci := 7) (a := 384) (As := []) (S := []) dX7_layWave_5 okX7_settleNow mlX7_331 rfl (by omega) rfl (Nat.le_of_ble_eq_true rfl) (show kd 384 = 7 from rfl) (by decide) rfl (m_stlB (d := d - 1) (by omega) σ1 A (va_up F 23 0) (W := W) (nt := nt) (by rw [asd_T hA1]; exact hW) g hz1) (fun v_ σ_ hq => ?_)
  obtain ⟨rfl, σ2, F2, e9, hE2, hf2, hT2, hM2⟩ := hq
  subst e9
  have hA2 := asd_S hA1 hE2
  have hF2 := fS_tr hF1 hf2
  have hz2 : F2 23 = 0 := (fS_23 hf2).trans hz1
  have hl2 := rL_len hW (A := A) g
  show sE g_tt _ _ _ 8 [some (.ref 384), some (.int (iZ (h : Int))), some (.int (iZ (-1))), none] [.int (iZ ((rL W A).length : Int))] (ms σ2 (rA W A) F2)
  refine q_istore_n dX7_layWave_8 rfl (by decide) ?_
  show sE g_tt _ _ _ 9 [some (.ref 384), some (.int (iZ (h : Int))), some (.int (iZ (-1))), some (.int (iZ ((rL W A).length : Int)))] [] (ms σ2 (rA W A) F2)
  refine q_aload_n dX7_layWave_9 rfl rfl ?_
  refine sg7 (kf := 0) (v := .ref 385) dX7_layWave_10 flX7_7 (show kd 384 = 7 from rfl) (by decide) rfl ?_
  refine z_bipush dX7_layWave_13 (by decide +kernel) ?_
  refine q_iload_n dX7_layWave_15 rfl rfl ?_
  refine z_iadd dX7_layWave_16 ?_
  refine q_dup2 dX7_layWave_17 rfl rfl ?_
  refine s_iald (n := 1583) (x := (rA W A) (11 + h)) dX7_layWave_18 (show kd 385 = 100 + 1583 from rfl) (by omega) (by omega) (by decide) rfl ?_
  refine z_iconst dX7_layWave_19 ?_
  refine z_iadd dX7_layWave_20 ?_
  refine ma_st dX7_layWave_21 (by omega) (by omega) ?_
  refine q_iload_n dX7_layWave_22 rfl rfl ?_
  refine z_iconst dX7_layWave_23 ?_
  refine z_icmp_eq (tgt := 40) dX7_layWave_24 (by decide) (by unfold inR at *; omega) (by unfold inR at *; omega) (fun c_1 => ?_) (fun c_1 => ?_)
  · refine q_aload_n dX7_layWave_40 rfl rfl ?_
    refine s_callV (ci := 7) (a := 384) (As := []) (S := []) dX7_layWave_41 okX7_settleNow mlX7_331 rfl (by omega) rfl (Nat.le_of_ble_eq_true rfl) (show kd 384 = 7 from rfl) (by decide) rfl (m_stlB (d := d - 1) (by omega) σ2 (inc (rA W A) h) F2 (W := W) (nt := nt) (by rw [asd_T hA2]; exact hW) g3 hz2) (fun v_ σ_ hq => ?_)
    obtain ⟨rfl, σ3, F3, e9, hE3, hf3, hT3, hM3⟩ := hq
    subst e9
    have hA3 := asd_S hA2 hE3
    have hF3 := fS_tr hF2 hf3
    have hz3 : F3 23 = 0 := (fS_23 hf3).trans hz2
    have hl3 := rL_len hW (A := (inc (rA W A) h)) g3
    show sE g_tt _ _ _ 44 [some (.ref 384), some (.int (iZ (h : Int))), some (.int (iZ (-1))), some (.int (iZ ((rL W A).length : Int)))] [.int (iZ ((rL W (inc (rA W A) h)).length : Int))] (ms σ3 (rA W (inc (rA W A) h)) F3)
    refine q_istore_n dX7_layWave_44 rfl (by decide) ?_
    show sE g_tt _ _ _ 45 [some (.ref 384), some (.int (iZ (h : Int))), some (.int (iZ (-1))), some (.int (iZ ((rL W (inc (rA W A) h)).length : Int)))] [] (ms σ3 (rA W (inc (rA W A) h)) F3)
    refine q_aload_n dX7_layWave_45 rfl rfl ?_
    refine q_iload_n dX7_layWave_46 rfl rfl ?_
    refine mp (kf := 29) dX7_layWave_47 flX7_391 (by decide) ?_
    refine q_aload_n dX7_layWave_50 rfl rfl ?_
    refine q_aload_n dX7_layWave_51 rfl rfl ?_
    refine sg7 (kf := 26) (v := .int (iZ (F3 26))) dX7_layWave_52 flX7_304 (show kd 384 = 7 from rfl) (by decide) rfl ?_
    refine mp (kf := 30) dX7_layWave_55 flX7_394 (by decide) ?_
    refine q_aload_n dX7_layWave_58 rfl rfl ?_
    refine q_aload_n dX7_layWave_59 rfl rfl ?_
    refine sg7 (kf := 25) (v := .int (iZ (F3 25))) dX7_layWave_60 flX7_307 (show kd 384 = 7 from rfl) (by decide) rfl ?_
    refine mp (kf := 31) dX7_layWave_63 flX7_397 (by decide) ?_
    refine q_aload_n dX7_layWave_66 rfl rfl ?_
    refine s_callV (ci := 7) (a := 384) (As := []) (S := []) dX7_layWave_67 okX7_putBack mlX7_388 rfl (by omega) rfl (Nat.le_of_ble_eq_true rfl) (show kd 384 = 7 from rfl) (by decide) rfl (m_putB (d := d - 1) (σ := σ) (A := A) σ3 (rA W (inc (rA W A) h)) (va_up (va_up (va_up F3 29 ((rL W (inc (rA W A) h)).length : Int)) 30 (F3 26)) 31 (F3 25)) hA3 (agr_tr (agr_tr (agr_rA hW g) (agr_inc _ hh)) (agr_rA hW g3))) (fun v_ σ_ hq => ?_)
    obtain ⟨rfl, e9⟩ := hq
    have e9 := e9.symm
    subst e9
    show sE g_tt _ _ _ 70 [some (.ref 384), some (.int (iZ (h : Int))), some (.int (iZ (-1))), some (.int (iZ ((rL W (inc (rA W A) h)).length : Int)))] [] (ms σ3 A (va_up (va_up (va_up (va_up F3 29 ((rL W (inc (rA W A) h)).length : Int)) 30 (F3 26)) 31 (F3 25)) 23 1))
    exact s_vret dX7_layWave_70 rfl ⟨rfl, σ3, _, rfl, hA3.1, fS_fin h23 (fS_up (fS_up (fS_up hF3 (by omega) _) (by omega) _) (by omega) _), rfl, hT3, hM3⟩
  · exfalso
    revert c_1
    decide
set_option maxHeartbeats 4000000 in
set_option maxRecDepth 100000 in
theorem m_layWave2 {d h k : Nat} (hd : 8 ≤ d) (hh : h < 8) (hk : k < 8) (σ : gS) (A F : Nat → Int) (h23 : F 23 = 1) (h26 : 0 ≤ F 26) {W : wF} {nt : Int} (hW : wOK (σ.2.1 387) 100000 nt W) (g : gd 100000 nt A) : sC mX7_layWave d [.ref 384, .int (iZ (h : Int)), .int (iZ (k : Int))] (ms σ A F) (fun r σ' => r = none ∧ ∃ σ2 F2, σ' = ms σ2 A F2 ∧ eqX σ σ2 ∧ fS F F2 ∧ F2 29 = ((rL W (inc (inc (rA W A) h) k)).length : Int) ∧ F2 30 = rT W (inc (inc (rA W A) h) k) ∧ F2 31 = rM W (inc (inc (rA W A) h) k)) := by
  have g2 := gd_rA hW g
  have k9 := kd_ran g2 hh
  have g3 : gd 100000 nt (inc (inc (rA W A) h) k) := gd_mono (gd_inc (gd_inc g2 hh) hk) (by decide)
  have k8 := kd_ran (gd_inc g2 hh) hk
  refine sC_of rfl (Nat.le_of_ble_eq_true rfl) ?_
  show sE g_tt _ _ _ 0 [some (.ref 384), some (.int (iZ (h : Int))), some (.int (iZ (k : Int))), none] [] (ms σ A F)
  refine q_aload_n dX7_layWave_0 rfl rfl ?_
  refine s_callV (ci := 7) (a := 384) (As := []) (S := []) dX7_layWave_1 okX7_setAside mlX7_385 rfl (by omega) rfl (Nat.le_of_ble_eq_true rfl) (show kd 384 = 7 from rfl) (by decide) rfl (m_aside (d := d - 1) σ A F) (fun v_ σ_ hq => ?_)
  obtain ⟨rfl, σ1, e9, hA1⟩ := hq
  subst e9
  have hF1 : fS (va_up F 23 0) (va_up F 23 0) := fS_rf (by show 0 ≤ F 26; exact h26)
  have hz1 : va_up F 23 0 23 = 0 := rfl
  show sE g_tt _ _ _ 4 [some (.ref 384), some (.int (iZ (h : Int))), some (.int (iZ (k : Int))), none] [] (ms σ1 A (va_up F 23 0))
  refine q_aload_n dX7_layWave_4 rfl rfl ?_
  refine s_callV (ci := 7) (a := 384) (As := []) (S := []) dX7_layWave_5 okX7_settleNow mlX7_331 rfl (by omega) rfl (Nat.le_of_ble_eq_true rfl) (show kd 384 = 7 from rfl) (by decide) rfl (m_stlB (d := d - 1) (by omega) σ1 A (va_up F 23 0) (W := W) (nt := nt) (by rw [asd_T hA1]; exact hW) g hz1) (fun v_ σ_ hq => ?_)
  obtain ⟨rfl, σ2, F2, e9, hE2, hf2, hT2, hM2⟩ := hq
  subst e9
  have hA2 := asd_S hA1 hE2
  have hF2 := fS_tr hF1 hf2
  have hz2 : F2 23 = 0 := (fS_23 hf2).trans hz1
  have hl2 := rL_len hW (A := A) g
  show sE g_tt _ _ _ 8 [some (.ref 384), some (.int (iZ (h : Int))), some (.int (iZ (k : Int))), none] [.int (iZ ((rL W A).length : Int))] (ms σ2 (rA W A) F2)
  refine q_istore_n dX7_layWave_8 rfl (by decide) ?_
  show sE g_tt _ _ _ 9 [some (.ref 384), some (.int (iZ (h : Int))), some (.int (iZ (k : Int))), some (.int (iZ ((rL W A).length : Int)))] [] (ms σ2 (rA W A) F2)
  refine q_aload_n dX7_layWave_9 rfl rfl ?_
  refine sg7 (kf := 0) (v := .ref 385) dX7_layWave_10 flX7_7 (show kd 384 = 7 from rfl) (by decide) rfl ?_
  refine z_bipush dX7_layWave_13 (by decide +kernel) ?_
  refine q_iload_n dX7_layWave_15 rfl rfl ?_
  refine z_iadd dX7_layWave_16 ?_
  refine q_dup2 dX7_layWave_17 rfl rfl ?_
  refine s_iald (n := 1583) (x := (rA W A) (11 + h)) dX7_layWave_18 (show kd 385 = 100 + 1583 from rfl) (by omega) (by omega) (by decide) rfl ?_
  refine z_iconst dX7_layWave_19 ?_
  refine z_iadd dX7_layWave_20 ?_
  refine ma_st dX7_layWave_21 (by omega) (by omega) ?_
  refine q_iload_n dX7_layWave_22 rfl rfl ?_
  refine z_iconst dX7_layWave_23 ?_
  refine z_icmp_eq (tgt := 40) dX7_layWave_24 (by decide) (by unfold inR at *; omega) (by unfold inR at *; omega) (fun c_1 => ?_) (fun c_1 => ?_)
  · exfalso
    omega
  · refine q_aload_n dX7_layWave_27 rfl rfl ?_
    refine sg7 (kf := 0) (v := .ref 385) dX7_layWave_28 flX7_7 (show kd 384 = 7 from rfl) (by decide) rfl ?_
    refine z_bipush dX7_layWave_31 (by decide +kernel) ?_
    refine q_iload_n dX7_layWave_33 rfl rfl ?_
    refine z_iadd dX7_layWave_34 ?_
    refine q_dup2 dX7_layWave_35 rfl rfl ?_
    refine s_iald (n := 1583) (x := (va_up (rA W A) (11 + h) (((rA W A) (11 + h)) + 1)) (11 + k)) dX7_layWave_36 (show kd 385 = 100 + 1583 from rfl) (by omega) (by omega) (by decide) rfl ?_
    refine z_iconst dX7_layWave_37 ?_
    refine z_iadd dX7_layWave_38 ?_
    refine ma_st dX7_layWave_39 (by omega) (by omega) ?_
    refine q_aload_n dX7_layWave_40 rfl rfl ?_
    refine s_callV (ci := 7) (a := 384) (As := []) (S := []) dX7_layWave_41 okX7_settleNow mlX7_331 rfl (by omega) rfl (Nat.le_of_ble_eq_true rfl) (show kd 384 = 7 from rfl) (by decide) rfl (m_stlB (d := d - 1) (by omega) σ2 (inc (inc (rA W A) h) k) F2 (W := W) (nt := nt) (by rw [asd_T hA2]; exact hW) g3 hz2) (fun v_ σ_ hq => ?_)
    obtain ⟨rfl, σ3, F3, e9, hE3, hf3, hT3, hM3⟩ := hq
    subst e9
    have hA3 := asd_S hA2 hE3
    have hF3 := fS_tr hF2 hf3
    have hz3 : F3 23 = 0 := (fS_23 hf3).trans hz2
    have hl3 := rL_len hW (A := (inc (inc (rA W A) h) k)) g3
    show sE g_tt _ _ _ 44 [some (.ref 384), some (.int (iZ (h : Int))), some (.int (iZ (k : Int))), some (.int (iZ ((rL W A).length : Int)))] [.int (iZ ((rL W (inc (inc (rA W A) h) k)).length : Int))] (ms σ3 (rA W (inc (inc (rA W A) h) k)) F3)
    refine q_istore_n dX7_layWave_44 rfl (by decide) ?_
    show sE g_tt _ _ _ 45 [some (.ref 384), some (.int (iZ (h : Int))), some (.int (iZ (k : Int))), some (.int (iZ ((rL W (inc (inc (rA W A) h) k)).length : Int)))] [] (ms σ3 (rA W (inc (inc (rA W A) h) k)) F3)
    refine q_aload_n dX7_layWave_45 rfl rfl ?_
    refine q_iload_n dX7_layWave_46 rfl rfl ?_
    refine mp (kf := 29) dX7_layWave_47 flX7_391 (by decide) ?_
    refine q_aload_n dX7_layWave_50 rfl rfl ?_
    refine q_aload_n dX7_layWave_51 rfl rfl ?_
    refine sg7 (kf := 26) (v := .int (iZ (F3 26))) dX7_layWave_52 flX7_304 (show kd 384 = 7 from rfl) (by decide) rfl ?_
    refine mp (kf := 30) dX7_layWave_55 flX7_394 (by decide) ?_
    refine q_aload_n dX7_layWave_58 rfl rfl ?_
    refine q_aload_n dX7_layWave_59 rfl rfl ?_
    refine sg7 (kf := 25) (v := .int (iZ (F3 25))) dX7_layWave_60 flX7_307 (show kd 384 = 7 from rfl) (by decide) rfl ?_
    refine mp (kf := 31) dX7_layWave_63 flX7_397 (by decide) ?_
    refine q_aload_n dX7_layWave_66 rfl rfl ?_
    refine s_callV (ci := 7) (a := 384) (As := []) (S := []) dX7_layWave_67 okX7_putBack mlX7_388 rfl (by omega) rfl (Nat.le_of_ble_eq_true rfl) (show kd 384 = 7 from rfl) (by decide) rfl (m_putB (d := d - 1) (σ := σ) (A := A) σ3 (rA W (inc (inc (rA W A) h) k)) (va_up (va_up (va_up F3 29 ((rL W (inc (inc (rA W A) h) k)).length : Int)) 30 (F3 26)) 31 (F3 25)) hA3 (agr_tr (agr_tr (agr_rA hW g) (agr_tr (agr_inc _ hh) (agr_inc _ hk))) (agr_rA hW g3))) (fun v_ σ_ hq => ?_)
    obtain ⟨rfl, e9⟩ := hq
    have e9 := e9.symm
    subst e9
    show sE g_tt _ _ _ 70 [some (.ref 384), some (.int (iZ (h : Int))), some (.int (iZ (k : Int))), some (.int (iZ ((rL W (inc (inc (rA W A) h) k)).length : Int)))] [] (ms σ3 A (va_up (va_up (va_up (va_up F3 29 ((rL W (inc (inc (rA W A) h) k)).length : Int)) 30 (F3 26)) 31 (F3 25)) 23 1))
    exact s_vret dX7_layWave_70 rfl ⟨rfl, σ3, _, rfl, hA3.1, fS_fin h23 (fS_up (fS_up (fS_up hF3 (by omega) _) (by omega) _) (by omega) _), rfl, hT3, hM3⟩
/-- how often it is thanked in a wave of house h, who is, how many move -/
noncomputable def wvN (W : wF) (A : Nat → Int) (h : Nat) : Int := ((rL W (inc (rA W A) h)).length : Int)
noncomputable def wvT (W : wF) (A : Nat → Int) (h : Nat) : Int := rT W (inc (rA W A) h)
noncomputable def wvM (W : wF) (A : Nat → Int) (h : Nat) : Int := rM W (inc (rA W A) h)
theorem wv_ran {T : Nat → Int} {W : wF} {nt : Int} (hW : wOK T 100000 nt W) {A : Nat → Int} (g : gd 100000 nt A) {h : Nat} (hh : h < 8) : (0 ≤ wvN W A h ∧ wvN W A h ≤ 1000000) ∧ (0 ≤ wvM W A h ∧ wvM W A h ≤ 5000000) := by
  have g3 : gd 100000 nt (inc (rA W A) h) := gd_mono (gd_inc (gd_rA hW g) hh) (by decide)
  have a := rL_len hW g3
  have b := rM_ran hW g3
  unfold wvN wvM
  exact ⟨⟨by omega, by omega⟩, b⟩
set_option maxHeartbeats 4000000 in
set_option maxRecDepth 100000 in
theorem m_wave {d j : Nat} (hd : 9 ≤ d) (hj : j < 8) (σ : gS) (A F : Nat → Int) (h23 : F 23 = 1) (h26 : 0 ≤ F 26) {W : wF} {nt : Int} (hW : wOK (σ.2.1 387) 100000 nt W) (g : gd 100000 nt A) : sC mX7_wave d [.ref 384, .int (iZ (j : Int))] (ms σ A F) (fun r σ' => r = some (.int (iZ (wvN W A j))) ∧ ∃ σ2 F2, σ' = ms σ2 A F2 ∧ eqX σ σ2 ∧ fS F F2) := by
  refine sC_of rfl (Nat.le_of_ble_eq_true rfl) ?_
  show sE g_tt _ _ _ 0 [some (.ref 384), some (.int (iZ (j : Int)))] [] (ms σ A F)
  refine q_iload_n dX7_wave_0 rfl rfl ?_
  refine s_callS (As := [.int (iZ (j : Int))]) (S := []) dX7_wave_1 okX7_isHouse mlX7_70 rfl (by omega) rfl (Nat.le_of_ble_eq_true rfl) (m_isHouse (d := d - 1) (by omega) (h := (j : Int)) (by unfold inR at *; omega) (ms σ A F)) (fun v_ σ_ hq => ?_)
  obtain ⟨rfl, e9⟩ := hq
  have e9 := e9.symm
  subst e9
  show sE g_tt _ _ _ 4 [some (.ref 384), some (.int (iZ (j : Int)))] [.int (iZ (if 0 ≤ (j : Int) ∧ (j : Int) < 8 then 1 else 0))] (ms σ A F)
  refine z_if_ne (tgt := 9) dX7_wave_4 (by decide) inR_01 (fun c_1 => ?_) (fun c_1 => ?_)
  · have c_1 := if01_1 c_1
    refine q_aload_n dX7_wave_9 rfl rfl ?_
    refine q_iload_n dX7_wave_10 rfl rfl ?_
    refine z_iconst dX7_wave_11 ?_
    refine s_callV (ci := 7) (a := 384) (As := [.int (iZ (j : Int)), .int (iZ (-1))]) (S := []) dX7_wave_12 okX7_layWave mlX7_400 rfl (by omega) rfl (Nat.le_of_ble_eq_true rfl) (show kd 384 = 7 from rfl) (by decide) rfl (m_layWave (d := d - 1) (h := j) (by omega) hj σ A F h23 h26 hW g) (fun v_ σ_ hq => ?_)
    obtain ⟨rfl, σ8, F8, e9, hE8, hF8, hN8, hT8, hM8⟩ := hq
    subst e9
    show sE g_tt _ _ _ 15 [some (.ref 384), some (.int (iZ (j : Int)))] [] (ms σ8 A F8)
    refine q_aload_n dX7_wave_15 rfl rfl ?_
    refine sg7 (kf := 29) (v := .int (iZ (F8 29))) dX7_wave_16 flX7_391 (show kd 384 = 7 from rfl) (by decide) rfl ?_
    exact s_iretZ dX7_wave_19 rfl ⟨by rw [hN8]; rfl, σ8, F8, rfl, hE8, hF8⟩
  · have c_1 := if01_0 c_1
    exfalso
    omega
set_option maxHeartbeats 4000000 in
set_option maxRecDepth 100000 in
theorem m_wave0 {d : Nat} (hd : 2 ≤ d) {h : Int} (hh : inR h) (hno : ¬ (0 ≤ h ∧ h < 8)) (σ : gS) (A F : Nat → Int) : sC mX7_wave d [.ref 384, .int (iZ h)] (ms σ A F) (fun r σ' => r = some (.int (iZ (-1))) ∧ σ' = ms σ A F) := by
  refine sC_of rfl (Nat.le_of_ble_eq_true rfl) ?_
  show sE g_tt _ _ _ 0 [some (.ref 384), some (.int (iZ h))] [] (ms σ A F)
  refine q_iload_n dX7_wave_0 rfl rfl ?_
  refine s_callS (As := [.int (iZ h)]) (S := []) dX7_wave_1 okX7_isHouse mlX7_70 rfl (by omega) rfl (Nat.le_of_ble_eq_true rfl) (m_isHouse (d := d - 1) (by omega) (h := h) (by unfold inR at *; omega) (ms σ A F)) (fun v_ σ_ hq => ?_)
  obtain ⟨rfl, e9⟩ := hq
  have e9 := e9.symm
  subst e9
  show sE g_tt _ _ _ 4 [some (.ref 384), some (.int (iZ h))] [.int (iZ (if 0 ≤ h ∧ h < 8 then 1 else 0))] (ms σ A F)
  refine z_if_ne (tgt := 9) dX7_wave_4 (by decide) inR_01 (fun c_1 => ?_) (fun c_1 => ?_)
  · have c_1 := if01_1 c_1
    exfalso
    omega
  · have c_1 := if01_0 c_1
    refine z_iconst dX7_wave_7 ?_
    exact s_iretZ dX7_wave_8 rfl ⟨rfl, rfl⟩
set_option maxHeartbeats 4000000 in
set_option maxRecDepth 100000 in
theorem m_reached {d j : Nat} (hd : 9 ≤ d) (hj : j < 8) (σ : gS) (A F : Nat → Int) (h23 : F 23 = 1) (h26 : 0 ≤ F 26) {W : wF} {nt : Int} (hW : wOK (σ.2.1 387) 100000 nt W) (g : gd 100000 nt A) : sC mX7_reached d [.ref 384, .int (iZ (j : Int))] (ms σ A F) (fun r σ' => r = some (.int (iZ (wvT W A j))) ∧ ∃ σ2 F2, σ' = ms σ2 A F2 ∧ eqX σ σ2 ∧ fS F F2) := by
  refine sC_of rfl (Nat.le_of_ble_eq_true rfl) ?_
  show sE g_tt _ _ _ 0 [some (.ref 384), some (.int (iZ (j : Int)))] [] (ms σ A F)
  refine q_iload_n dX7_reached_0 rfl rfl ?_
  refine s_callS (As := [.int (iZ (j : Int))]) (S := []) dX7_reached_1 okX7_isHouse mlX7_70 rfl (by omega) rfl (Nat.le_of_ble_eq_true rfl) (m_isHouse (d := d - 1) (by omega) (h := (j : Int)) (by unfold inR at *; omega) (ms σ A F)) (fun v_ σ_ hq => ?_)
  obtain ⟨rfl, e9⟩ := hq
  have e9 := e9.symm
  subst e9
  show sE g_tt _ _ _ 4 [some (.ref 384), some (.int (iZ (j : Int)))] [.int (iZ (if 0 ≤ (j : Int) ∧ (j : Int) < 8 then 1 else 0))] (ms σ A F)
  refine z_if_ne (tgt := 9) dX7_reached_4 (by decide) inR_01 (fun c_1 => ?_) (fun c_1 => ?_)
  · have c_1 := if01_1 c_1
    refine q_aload_n dX7_reached_9 rfl rfl ?_
    refine q_iload_n dX7_reached_10 rfl rfl ?_
    refine z_iconst dX7_reached_11 ?_
    refine s_callV (ci := 7) (a := 384) (As := [.int (iZ (j : Int)), .int (iZ (-1))]) (S := []) dX7_reached_12 okX7_layWave mlX7_400 rfl (by omega) rfl (Nat.le_of_ble_eq_true rfl) (show kd 384 = 7 from rfl) (by decide) rfl (m_layWave (d := d - 1) (h := j) (by omega) hj σ A F h23 h26 hW g) (fun v_ σ_ hq => ?_)
    obtain ⟨rfl, σ8, F8, e9, hE8, hF8, hN8, hT8, hM8⟩ := hq
    subst e9
    show sE g_tt _ _ _ 15 [some (.ref 384), some (.int (iZ (j : Int)))] [] (ms σ8 A F8)
    refine q_aload_n dX7_reached_15 rfl rfl ?_
    refine sg7 (kf := 30) (v := .int (iZ (F8 30))) dX7_reached_16 flX7_394 (show kd 384 = 7 from rfl) (by decide) rfl ?_
    exact s_iretZ dX7_reached_19 rfl ⟨by rw [hT8]; rfl, σ8, F8, rfl, hE8, hF8⟩
  · have c_1 := if01_0 c_1
    exfalso
    omega
set_option maxHeartbeats 4000000 in
set_option maxRecDepth 100000 in
theorem m_reached0 {d : Nat} (hd : 2 ≤ d) {h : Int} (hh : inR h) (hno : ¬ (0 ≤ h ∧ h < 8)) (σ : gS) (A F : Nat → Int) : sC mX7_reached d [.ref 384, .int (iZ h)] (ms σ A F) (fun r σ' => r = some (.int (iZ (-1))) ∧ σ' = ms σ A F) := by
  refine sC_of rfl (Nat.le_of_ble_eq_true rfl) ?_
  show sE g_tt _ _ _ 0 [some (.ref 384), some (.int (iZ h))] [] (ms σ A F)
  refine q_iload_n dX7_reached_0 rfl rfl ?_
  refine s_callS (As := [.int (iZ h)]) (S := []) dX7_reached_1 okX7_isHouse mlX7_70 rfl (by omega) rfl (Nat.le_of_ble_eq_true rfl) (m_isHouse (d := d - 1) (by omega) (h := h) (by unfold inR at *; omega) (ms σ A F)) (fun v_ σ_ hq => ?_)
  obtain ⟨rfl, e9⟩ := hq
  have e9 := e9.symm
  subst e9
  show sE g_tt _ _ _ 4 [some (.ref 384), some (.int (iZ h))] [.int (iZ (if 0 ≤ h ∧ h < 8 then 1 else 0))] (ms σ A F)
  refine z_if_ne (tgt := 9) dX7_reached_4 (by decide) inR_01 (fun c_1 => ?_) (fun c_1 => ?_)
  · have c_1 := if01_1 c_1
    exfalso
    omega
  · have c_1 := if01_0 c_1
    refine z_iconst dX7_reached_7 ?_
    exact s_iretZ dX7_reached_8 rfl ⟨rfl, rfl⟩
set_option maxHeartbeats 4000000 in
set_option maxRecDepth 100000 in
theorem m_waves {d i j : Nat} (hd : 9 ≤ d) (hi : i < 8) (hj : j < 8) (hij : i ≠ j) (σ : gS) (A F : Nat → Int) (h23 : F 23 = 1) (h26 : 0 ≤ F 26) {W : wF} {nt : Int} (hW : wOK (σ.2.1 387) 100000 nt W) (g : gd 100000 nt A) : sC mX7_waves d [.ref 384, .int (iZ (i : Int)), .int (iZ (j : Int))] (ms σ A F) (fun r σ' => r = some (.int (iZ (((rL W (inc (inc (rA W A) i) j)).length : Int)))) ∧ ∃ σ2 F2, σ' = ms σ2 A F2 ∧ eqX σ σ2 ∧ fS F F2) := by
  refine sC_of rfl (Nat.le_of_ble_eq_true rfl) ?_
  show sE g_tt _ _ _ 0 [some (.ref 384), some (.int (iZ (i : Int))), some (.int (iZ (j : Int)))] [] (ms σ A F)
  refine q_iload_n dX7_waves_0 rfl rfl ?_
  refine s_callS (As := [.int (iZ (i : Int))]) (S := []) dX7_waves_1 okX7_isHouse mlX7_70 rfl (by omega) rfl (Nat.le_of_ble_eq_true rfl) (m_isHouse (d := d - 1) (by omega) (h := (i : Int)) (by unfold inR at *; omega) (ms σ A F)) (fun v_ σ_ hq => ?_)
  obtain ⟨rfl, e9⟩ := hq
  have e9 := e9.symm
  subst e9
  show sE g_tt _ _ _ 4 [some (.ref 384), some (.int (iZ (i : Int))), some (.int (iZ (j : Int)))] [.int (iZ (if 0 ≤ (i : Int) ∧ (i : Int) < 8 then 1 else 0))] (ms σ A F)
  refine z_if_eq (tgt := 19) dX7_waves_4 (by decide) inR_01 (fun c_1 => ?_) (fun c_1 => ?_)
  · have c_1 := if01_0 c_1
    exfalso
    omega
  · have c_1 := if01_1 c_1
    refine q_iload_n dX7_waves_7 rfl rfl ?_
    refine s_callS (As := [.int (iZ (j : Int))]) (S := []) dX7_waves_8 okX7_isHouse mlX7_70 rfl (by omega) rfl (Nat.le_of_ble_eq_true rfl) (m_isHouse (d := d - 1) (by omega) (h := (j : Int)) (by unfold inR at *; omega) (ms σ A F)) (fun v_ σ_ hq => ?_)
    obtain ⟨rfl, e9⟩ := hq
    have e9 := e9.symm
    subst e9
    show sE g_tt _ _ _ 11 [some (.ref 384), some (.int (iZ (i : Int))), some (.int (iZ (j : Int)))] [.int (iZ (if 0 ≤ (j : Int) ∧ (j : Int) < 8 then 1 else 0))] (ms σ A F)
    refine z_if_eq (tgt := 19) dX7_waves_11 (by decide) inR_01 (fun c_2 => ?_) (fun c_2 => ?_)
    · have c_2 := if01_0 c_2
      exfalso
      omega
    · have c_2 := if01_1 c_2
      refine q_iload_n dX7_waves_14 rfl rfl ?_
      refine q_iload_n dX7_waves_15 rfl rfl ?_
      refine z_icmp_ne (tgt := 21) dX7_waves_16 (by decide) (by unfold inR at *; omega) (by unfold inR at *; omega) (fun c_3 => ?_) (fun c_3 => ?_)
      · refine q_aload_n dX7_waves_21 rfl rfl ?_
        refine q_iload_n dX7_waves_22 rfl rfl ?_
        refine q_iload_n dX7_waves_23 rfl rfl ?_
        refine s_callV (ci := 7) (a := 384) (As := [.int (iZ (i : Int)), .int (iZ (j : Int))]) (S := []) dX7_waves_24 okX7_layWave mlX7_400 rfl (by omega) rfl (Nat.le_of_ble_eq_true rfl) (show kd 384 = 7 from rfl) (by decide) rfl (m_layWave2 (d := d - 1) (h := i) (k := j) (by omega) hi hj σ A F h23 h26 hW g) (fun v_ σ_ hq => ?_)
        obtain ⟨rfl, σ8, F8, e9, hE8, hF8, hN8, hT8, hM8⟩ := hq
        subst e9
        show sE g_tt _ _ _ 27 [some (.ref 384), some (.int (iZ (i : Int))), some (.int (iZ (j : Int)))] [] (ms σ8 A F8)
        refine q_aload_n dX7_waves_27 rfl rfl ?_
        refine sg7 (kf := 29) (v := .int (iZ (F8 29))) dX7_waves_28 flX7_391 (show kd 384 = 7 from rfl) (by decide) rfl ?_
        exact s_iretZ dX7_waves_31 rfl ⟨by rw [hN8], σ8, F8, rfl, hE8, hF8⟩
      · exfalso
        omega
set_option maxHeartbeats 4000000 in
set_option maxRecDepth 100000 in
theorem m_waves0 {d : Nat} (hd : 2 ≤ d) {h k : Int} (hh : inR h) (hk : inR k) (hno : ¬ ((0 ≤ h ∧ h < 8) ∧ (0 ≤ k ∧ k < 8) ∧ h ≠ k)) (σ : gS) (A F : Nat → Int) : sC mX7_waves d [.ref 384, .int (iZ h), .int (iZ k)] (ms σ A F) (fun r σ' => r = some (.int (iZ (-1))) ∧ σ' = ms σ A F) := by
  refine sC_of rfl (Nat.le_of_ble_eq_true rfl) ?_
  show sE g_tt _ _ _ 0 [some (.ref 384), some (.int (iZ h)), some (.int (iZ k))] [] (ms σ A F)
  refine q_iload_n dX7_waves_0 rfl rfl ?_
  refine s_callS (As := [.int (iZ h)]) (S := []) dX7_waves_1 okX7_isHouse mlX7_70 rfl (by omega) rfl (Nat.le_of_ble_eq_true rfl) (m_isHouse (d := d - 1) (by omega) (h := h) (by unfold inR at *; omega) (ms σ A F)) (fun v_ σ_ hq => ?_)
  obtain ⟨rfl, e9⟩ := hq
  have e9 := e9.symm
  subst e9
  show sE g_tt _ _ _ 4 [some (.ref 384), some (.int (iZ h)), some (.int (iZ k))] [.int (iZ (if 0 ≤ h ∧ h < 8 then 1 else 0))] (ms σ A F)
  refine z_if_eq (tgt := 19) dX7_waves_4 (by decide) inR_01 (fun c_1 => ?_) (fun c_1 => ?_)
  · have c_1 := if01_0 c_1
    refine z_iconst dX7_waves_19 ?_
    exact s_iretZ dX7_waves_20 rfl ⟨rfl, rfl⟩
  · have c_1 := if01_1 c_1
    refine q_iload_n dX7_waves_7 rfl rfl ?_
    refine s_callS (As := [.int (iZ k)]) (S := []) dX7_waves_8 okX7_isHouse mlX7_70 rfl (by omega) rfl (Nat.le_of_ble_eq_true rfl) (m_isHouse (d := d - 1) (by omega) (h := k) (by unfold inR at *; omega) (ms σ A F)) (fun v_ σ_ hq => ?_)
    obtain ⟨rfl, e9⟩ := hq
    have e9 := e9.symm
    subst e9
    show sE g_tt _ _ _ 11 [some (.ref 384), some (.int (iZ h)), some (.int (iZ k))] [.int (iZ (if 0 ≤ k ∧ k < 8 then 1 else 0))] (ms σ A F)
    refine z_if_eq (tgt := 19) dX7_waves_11 (by decide) inR_01 (fun c_2 => ?_) (fun c_2 => ?_)
    · have c_2 := if01_0 c_2
      refine z_iconst dX7_waves_19 ?_
      exact s_iretZ dX7_waves_20 rfl ⟨rfl, rfl⟩
    · have c_2 := if01_1 c_2
      refine q_iload_n dX7_waves_14 rfl rfl ?_
      refine q_iload_n dX7_waves_15 rfl rfl ?_
      refine z_icmp_ne (tgt := 21) dX7_waves_16 (by decide) (by unfold inR at *; omega) (by unfold inR at *; omega) (fun c_3 => ?_) (fun c_3 => ?_)
      · exfalso
        omega
      · refine z_iconst dX7_waves_19 ?_
        exact s_iretZ dX7_waves_20 rfl ⟨rfl, rfl⟩
