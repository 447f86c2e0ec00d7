/-! ===== reached, until, foretold, least of the class ===== -/
theorem sett_lo2 {W : wF} {n : Int} (hW : w0 W n) : ∀ (f : Nat) (A F : Nat → Int), gd 100000 4 A → -1 ≤ A 2 → A 2 < n → ∀ i, (i < 11 ∧ i ≠ 8 ∧ i ≠ 10) ∨ (24 ≤ i ∧ i < 1553) → (sett W f A F).2.1 i = A i := by
  intro f
  induction f with
  | zero => intro A F g _ _ i hi; rfl
  | succ f ih =>
    intro A F g h1 h2 i hi
    simp only [sett]
    split
    · rfl
    · rename_i hr
      obtain ⟨j, hj, ej, hw⟩ := (rdI_spec (W := W) (A := A)).resolve_left hr
      rw [ej, Int.toNat_natCast]
      have w9 := (hW A g h1 h2 j hj).1
      have a0 := g.2.2.2.2.1
      have e2 : (mThank A F j).1 2 = A 2 := mThank_lo A F hj a0.1 a0.2 (by decide) (by decide) (by decide)
      rw [ih _ _ (gd_thank g F hj (by omega)) (by omega) (by omega) i hi]
      rcases hi with hi | hi
      · exact mThank_lo A F hj a0.1 a0.2 hi.1 hi.2.1 hi.2.2
      · exact mThank_mid A F hj a0.1 a0.2 g.1.2 hi.1 hi.2
def v0 (V : wF) (n : Int) : Prop := ∀ A, gd 100000 4 A → -1 ≤ A 2 → A 2 < n → ∀ h, h < 8 → 0 ≤ V (A 2) A h ∧ V (A 2) A h ≤ 9
theorem v0_of {σ : gS} {W V : wF} {A I : Nat → Int} (C : clR σ W V A I) : v0 V (A 1) := fun B g h1 h2 h hh => (C.2.2.1 (B 2) h1 h2).2.2.2.2 B h g hh
theorem pA_ok {W V : wF} {n : Int} (hW : w0 W n) (hV : v0 V n) {A : Nat → Int} (g : gd 90000 4 A) (h1 : -1 ≤ A 2) (h2 : A 2 < n) (h5 : A 5 < 9999) : gd 80 4 (pA W V A) ∧ pA W V A 2 = A 2 ∧ pA W V A 5 = A 5 + 1 ∧ pA W V A 0 = A 0 := by
  have gC := gd_mPC g
  have hj := mPH_lt g
  have e2 : mPC A 2 = A 2 := by unfold mPC; rw [va_up_ne _ _ (by decide), va_up_ne _ _ (by decide), va_up_ne _ _ (by decide)]
  have e5 : mPC A 5 = A 5 := by unfold mPC; rw [va_up_ne _ _ (by decide), va_up_ne _ _ (by decide), va_up_ne _ _ (by decide)]
  have e0 : mPC A 0 = A 0 := by unfold mPC; rw [va_up_ne _ _ (by decide), va_up_ne _ _ (by decide), va_up_ne _ _ (by decide)]
  have vv := hV (mPC A) (gd_mono gC (by decide)) (by omega) (by omega) _ hj
  have kr := kd_ran gC hj
  have oD : ∀ i, i < 11 → mPD V (mPC A) (mPH A) i = mPC A i := fun i hi => by
    unfold mPD; split
    · rw [va_up_ne _ _ (by omega)]
    · rfl
  have gD : gd 100000 4 (mPD V (mPC A) (mPH A)) := by
    unfold mPD
    split
    · exact gd_kind gC hj (by split <;> omega) (by split <;> omega)
    · exact gd_mono gC (by decide)
  have d2 : mPD V (mPC A) (mPH A) 2 = A 2 := by rw [oD 2 (by omega), e2]
  have rk := rA_ok hW gD (by omega) (by omega)
  have lo : ∀ i, i < 8 → rA W (mPD V (mPC A) (mPH A)) i = mPC A i := fun i hi => by
    rw [show rA W (mPD V (mPC A) (mPH A)) i = mPD V (mPC A) (mPH A) i from sett_lo2 hW _ _ _ gD (by omega) (by omega) i (by omega), oD i (by omega)]
  have eq : pA W V A = va_up (va_up (rA W (mPD V (mPC A) (mPH A))) 9 ((rL W (mPD V (mPC A) (mPH A))).length : Int)) 5 (rA W (mPD V (mPC A) (mPH A)) 5 + 1) := rfl
  have r5 := lo 5 (by omega)
  have b5 := g.2.2.2.2.2.1
  refine ⟨?_, ?_, ?_, ?_⟩
  · rw [eq]
    refine gd_up (gd_up rk.1 (Or.inr (Or.inr (Or.inl ⟨rfl, by omega, rk.2.2.2⟩)))) (Or.inr (Or.inr (Or.inr (Or.inl ⟨rfl, by omega, by omega⟩))))
  · rw [eq, va_up_ne _ _ (by decide), va_up_ne _ _ (by decide), lo 2 (by omega), e2]
  · rw [eq, va_up_self, r5, e5]
  · rw [eq, va_up_ne _ _ (by decide), va_up_ne _ _ (by decide), lo 0 (by omega), e0]
theorem mFo_stop {W V : wF} : ∀ (n : Nat) (A : Nat → Int), ¬ A 5 < 9999 → mFo W V n A = A := by
  intro n
  induction n with
  | zero => intro A _; rfl
  | succ n ih => intro A h; rw [mFo, if_neg h]; exact ih A h
set_option maxHeartbeats 4000000 in
set_option maxRecDepth 100000 in
theorem lx_reached {d j : Nat} (hj : j < 8) (σ σ1 : gS) {W V : wF} {A I : Nat → Int} {c nt : Int} (hc : c ≤ 88000) (hn4 : nt ≤ 4) (ok : okR c nt A) (oi : okR c (I 1) I) (C : clR σ W V A I) (s1 : chg scrQ σ σ1) (hn1 : ∀ i, i < 8 → σ1.2.1 (369 + 4) i = (((rL W (inc (rA W A) j)).count i : Nat) : Int)) (hln : ((rL W (inc (rA W A) j)).length : Int) ≤ 1000000) : ∀ (n : Nat) (k : Nat), k ≤ 8 → 8 - (k : Int) < (n : Int) → sE g_tt mX6_reached d (fun r σ' => r = some (.int (iZ (wvT W A j))) ∧ chg scrQ σ σ') 24 [some (.ref 0), some (.int (iZ (j : Int))), some (.ref 369), some (.int (iZ ((mBs (fun i => 0 < (rL W (inc (rA W A) j)).count i) k : Nat) : Int))), some (.int (iZ (k : Int)))] [] σ1 := by
  intro n
  induction n with
  | zero =>
    intro k hk hn
    exact absurd hn (by omega)
  | succ n ih =>
    intro k hk hn
    have C1 := clR_ch ok oi C s1
    refine q_iload dX6_reached_24 rfl ?_
    refine z_bipush dX6_reached_26 (by decide +kernel) ?_
    refine z_icmp_ge (tgt := 54) dX6_reached_28 (by decide) (by unfold inR at *; omega) (by unfold inR at *; omega) (fun c_1 => ?_) (fun c_1 => ?_)
    · refine q_iload_n dX6_reached_54 rfl rfl ?_
      exact s_iretZ dX6_reached_55 rfl ⟨by unfold wvT; rw [rT_set, show (8 : Nat) = k by omega], s1⟩
    · refine q_aload_n dX6_reached_31 rfl rfl ?_
      refine sg2 (kf := 10) (v := .ref 373) dX6_reached_32 flX6_229 (show kd 369 = 2 from rfl) (by decide) rfl ?_
      refine q_iload dX6_reached_35 rfl ?_
      refine s_iald (n := 8) (x := (((rL W (inc (rA W A) j)).count k : Nat) : Int)) dX6_reached_37 (show kd 373 = 100 + 8 from rfl) (by omega) (by omega) (by decide) (hn1 k (by omega)) ?_
      refine z_if_le (tgt := 48) dX6_reached_38 (by decide) (by have := List.count_le_length (a := k) (l := rL W (inc (rA W A) j)); unfold inR; omega) (fun c_2 => ?_) (fun c_2 => ?_)
      · refine z_iinc dX6_reached_48 rfl (by decide) ?_
        show sE g_tt _ _ _ 51 [some (.ref 0), some (.int (iZ (j : Int))), some (.ref 369), some (.int (iZ ((mBs (fun i => 0 < (rL W (inc (rA W A) j)).count i) k : Nat) : Int))), some (.int (iZ ((k : Int) + 1)))] [] σ1
        refine q_goto (tgt := 24) dX6_reached_51 (by decide) ?_
        have e : ((mBs (fun i => 0 < (rL W (inc (rA W A) j)).count i) (k + 1) : Nat) : Int) = ((mBs (fun i => 0 < (rL W (inc (rA W A) j)).count i) k : Nat) : Int) := by rw [mBs_n (by omega)]; simp
        have k9 := ih (k + 1) (by omega) (by omega)
        rw [e] at k9
        exact k9
      · refine q_iload_n dX6_reached_41 rfl rfl ?_
        refine z_iconst dX6_reached_42 ?_
        refine q_iload dX6_reached_43 rfl ?_
        refine z_ishl (x := 1) (k := k) dX6_reached_45 (by omega) ?_
        refine z_top (y := ((2 ^ k : Nat) : Int)) (by simp) ?_
        refine z_ior (m := mBs (fun i => 0 < (rL W (inc (rA W A) j)).count i) k) (k := 2 ^ k) dX6_reached_46 ?_
        refine q_istore_n dX6_reached_47 rfl (by decide) ?_
        show sE g_tt _ _ _ 48 [some (.ref 0), some (.int (iZ (j : Int))), some (.ref 369), some (.int (iZ (((mBs (fun i => 0 < (rL W (inc (rA W A) j)).count i) k) ||| (2 ^ k) : Nat) : Int))), some (.int (iZ (k : Int)))] [] σ1
        refine z_iinc dX6_reached_48 rfl (by decide) ?_
        show sE g_tt _ _ _ 51 [some (.ref 0), some (.int (iZ (j : Int))), some (.ref 369), some (.int (iZ (((mBs (fun i => 0 < (rL W (inc (rA W A) j)).count i) k) ||| (2 ^ k) : Nat) : Int))), some (.int (iZ ((k : Int) + 1)))] [] σ1
        refine q_goto (tgt := 24) dX6_reached_51 (by decide) ?_
        have e : ((mBs (fun i => 0 < (rL W (inc (rA W A) j)).count i) (k + 1) : Nat) : Int) = (((mBs (fun i => 0 < (rL W (inc (rA W A) j)).count i) k) ||| (2 ^ k) : Nat) : Int) := by rw [mBs_y (by omega)]
        have k9 := ih (k + 1) (by omega) (by omega)
        rw [e] at k9
        exact k9
set_option maxHeartbeats 4000000 in
set_option maxRecDepth 100000 in
theorem x_reached {d j : Nat} (hd : 7 ≤ d) (hj : j < 8) (σ : gS) {W V : wF} {A I : Nat → Int} {c nt : Int} (hc : c ≤ 88000) (hn4 : nt ≤ 4) (ok : okR c nt A) (oi : okR c (I 1) I) (C : clR σ W V A I) : sC mX6_reached d [.ref 0, .int (iZ (j : Int))] σ (fun r σ' => r = some (.int (iZ (wvT W A j))) ∧ chg scrQ σ σ') := by
  have g := ok_gd hc hn4 ok
  have g0 := g.1
  have n1 := ok.2.2.1
  have a2 := ok_2 ok
  have g10 := g.2.2.2.2.1
  have gL : gd 100000 4 A := gd_mono g (by decide)
  have rk := rA_ok (w0_of C) gL a2.1 a2.2
  refine sC_of rfl (Nat.le_of_ble_eq_true rfl) ?_
  show sE g_tt _ _ _ 0 [some (.ref 0), some (.int (iZ (j : Int))), none, none, none] [] σ
  refine q_iload_n dX6_reached_0 rfl rfl ?_
  refine s_callS (As := [.int (iZ (j : Int))]) (S := []) dX6_reached_1 okX6_isHouse mlX6_68 rfl (by omega) rfl (Nat.le_of_ble_eq_true rfl) (c_isHouse (d := d - 1) (z := (j : Int)) (by unfold inR at *; omega) σ) (fun v_ σ_ hq => ?_)
  obtain ⟨rfl, e9⟩ := hq
  have e9 := e9.symm
  subst e9
  show sE g_tt _ _ _ 4 [some (.ref 0), some (.int (iZ (j : Int))), none, none, none] [.int (iZ (if 0 ≤ (j : Int) ∧ (j : Int) < 8 then 1 else 0))] σ
  refine z_if_ne (tgt := 9) dX6_reached_4 (by decide) inR_01 (fun c_1 => ?_) (fun c_1 => ?_)
  · have c_1 := if01_1 c_1
    refine q_aload_n dX6_reached_9 rfl rfl ?_
    refine q_aload_n dX6_reached_10 rfl rfl ?_
    refine s_callV (ci := 6) (a := 0) (As := []) (S := [.ref 0]) dX6_reached_11 okX6_atRest mlX6_225 rfl (by omega) rfl (Nat.le_of_ble_eq_true rfl) (show kd 0 = 6 from rfl) (by decide) rfl (x_atRest (d := d - 1) (by omega) σ hc hn4 ok oi C) (fun v_ σ_ hq => ?_)
    obtain ⟨rfl, hc1, ht1, hm1, hn1⟩ := hq
    rename gS => σ1
    have C1 := clR_ch ok oi C hc1
    show sE g_tt _ _ _ 14 [some (.ref 0), some (.int (iZ (j : Int))), none, none, none] [.ref 364, .ref 0] σ1
    refine q_iload_n dX6_reached_14 rfl rfl ?_
    refine s_callV (ci := 6) (a := 0) (As := [.ref 364, .int (iZ (j : Int))]) (S := []) dX6_reached_15 okX6_waveOver mlX6_232 rfl (by omega) rfl (Nat.le_of_ble_eq_true rfl) (show kd 0 = 6 from rfl) (by decide) rfl (x_waveOver (d := d - 1) (h := j) (by omega) hj σ1 hc hn4 ok oi C1 (rA W A) (gd_mono rk.1 (by decide)) rk.2.1 ht1) (fun v_ σ_ hq => ?_)
    obtain ⟨rfl, hc2, ht2, hm2, hn2⟩ := hq
    rename gS => σ2
    have s2 : chg scrQ σ1 σ2 := chg_mono hc2 (fun a q => atS_scr (by omega) q)
    have C2 := clR_ch ok oi C1 s2
    show sE g_tt _ _ _ 18 [some (.ref 0), some (.int (iZ (j : Int))), none, none, none] [.ref 369] σ2
    refine q_astore_n dX6_reached_18 rfl (by decide) ?_
    show sE g_tt _ _ _ 19 [some (.ref 0), some (.int (iZ (j : Int))), some (.ref 369), none, none] [] σ2
    refine z_iconst dX6_reached_19 ?_
    refine q_istore_n dX6_reached_20 rfl (by decide) ?_
    show sE g_tt _ _ _ 21 [some (.ref 0), some (.int (iZ (j : Int))), some (.ref 369), some (.int (iZ 0)), none] [] σ2
    refine z_iconst dX6_reached_21 ?_
    refine q_istore dX6_reached_22 (by decide) ?_
    show sE g_tt _ _ _ 24 [some (.ref 0), some (.int (iZ (j : Int))), some (.ref 369), some (.int (iZ 0)), some (.int (iZ 0))] [] σ2
    exact lx_reached hj σ σ2 hc hn4 ok oi C (chg_tr hc1 s2) hn2 (wv_ok (w0_of C) gL a2.1 a2.2 hj).1.2 9 0 (by omega) (by omega)
  · have c_1 := if01_0 c_1
    exfalso
    omega
set_option maxHeartbeats 4000000 in
set_option maxRecDepth 100000 in
theorem x_reached0 {d : Nat} (hd : 1 ≤ d) {h : Int} (hh : inR h) (hno : ¬ (0 ≤ h ∧ h < 8)) (σ : gS) : sC mX6_reached d [.ref 0, .int (iZ h)] σ (fun r σ' => r = some (.int (iZ (-1))) ∧ σ' = σ) := by
  refine sC_of rfl (Nat.le_of_ble_eq_true rfl) ?_
  show sE g_tt _ _ _ 0 [some (.ref 0), some (.int (iZ h)), none, none, none] [] σ
  refine q_iload_n dX6_reached_0 rfl rfl ?_
  refine s_callS (As := [.int (iZ h)]) (S := []) dX6_reached_1 okX6_isHouse mlX6_68 rfl (by omega) rfl (Nat.le_of_ble_eq_true rfl) (c_isHouse (d := d - 1) (z := h) (by unfold inR at *; omega) σ) (fun v_ σ_ hq => ?_)
  obtain ⟨rfl, e9⟩ := hq
  have e9 := e9.symm
  subst e9
  show sE g_tt _ _ _ 4 [some (.ref 0), some (.int (iZ h)), none, none, none] [.int (iZ (if 0 ≤ h ∧ h < 8 then 1 else 0))] σ
  refine z_if_ne (tgt := 9) dX6_reached_4 (by decide) inR_01 (fun c_1 => ?_) (fun c_1 => ?_)
  · have c_1 := if01_1 c_1
    exfalso
    omega
  · have c_1 := if01_0 c_1
    refine z_iconst dX6_reached_7 ?_
    exact s_iretZ dX6_reached_8 rfl ⟨rfl, rfl⟩
set_option maxHeartbeats 4000000 in
set_option maxRecDepth 100000 in
theorem lx_until {d h k : Nat} (hd : 7 ≤ d) (hh : h < 8) (hk : k < 8) (σ : gS) {W V : wF} {A I : Nat → Int} {c nt : Int} (hc : c ≤ 88000) (hn4 : nt ≤ 4) (ok : okR c nt A) (oi : okR c (I 1) I) (C : clR σ W V A I) : ∀ (f : Nat) (B : Nat → Int) (n : Nat) (σ1 : gS), gd 80 4 B → B 2 = A 2 → trS 0 σ1 364 B → chg scrQ σ σ1 → n ≤ 101 → 101 - (n : Int) < (f : Int) → sE g_tt mX6_until d (fun r σ' => r = some (.int (iZ (mUn W h k (101 - n) n B))) ∧ chg scrQ σ σ') 24 [some (.ref 0), some (.int (iZ (h : Int))), some (.int (iZ (k : Int))), some (.ref 364), some (.int (iZ (n : Int)))] [] σ1 := by
  intro f
  induction f with
  | zero =>
    intro B n σ1 gB hB2 tB s1 hn1 hn
    exact absurd hn (by omega)
  | succ f ih =>
    intro B n σ1 gB hB2 tB s1 hn1 hn
    have g := ok_gd hc hn4 ok
    have g0 := g.1
    have n1 := ok.2.2.1
    have a2 := ok_2 ok
    have g10 := g.2.2.2.2.1
    have gL : gd 100000 4 A := gd_mono g (by decide)
    have rk := rA_ok (w0_of C) gL a2.1 a2.2
    have C1 := clR_ch ok oi C s1
    have kB := kd_ran gB hh
    have su : chg scrQ σ1 (sR σ1 365 h (B (11 + h) + 1)) := chg_mono (chg_sR σ1 365 h _) (fun a q => scr1 (by omega) q)
    have CU := clR_ch ok oi C1 su
    have tU : trS 0 (sR σ1 365 h (B (11 + h) + 1)) 364 (inc B h) := trS_kind tB hh _
    have io := inc_ok (w0_of C) gB (by omega) (by rw [hB2]; exact a2.2) hh
    have ro := rA_ok (w0_of C) io.1 io.2.1 io.2.2
    have hI2 : inc B h 2 = A 2 := by rw [inc_2, hB2]
    have tb := rT_bit (W := W) (A := inc B h) k
    refine q_iload dX6_until_24 rfl ?_
    refine z_bipush dX6_until_26 (by decide +kernel) ?_
    refine z_icmp_gt (tgt := 68) dX6_until_28 (by decide) (by unfold inR at *; omega) (by unfold inR at *; omega) (fun c_1 => ?_) (fun c_1 => ?_)
    · refine z_iconst dX6_until_68 ?_
      exact s_iretZ dX6_until_69 rfl ⟨by rw [show 101 - n = 0 by omega, mUn], s1⟩
    · refine q_aload_n dX6_until_31 rfl rfl ?_
      refine sg2 (kf := 0) (v := .ref 365) dX6_until_32 flX6_122 (show kd 364 = 2 from rfl) (by decide) rfl ?_
      refine q_iload_n dX6_until_35 rfl rfl ?_
      refine q_dup2 dX6_until_36 rfl rfl ?_
      refine s_iald (n := 8) (x := B (11 + h)) dX6_until_37 (show kd 365 = 100 + 8 from rfl) (by omega) (by omega) (by decide) (tB.1 h hh) ?_
      refine z_iconst dX6_until_38 ?_
      refine z_iadd dX6_until_39 ?_
      refine s_iast (n := 8) dX6_until_40 (show kd 365 = 100 + 8 from rfl) (by omega) (by omega) (by decide) ?_
      refine q_aload_n dX6_until_41 rfl rfl ?_
      refine q_aload_n dX6_until_42 rfl rfl ?_
      refine s_callV (ci := 6) (a := 0) (As := []) (S := [.ref 364]) dX6_until_43 okX6_rule mlX6_125 rfl (by omega) rfl (Nat.le_of_ble_eq_true rfl) (show kd 0 = 6 from rfl) (by decide) rfl (x_rule (d := d - 1) (by omega) (sR σ1 365 h (B (11 + h) + 1)) hc hn4 ok oi CU) (fun v_ σ_ hq => ?_)
      obtain ⟨rfl, e9⟩ := hq
      have e9 := e9.symm
      subst e9
      show sE g_tt _ _ _ 46 [some (.ref 0), some (.int (iZ (h : Int))), some (.int (iZ (k : Int))), some (.ref 364), some (.int (iZ (n : Int)))] [.ref (txp (A 2)), .ref 364] (sR σ1 365 h ((B (11 + h)) + 1))
      refine s_callV (ci := 2) (a := 364) (As := [.ref (txp (A 2))]) (S := []) dX6_until_46 okX2_settleBy mlX6_140 rfl (by omega) rfl (Nat.le_of_ble_eq_true rfl) (show kd 364 = 2 from rfl) (by decide) rfl (t_settle (d := d - 1) (s := 364) (by omega) rfl (sR σ1 365 h (B (11 + h) + 1)) (CU.2.2.1 (A 2) a2.1 a2.2) (inc B h) zF io.1 hI2 tU) (fun v_ σ_ hq => ?_)
      obtain ⟨rfl, hc2, ht2, hm2, hn2⟩ := hq
      rename gS => σ2
      show sE g_tt _ _ _ 49 [some (.ref 0), some (.int (iZ (h : Int))), some (.int (iZ (k : Int))), some (.ref 364), some (.int (iZ (n : Int)))] [.int (iZ ((mS W (inc B h) zF).1.length : Int))] σ2
      refine q_pop dX6_until_49 rfl ?_
      refine q_aload_n dX6_until_50 rfl rfl ?_
      refine sg2 (kf := 10) (v := .ref 368) dX6_until_51 flX6_229 (show kd 364 = 2 from rfl) (by decide) rfl ?_
      refine q_iload_n dX6_until_54 rfl rfl ?_
      refine s_iald (n := 8) (x := (((rL W (inc B h)).count k : Nat) : Int)) dX6_until_55 (show kd 368 = 100 + 8 from rfl) (by omega) (by omega) (by decide) (hn2 k hk) ?_
      refine z_if_le (tgt := 62) dX6_until_56 (by decide) (by have := List.count_le_length (a := k) (l := rL W (inc B h)); have := ro.2.2.2; unfold inR; omega) (fun c_2 => ?_) (fun c_2 => ?_)
      · refine z_iinc dX6_until_62 rfl (by decide) ?_
        show sE g_tt _ _ _ 65 [some (.ref 0), some (.int (iZ (h : Int))), some (.int (iZ (k : Int))), some (.ref 364), some (.int (iZ ((n : Int) + 1)))] [] σ2
        refine q_goto (tgt := 24) dX6_until_65 (by decide) ?_
        rw [show 101 - n = (101 - (n + 1)) + 1 by omega, mUn, if_neg (by rw [tb, decide_eq_true_eq]; omega)]
        exact ih _ (n + 1) σ2 ro.1 (by rw [ro.2.1, hI2]) ht2 (chg_tr s1 (chg_tr su (chg_mono hc2 (fun a q => atS_scr (by omega) q)))) (by omega) (by omega)
      · refine q_iload dX6_until_59 rfl ?_
        exact s_iretZ dX6_until_61 rfl ⟨by rw [show 101 - n = (101 - (n + 1)) + 1 by omega, mUn, if_pos (by rw [tb, decide_eq_true_eq]; omega)], chg_tr s1 (chg_tr su (chg_mono hc2 (fun a q => atS_scr (by omega) q)))⟩
set_option maxHeartbeats 4000000 in
set_option maxRecDepth 100000 in
theorem x_until {d h k : Nat} (hd : 7 ≤ d) (hh : h < 8) (hk : k < 8) (σ : gS) {W V : wF} {A I : Nat → Int} {c nt : Int} (hc : c ≤ 88000) (hn4 : nt ≤ 4) (ok : okR c nt A) (oi : okR c (I 1) I) (C : clR σ W V A I) : sC mX6_until d [.ref 0, .int (iZ (h : Int)), .int (iZ (k : Int))] σ (fun r σ' => r = some (.int (iZ (mUn W h k 100 1 (rA W A)))) ∧ chg scrQ σ σ') := by
  have g := ok_gd hc hn4 ok
  have g0 := g.1
  have n1 := ok.2.2.1
  have a2 := ok_2 ok
  have g10 := g.2.2.2.2.1
  have gL : gd 100000 4 A := gd_mono g (by decide)
  have rk := rA_ok (w0_of C) gL a2.1 a2.2
  refine sC_of rfl (Nat.le_of_ble_eq_true rfl) ?_
  show sE g_tt _ _ _ 0 [some (.ref 0), some (.int (iZ (h : Int))), some (.int (iZ (k : Int))), none, none] [] σ
  refine q_iload_n dX6_until_0 rfl rfl ?_
  refine s_callS (As := [.int (iZ (h : Int))]) (S := []) dX6_until_1 okX6_isHouse mlX6_68 rfl (by omega) rfl (Nat.le_of_ble_eq_true rfl) (c_isHouse (d := d - 1) (z := (h : Int)) (by unfold inR at *; omega) σ) (fun v_ σ_ hq => ?_)
  obtain ⟨rfl, e9⟩ := hq
  have e9 := e9.symm
  subst e9
  show sE g_tt _ _ _ 4 [some (.ref 0), some (.int (iZ (h : Int))), some (.int (iZ (k : Int))), none, none] [.int (iZ (if 0 ≤ (h : Int) ∧ (h : Int) < 8 then 1 else 0))] σ
  refine z_if_eq (tgt := 14) dX6_until_4 (by decide) inR_01 (fun c_1 => ?_) (fun c_1 => ?_)
  · have c_1 := if01_0 c_1
    exfalso
    omega
  · have c_1 := if01_1 c_1
    refine q_iload_n dX6_until_7 rfl rfl ?_
    refine s_callS (As := [.int (iZ (k : Int))]) (S := []) dX6_until_8 okX6_isHouse mlX6_68 rfl (by omega) rfl (Nat.le_of_ble_eq_true rfl) (c_isHouse (d := d - 1) (z := (k : Int)) (by unfold inR at *; omega) σ) (fun v_ σ_ hq => ?_)
    obtain ⟨rfl, e9⟩ := hq
    have e9 := e9.symm
    subst e9
    show sE g_tt _ _ _ 11 [some (.ref 0), some (.int (iZ (h : Int))), some (.int (iZ (k : Int))), none, none] [.int (iZ (if 0 ≤ (k : Int) ∧ (k : Int) < 8 then 1 else 0))] σ
    refine z_if_ne (tgt := 16) dX6_until_11 (by decide) inR_01 (fun c_2 => ?_) (fun c_2 => ?_)
    · have c_2 := if01_1 c_2
      refine q_aload_n dX6_until_16 rfl rfl ?_
      refine s_callV (ci := 6) (a := 0) (As := []) (S := []) dX6_until_17 okX6_atRest mlX6_225 rfl (by omega) rfl (Nat.le_of_ble_eq_true rfl) (show kd 0 = 6 from rfl) (by decide) rfl (x_atRest (d := d - 1) (by omega) σ hc hn4 ok oi C) (fun v_ σ_ hq => ?_)
      obtain ⟨rfl, hc1, ht1, hm1, hn1⟩ := hq
      rename gS => σ1
      have C1 := clR_ch ok oi C hc1
      show sE g_tt _ _ _ 20 [some (.ref 0), some (.int (iZ (h : Int))), some (.int (iZ (k : Int))), none, none] [.ref 364] σ1
      refine q_astore_n dX6_until_20 rfl (by decide) ?_
      show sE g_tt _ _ _ 21 [some (.ref 0), some (.int (iZ (h : Int))), some (.int (iZ (k : Int))), some (.ref 364), none] [] σ1
      refine z_iconst dX6_until_21 ?_
      refine q_istore dX6_until_22 (by decide) ?_
      show sE g_tt _ _ _ 24 [some (.ref 0), some (.int (iZ (h : Int))), some (.int (iZ (k : Int))), some (.ref 364), some (.int (iZ 1))] [] σ1
      exact lx_until hd hh hk σ hc hn4 ok oi C 101 (rA W A) 1 σ1 rk.1 rk.2.1 ht1 hc1 (by omega) (by omega)
    · have c_2 := if01_0 c_2
      exfalso
      omega
set_option maxHeartbeats 4000000 in
set_option maxRecDepth 100000 in
theorem x_until0 {d : Nat} (hd : 1 ≤ d) {h k : Int} (hh : inR h) (hk : inR k) (hno : ¬ ((0 ≤ h ∧ h < 8) ∧ (0 ≤ k ∧ k < 8))) (σ : gS) : sC mX6_until d [.ref 0, .int (iZ h), .int (iZ k)] σ (fun r σ' => r = some (.int (iZ (-1))) ∧ σ' = σ) := by
  refine sC_of rfl (Nat.le_of_ble_eq_true rfl) ?_
  show sE g_tt _ _ _ 0 [some (.ref 0), some (.int (iZ h)), some (.int (iZ k)), none, none] [] σ
  refine q_iload_n dX6_until_0 rfl rfl ?_
  refine s_callS (As := [.int (iZ h)]) (S := []) dX6_until_1 okX6_isHouse mlX6_68 rfl (by omega) rfl (Nat.le_of_ble_eq_true rfl) (c_isHouse (d := d - 1) (z := h) (by unfold inR at *; omega) σ) (fun v_ σ_ hq => ?_)
  obtain ⟨rfl, e9⟩ := hq
  have e9 := e9.symm
  subst e9
  show sE g_tt _ _ _ 4 [some (.ref 0), some (.int (iZ h)), some (.int (iZ k)), none, none] [.int (iZ (if 0 ≤ h ∧ h < 8 then 1 else 0))] σ
  refine z_if_eq (tgt := 14) dX6_until_4 (by decide) inR_01 (fun c_1 => ?_) (fun c_1 => ?_)
  · have c_1 := if01_0 c_1
    refine z_iconst dX6_until_14 ?_
    exact s_iretZ dX6_until_15 rfl ⟨rfl, rfl⟩
  · have c_1 := if01_1 c_1
    refine q_iload_n dX6_until_7 rfl rfl ?_
    refine s_callS (As := [.int (iZ k)]) (S := []) dX6_until_8 okX6_isHouse mlX6_68 rfl (by omega) rfl (Nat.le_of_ble_eq_true rfl) (c_isHouse (d := d - 1) (z := k) (by unfold inR at *; omega) σ) (fun v_ σ_ hq => ?_)
    obtain ⟨rfl, e9⟩ := hq
    have e9 := e9.symm
    subst e9
    show sE g_tt _ _ _ 11 [some (.ref 0), some (.int (iZ h)), some (.int (iZ k)), none, none] [.int (iZ (if 0 ≤ k ∧ k < 8 then 1 else 0))] σ
    refine z_if_ne (tgt := 16) dX6_until_11 (by decide) inR_01 (fun c_2 => ?_) (fun c_2 => ?_)
    · have c_2 := if01_1 c_2
      exfalso
      omega
    · have c_2 := if01_0 c_2
      refine z_iconst dX6_until_14 ?_
      exact s_iretZ dX6_until_15 rfl ⟨rfl, rfl⟩
