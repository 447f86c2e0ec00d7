/-! ===== rest, waves, until of the class ===== -/
theorem rM_ok {W : wF} {n : Int} (hW : w0 W n) {A : Nat → Int} (g : gd 100000 4 A) (h1 : -1 ≤ A 2) (h2 : A 2 < n) : 0 ≤ rM W A ∧ rM W A ≤ 5000000 := by
  have a : (0 : Int) ≤ rM W A := sett_25 (W := W) fuS A (va_up (va_up zF 26 0) 25 0) (Or.inr trivial)
  have k : ∀ (f : Nat) (B F : Nat → Int), gd 100000 4 B → -1 ≤ B 2 → B 2 < n → (sett W f B F).2.2 25 ≤ F 25 + 5 * ((sett W f B F).1.length : Int) := by
    intro f
    induction f with
    | zero => intro B F _ _ _; show F 25 ≤ F 25 + 5 * ((0 : Nat) : Int); omega
    | succ f ih =>
      intro B F gB b1 b2
      simp only [sett]
      split
      · show F 25 ≤ F 25 + 5 * ((0 : Nat) : Int); omega
      · rename_i hr
        obtain ⟨j, hj, ej, hw⟩ := (rdI_spec (W := W) (A := B)).resolve_left hr
        rw [ej, Int.toNat_natCast]
        have w9 := (hW B gB b1 b2 j hj).1
        have a0 := gB.2.2.2.2.1
        have e2 : (mThank B F j).1 2 = B 2 := mThank_lo B F hj a0.1 a0.2 (by decide) (by decide) (by decide)
        have i9 := ih (mThank B F j).1 (mThank B F j).2 (gd_thank gB F hj (by omega)) (by omega) (by omega)
        have k9 : (mThank B F j).2 25 ≤ F 25 + (((B 0).toNat : Nat) : Int) := (mTh_25 (mKd B j) (va_up F 26 (((F 26).toNat ||| 2 ^ j : Nat) : Int)) j (mPeo (mKd B j) j (B 0).toNat) (B 0).toNat).2
        have g0 := gB.1
        simp only [List.length_cons]
        omega
  have b : rM W A ≤ 0 + 5 * ((rL W A).length : Int) := k fuS A (va_up (va_up zF 26 0) 25 0) g h1 h2
  have c := (rA_ok hW g h1 h2).2.2.2
  exact ⟨a, by omega⟩
theorem inc_ok {W : wF} {n : Int} (hW : w0 W n) {B : Nat → Int} (g : gd 80 4 B) (h1 : -1 ≤ B 2) (h2 : B 2 < n) {h : Nat} (hh : h < 8) : gd 100000 4 (inc B h) ∧ -1 ≤ inc B h 2 ∧ inc B h 2 < n := ⟨gd_mono (gd_inc g hh) (by decide), by rw [inc_2]; exact h1, by rw [inc_2]; exact h2⟩
theorem wv_ok {W : wF} {n : Int} (hW : w0 W n) {A : Nat → Int} (g : gd 100000 4 A) (h1 : -1 ≤ A 2) (h2 : A 2 < n) {h : Nat} (hh : h < 8) : (0 ≤ wvN W A h ∧ wvN W A h ≤ 1000000) ∧ (0 ≤ wvM W A h ∧ wvM W A h ≤ 5000000) := by
  have rk := rA_ok hW g h1 h2
  have io := inc_ok hW rk.1 (by rw [rk.2.1]; exact h1) (by rw [rk.2.1]; exact h2) hh
  have q1 := (rA_ok hW io.1 io.2.1 io.2.2).2.2.2
  have q2 := rM_ok hW io.1 io.2.1 io.2.2
  unfold wvN wvM
  exact ⟨⟨by omega, q1⟩, q2⟩
set_option maxHeartbeats 4000000 in
set_option maxRecDepth 100000 in
theorem x_rest {d q : Nat} (hd : 7 ≤ d) (hq8 : q < 8) {u : Int} (hu : u = 0 ∨ u = 1) (σ : gS) {W V : wF} {A I : Nat → Int} {c nt : Int} (hc : c ≤ 88000) (hn4 : nt ≤ 4) (ok : okR c nt A) (oi : okR c (I 1) I) (C : clR σ W V A I) : sC mX6_rest d [.ref 0, .int (iZ (q : Int)), .int (iZ u)] σ (fun r σ' => r = some (.int (iZ (if u = 0 then rA W A (11 + q) else (((rL W A).count q : Nat) : Int)))) ∧ chg scrQ σ σ') := by
  have g := ok_gd hc hn4 ok
  have g0 := g.1
  have n1 := ok.2.2.1
  have a2 := ok_2 ok
  have g10 := g.2.2.2.2.1
  have gL : gd 100000 4 A := gd_mono g (by decide)
  have rk := rA_ok (w0_of C) gL a2.1 a2.2
  refine sC_of rfl (Nat.le_of_ble_eq_true rfl) ?_
  show sE g_tt _ _ _ 0 [some (.ref 0), some (.int (iZ (q : Int))), some (.int (iZ u)), none] [] σ
  refine q_iload_n dX6_rest_0 rfl rfl ?_
  refine s_callS (As := [.int (iZ (q : Int))]) (S := []) dX6_rest_1 okX6_isHouse mlX6_68 rfl (by omega) rfl (Nat.le_of_ble_eq_true rfl) (c_isHouse (d := d - 1) (z := (q : Int)) (by unfold inR at *; omega) σ) (fun v_ σ_ hq => ?_)
  obtain ⟨rfl, e9⟩ := hq
  have e9 := e9.symm
  subst e9
  show sE g_tt _ _ _ 4 [some (.ref 0), some (.int (iZ (q : Int))), some (.int (iZ u)), none] [.int (iZ (if 0 ≤ (q : Int) ∧ (q : Int) < 8 then 1 else 0))] σ
  refine z_if_eq (tgt := 16) dX6_rest_4 (by decide) inR_01 (fun c_1 => ?_) (fun c_1 => ?_)
  · have c_1 := if01_0 c_1
    exfalso
    omega
  · have c_1 := if01_1 c_1
    refine q_iload_n dX6_rest_7 rfl rfl ?_
    refine z_if_lt (tgt := 16) dX6_rest_8 (by decide) (by unfold inR at *; omega) (fun c_2 => ?_) (fun c_2 => ?_)
    · exfalso
      omega
    · refine q_iload_n dX6_rest_11 rfl rfl ?_
      refine z_iconst dX6_rest_12 ?_
      refine z_icmp_le (tgt := 18) dX6_rest_13 (by decide) (by unfold inR at *; omega) (by unfold inR at *; omega) (fun c_3 => ?_) (fun c_3 => ?_)
      · refine q_aload_n dX6_rest_18 rfl rfl ?_
        refine s_callV (ci := 6) (a := 0) (As := []) (S := []) dX6_rest_19 okX6_atRest mlX6_225 rfl (by omega) rfl (Nat.le_of_ble_eq_true rfl) (show kd 0 = 6 from rfl) (by decide) rfl (x_atRest (d := d - 1) (by omega) σ hc hn4 ok oi C) (fun v_ σ_ hq => ?_)
        obtain ⟨rfl, hc1, ht1, hm1, hn1⟩ := hq
        rename gS => σ1
        have C1 := clR_ch ok oi C hc1
        show sE g_tt _ _ _ 22 [some (.ref 0), some (.int (iZ (q : Int))), some (.int (iZ u)), none] [.ref 364] σ1
        refine q_astore_n dX6_rest_22 rfl (by decide) ?_
        show sE g_tt _ _ _ 23 [some (.ref 0), some (.int (iZ (q : Int))), some (.int (iZ u)), some (.ref 364)] [] σ1
        refine q_iload_n dX6_rest_23 rfl rfl ?_
        refine z_if_ne (tgt := 36) dX6_rest_24 (by decide) (by unfold inR at *; omega) (fun c_4 => ?_) (fun c_4 => ?_)
        · refine q_aload_n dX6_rest_36 rfl rfl ?_
          refine sg2 (kf := 10) (v := .ref 368) dX6_rest_37 flX6_229 (show kd 364 = 2 from rfl) (by decide) rfl ?_
          refine q_iload_n dX6_rest_40 rfl rfl ?_
          refine s_iald (n := 8) (x := (((rL W A).count q : Nat) : Int)) dX6_rest_41 (show kd 368 = 100 + 8 from rfl) (by omega) (by omega) (by decide) (hn1 q hq8) ?_
          exact s_iretZ dX6_rest_42 rfl ⟨by first | ((repeat (first | rw [if_pos (by omega)] | rw [if_neg (by omega)])); done) | (exfalso; omega), hc1⟩
        · refine q_aload_n dX6_rest_27 rfl rfl ?_
          refine sg2 (kf := 0) (v := .ref 365) dX6_rest_28 flX6_122 (show kd 364 = 2 from rfl) (by decide) rfl ?_
          refine q_iload_n dX6_rest_31 rfl rfl ?_
          refine s_iald (n := 8) (x := rA W A (11 + q)) dX6_rest_32 (show kd 365 = 100 + 8 from rfl) (by omega) (by omega) (by decide) (ht1.1 q hq8) ?_
          refine q_goto (tgt := 42) dX6_rest_33 (by decide) ?_
          exact s_iretZ dX6_rest_42 rfl ⟨by first | ((repeat (first | rw [if_pos (by omega)] | rw [if_neg (by omega)])); done) | (exfalso; omega), hc1⟩
      · exfalso
        omega
set_option maxHeartbeats 4000000 in
set_option maxRecDepth 100000 in
theorem x_rest0 {d : Nat} (hd : 1 ≤ d) {h k : Int} (hh : inR h) (hk : inR k) (hno : ¬ ((0 ≤ h ∧ h < 8) ∧ (0 ≤ k ∧ k ≤ 1))) (σ : gS) : sC mX6_rest d [.ref 0, .int (iZ h), .int (iZ k)] σ (fun r σ' => r = some (.int (iZ (-1))) ∧ σ' = σ) := by
  refine sC_of rfl (Nat.le_of_ble_eq_true rfl) ?_
  show sE g_tt _ _ _ 0 [some (.ref 0), some (.int (iZ h)), some (.int (iZ k)), none] [] σ
  refine q_iload_n dX6_rest_0 rfl rfl ?_
  refine s_callS (As := [.int (iZ h)]) (S := []) dX6_rest_1 okX6_isHouse mlX6_68 rfl (by omega) rfl (Nat.le_of_ble_eq_true rfl) (c_isHouse (d := d - 1) (z := h) (by unfold inR at *; omega) σ) (fun v_ σ_ hq => ?_)
  obtain ⟨rfl, e9⟩ := hq
  have e9 := e9.symm
  subst e9
  show sE g_tt _ _ _ 4 [some (.ref 0), some (.int (iZ h)), some (.int (iZ k)), none] [.int (iZ (if 0 ≤ h ∧ h < 8 then 1 else 0))] σ
  refine z_if_eq (tgt := 16) dX6_rest_4 (by decide) inR_01 (fun c_1 => ?_) (fun c_1 => ?_)
  · have c_1 := if01_0 c_1
    refine z_iconst dX6_rest_16 ?_
    exact s_iretZ dX6_rest_17 rfl ⟨rfl, rfl⟩
  · have c_1 := if01_1 c_1
    refine q_iload_n dX6_rest_7 rfl rfl ?_
    refine z_if_lt (tgt := 16) dX6_rest_8 (by decide) (by unfold inR at *; omega) (fun c_2 => ?_) (fun c_2 => ?_)
    · refine z_iconst dX6_rest_16 ?_
      exact s_iretZ dX6_rest_17 rfl ⟨rfl, rfl⟩
    · refine q_iload_n dX6_rest_11 rfl rfl ?_
      refine z_iconst dX6_rest_12 ?_
      refine z_icmp_le (tgt := 18) dX6_rest_13 (by decide) (by unfold inR at *; omega) (by unfold inR at *; omega) (fun c_3 => ?_) (fun c_3 => ?_)
      · exfalso
        omega
      · refine z_iconst dX6_rest_16 ?_
        exact s_iretZ dX6_rest_17 rfl ⟨rfl, rfl⟩
set_option maxHeartbeats 4000000 in
set_option maxRecDepth 100000 in
theorem x_wave {d j : Nat} (hd : 7 ≤ d) (hj : j < 8) (σ : gS) {W V : wF} {A I : Nat → Int} {c nt : Int} (hc : c ≤ 88000) (hn4 : nt ≤ 4) (ok : okR c nt A) (oi : okR c (I 1) I) (C : clR σ W V A I) : sC mX6_wave d [.ref 0, .int (iZ (j : Int))] σ (fun r σ' => r = some (.int (iZ (wvN W A j))) ∧ chg scrQ σ σ') := by
  have g := ok_gd hc hn4 ok
  have g0 := g.1
  have n1 := ok.2.2.1
  have a2 := ok_2 ok
  have g10 := g.2.2.2.2.1
  have gL : gd 100000 4 A := gd_mono g (by decide)
  have rk := rA_ok (w0_of C) gL a2.1 a2.2
  refine sC_of rfl (Nat.le_of_ble_eq_true rfl) ?_
  show sE g_tt _ _ _ 0 [some (.ref 0), some (.int (iZ (j : Int)))] [] σ
  refine q_iload_n dX6_wave_0 rfl rfl ?_
  refine s_callS (As := [.int (iZ (j : Int))]) (S := []) dX6_wave_1 okX6_isHouse mlX6_68 rfl (by omega) rfl (Nat.le_of_ble_eq_true rfl) (c_isHouse (d := d - 1) (z := (j : Int)) (by unfold inR at *; omega) σ) (fun v_ σ_ hq => ?_)
  obtain ⟨rfl, e9⟩ := hq
  have e9 := e9.symm
  subst e9
  show sE g_tt _ _ _ 4 [some (.ref 0), some (.int (iZ (j : Int)))] [.int (iZ (if 0 ≤ (j : Int) ∧ (j : Int) < 8 then 1 else 0))] σ
  refine z_if_ne (tgt := 9) dX6_wave_4 (by decide) inR_01 (fun c_1 => ?_) (fun c_1 => ?_)
  · have c_1 := if01_1 c_1
    refine q_aload_n dX6_wave_9 rfl rfl ?_
    refine q_aload_n dX6_wave_10 rfl rfl ?_
    refine s_callV (ci := 6) (a := 0) (As := []) (S := [.ref 0]) dX6_wave_11 okX6_atRest mlX6_225 rfl (by omega) rfl (Nat.le_of_ble_eq_true rfl) (show kd 0 = 6 from rfl) (by decide) rfl (x_atRest (d := d - 1) (by omega) σ hc hn4 ok oi C) (fun v_ σ_ hq => ?_)
    obtain ⟨rfl, hc1, ht1, hm1, hn1⟩ := hq
    rename gS => σ1
    have C1 := clR_ch ok oi C hc1
    show sE g_tt _ _ _ 14 [some (.ref 0), some (.int (iZ (j : Int)))] [.ref 364, .ref 0] σ1
    refine q_iload_n dX6_wave_14 rfl rfl ?_
    refine s_callV (ci := 6) (a := 0) (As := [.ref 364, .int (iZ (j : Int))]) (S := []) dX6_wave_15 okX6_waveOver mlX6_232 rfl (by omega) rfl (Nat.le_of_ble_eq_true rfl) (show kd 0 = 6 from rfl) (by decide) rfl (x_waveOver (d := d - 1) (h := j) (by omega) hj σ1 hc hn4 ok oi C1 (rA W A) (gd_mono rk.1 (by decide)) rk.2.1 ht1) (fun v_ σ_ hq => ?_)
    obtain ⟨rfl, hc2, ht2, hm2, hn2⟩ := hq
    rename gS => σ2
    have s2 : chg scrQ σ1 σ2 := chg_mono hc2 (fun a q => atS_scr (by omega) q)
    have C2 := clR_ch ok oi C1 s2
    show sE g_tt _ _ _ 18 [some (.ref 0), some (.int (iZ (j : Int)))] [.ref 369] σ2
    refine s_callV (ci := 2) (a := 369) (As := []) (S := []) dX6_wave_18 okX2_thanksInAll mlX6_236 rfl (by omega) rfl (Nat.le_of_ble_eq_true rfl) (show kd 369 = 2 from rfl) (by decide) rfl (t_thanksInAll (d := d - 1) (s := 369) rfl σ2) (fun v_ σ_ hq => ?_)
    obtain ⟨rfl, e9⟩ := hq
    have e9 := e9.symm
    subst e9
    refine z_top (y := wvN W A j) (kSum_rL hn2) ?_
    show sE g_tt _ _ _ 21 [some (.ref 0), some (.int (iZ (j : Int)))] [.int (iZ (wvN W A j))] σ2
    exact s_iretZ dX6_wave_21 rfl ⟨rfl, chg_tr hc1 s2⟩
  · have c_1 := if01_0 c_1
    exfalso
    omega
set_option maxHeartbeats 4000000 in
set_option maxRecDepth 100000 in
theorem x_wave0 {d : Nat} (hd : 1 ≤ d) {h : Int} (hh : inR h) (hno : ¬ (0 ≤ h ∧ h < 8)) (σ : gS) : sC mX6_wave d [.ref 0, .int (iZ h)] σ (fun r σ' => r = some (.int (iZ (-1))) ∧ σ' = σ) := by
  refine sC_of rfl (Nat.le_of_ble_eq_true rfl) ?_
  show sE g_tt _ _ _ 0 [some (.ref 0), some (.int (iZ h))] [] σ
  refine q_iload_n dX6_wave_0 rfl rfl ?_
  refine s_callS (As := [.int (iZ h)]) (S := []) dX6_wave_1 okX6_isHouse mlX6_68 rfl (by omega) rfl (Nat.le_of_ble_eq_true rfl) (c_isHouse (d := d - 1) (z := h) (by unfold inR at *; omega) σ) (fun v_ σ_ hq => ?_)
  obtain ⟨rfl, e9⟩ := hq
  have e9 := e9.symm
  subst e9
  show sE g_tt _ _ _ 4 [some (.ref 0), some (.int (iZ h))] [.int (iZ (if 0 ≤ h ∧ h < 8 then 1 else 0))] σ
  refine z_if_ne (tgt := 9) dX6_wave_4 (by decide) inR_01 (fun c_1 => ?_) (fun c_1 => ?_)
  · have c_1 := if01_1 c_1
    exfalso
    omega
  · have c_1 := if01_0 c_1
    refine z_iconst dX6_wave_7 ?_
    exact s_iretZ dX6_wave_8 rfl ⟨rfl, rfl⟩
set_option maxHeartbeats 4000000 in
set_option maxRecDepth 100000 in
theorem x_waves {d i j : Nat} (hd : 8 ≤ d) (hi : i < 8) (hj : j < 8) (hij : i ≠ j) (σ : gS) {W V : wF} {A I : Nat → Int} {c nt : Int} (hc : c ≤ 88000) (hn4 : nt ≤ 4) (ok : okR c nt A) (oi : okR c (I 1) I) (C : clR σ W V A I) : sC mX6_waves d [.ref 0, .int (iZ (i : Int)), .int (iZ (j : Int))] σ (fun r σ' => r = some (.int (iZ (((rL W (inc (inc (rA W A) i) j)).length : Int)))) ∧ chg scrQ σ σ') := by
  have g := ok_gd hc hn4 ok
  have g0 := g.1
  have n1 := ok.2.2.1
  have a2 := ok_2 ok
  have g10 := g.2.2.2.2.1
  have gL : gd 100000 4 A := gd_mono g (by decide)
  have rk := rA_ok (w0_of C) gL a2.1 a2.2
  refine sC_of rfl (Nat.le_of_ble_eq_true rfl) ?_
  show sE g_tt _ _ _ 0 [some (.ref 0), some (.int (iZ (i : Int))), some (.int (iZ (j : Int)))] [] σ
  refine q_iload_n dX6_waves_0 rfl rfl ?_
  refine s_callS (As := [.int (iZ (i : Int))]) (S := []) dX6_waves_1 okX6_isHouse mlX6_68 rfl (by omega) rfl (Nat.le_of_ble_eq_true rfl) (c_isHouse (d := d - 1) (z := (i : Int)) (by unfold inR at *; omega) σ) (fun v_ σ_ hq => ?_)
  obtain ⟨rfl, e9⟩ := hq
  have e9 := e9.symm
  subst e9
  show sE g_tt _ _ _ 4 [some (.ref 0), some (.int (iZ (i : Int))), some (.int (iZ (j : Int)))] [.int (iZ (if 0 ≤ (i : Int) ∧ (i : Int) < 8 then 1 else 0))] σ
  refine z_if_eq (tgt := 19) dX6_waves_4 (by decide) inR_01 (fun c_1 => ?_) (fun c_1 => ?_)
  · have c_1 := if01_0 c_1
    exfalso
    omega
  · have c_1 := if01_1 c_1
    refine q_iload_n dX6_waves_7 rfl rfl ?_
    refine s_callS (As := [.int (iZ (j : Int))]) (S := []) dX6_waves_8 okX6_isHouse mlX6_68 rfl (by omega) rfl (Nat.le_of_ble_eq_true rfl) (c_isHouse (d := d - 1) (z := (j : Int)) (by unfold inR at *; omega) σ) (fun v_ σ_ hq => ?_)
    obtain ⟨rfl, e9⟩ := hq
    have e9 := e9.symm
    subst e9
    show sE g_tt _ _ _ 11 [some (.ref 0), some (.int (iZ (i : Int))), some (.int (iZ (j : Int)))] [.int (iZ (if 0 ≤ (j : Int) ∧ (j : Int) < 8 then 1 else 0))] σ
    refine z_if_eq (tgt := 19) dX6_waves_11 (by decide) inR_01 (fun c_2 => ?_) (fun c_2 => ?_)
    · have c_2 := if01_0 c_2
      exfalso
      omega
    · have c_2 := if01_1 c_2
      refine q_iload_n dX6_waves_14 rfl rfl ?_
      refine q_iload_n dX6_waves_15 rfl rfl ?_
      refine z_icmp_ne (tgt := 21) dX6_waves_16 (by decide) (by unfold inR at *; omega) (by unfold inR at *; omega) (fun c_3 => ?_) (fun c_3 => ?_)
      · refine q_aload_n dX6_waves_21 rfl rfl ?_
        refine q_iload_n dX6_waves_22 rfl rfl ?_
        refine q_iload_n dX6_waves_23 rfl rfl ?_
        refine s_callV (ci := 6) (a := 0) (As := [.int (iZ (i : Int)), .int (iZ (j : Int))]) (S := []) dX6_waves_24 okX6_doubleWave mlX6_239 rfl (by omega) rfl (Nat.le_of_ble_eq_true rfl) (show kd 0 = 6 from rfl) (by decide) rfl (x_doubleWave (d := d - 1) (i := i) (j := j) (by omega) (by omega) (by omega) σ hc hn4 ok oi C) (fun v_ σ_ hq => ?_)
        obtain ⟨rfl, hc2, ht2, hm2, hn2, hr2⟩ := hq
        rename gS => σ2
        have C2 := clR_ch ok oi C hc2
        show sE g_tt _ _ _ 27 [some (.ref 0), some (.int (iZ (i : Int))), some (.int (iZ (j : Int)))] [.ref 369] σ2
        refine s_callV (ci := 2) (a := 369) (As := []) (S := []) dX6_waves_27 okX2_thanksInAll mlX6_236 rfl (by omega) rfl (Nat.le_of_ble_eq_true rfl) (show kd 369 = 2 from rfl) (by decide) rfl (t_thanksInAll (d := d - 1) (s := 369) rfl σ2) (fun v_ σ_ hq => ?_)
        obtain ⟨rfl, e9⟩ := hq
        have e9 := e9.symm
        subst e9
        refine z_top (y := ((rL W (inc (inc (rA W A) i) j)).length : Int)) (kSum_rL hn2) ?_
        show sE g_tt _ _ _ 30 [some (.ref 0), some (.int (iZ (i : Int))), some (.int (iZ (j : Int)))] [.int (iZ ((rL W (inc (inc (rA W A) i) j)).length : Int))] σ2
        exact s_iretZ dX6_waves_30 rfl ⟨rfl, hc2⟩
      · exfalso
        omega
set_option maxHeartbeats 4000000 in
set_option maxRecDepth 100000 in
theorem x_waves0 {d : Nat} (hd : 1 ≤ d) {h k : Int} (hh : inR h) (hk : inR k) (hno : ¬ ((0 ≤ h ∧ h < 8) ∧ (0 ≤ k ∧ k < 8) ∧ h ≠ k)) (σ : gS) : sC mX6_waves d [.ref 0, .int (iZ h), .int (iZ k)] σ (fun r σ' => r = some (.int (iZ (-1))) ∧ σ' = σ) := by
  refine sC_of rfl (Nat.le_of_ble_eq_true rfl) ?_
  show sE g_tt _ _ _ 0 [some (.ref 0), some (.int (iZ h)), some (.int (iZ k))] [] σ
  refine q_iload_n dX6_waves_0 rfl rfl ?_
  refine s_callS (As := [.int (iZ h)]) (S := []) dX6_waves_1 okX6_isHouse mlX6_68 rfl (by omega) rfl (Nat.le_of_ble_eq_true rfl) (c_isHouse (d := d - 1) (z := h) (by unfold inR at *; omega) σ) (fun v_ σ_ hq => ?_)
  obtain ⟨rfl, e9⟩ := hq
  have e9 := e9.symm
  subst e9
  show sE g_tt _ _ _ 4 [some (.ref 0), some (.int (iZ h)), some (.int (iZ k))] [.int (iZ (if 0 ≤ h ∧ h < 8 then 1 else 0))] σ
  refine z_if_eq (tgt := 19) dX6_waves_4 (by decide) inR_01 (fun c_1 => ?_) (fun c_1 => ?_)
  · have c_1 := if01_0 c_1
    refine z_iconst dX6_waves_19 ?_
    exact s_iretZ dX6_waves_20 rfl ⟨rfl, rfl⟩
  · have c_1 := if01_1 c_1
    refine q_iload_n dX6_waves_7 rfl rfl ?_
    refine s_callS (As := [.int (iZ k)]) (S := []) dX6_waves_8 okX6_isHouse mlX6_68 rfl (by omega) rfl (Nat.le_of_ble_eq_true rfl) (c_isHouse (d := d - 1) (z := k) (by unfold inR at *; omega) σ) (fun v_ σ_ hq => ?_)
    obtain ⟨rfl, e9⟩ := hq
    have e9 := e9.symm
    subst e9
    show sE g_tt _ _ _ 11 [some (.ref 0), some (.int (iZ h)), some (.int (iZ k))] [.int (iZ (if 0 ≤ k ∧ k < 8 then 1 else 0))] σ
    refine z_if_eq (tgt := 19) dX6_waves_11 (by decide) inR_01 (fun c_2 => ?_) (fun c_2 => ?_)
    · have c_2 := if01_0 c_2
      refine z_iconst dX6_waves_19 ?_
      exact s_iretZ dX6_waves_20 rfl ⟨rfl, rfl⟩
    · have c_2 := if01_1 c_2
      refine q_iload_n dX6_waves_14 rfl rfl ?_
      refine q_iload_n dX6_waves_15 rfl rfl ?_
      refine z_icmp_ne (tgt := 21) dX6_waves_16 (by decide) (by unfold inR at *; omega) (by unfold inR at *; omega) (fun c_3 => ?_) (fun c_3 => ?_)
      · exfalso
        omega
      · refine z_iconst dX6_waves_19 ?_
        exact s_iretZ dX6_waves_20 rfl ⟨rfl, rfl⟩
set_option maxHeartbeats 4000000 in
set_option maxRecDepth 100000 in
theorem x_again {d : Nat} (hd : 8 ≤ d) (σ : gS) {W V : wF} {A I : Nat → Int} {c nt : Int} (hc : c ≤ 88000) (hn4 : nt ≤ 4) (ok : okR c nt A) (oi : okR c (I 1) I) (C : clR σ W V A I) : sC mX6_again d [.ref 0] σ (fun r σ' => r = some (.int (iZ (kE (rA W A) (rA W (inc (inc (rA W A) 0) 7))))) ∧ chg scrQ σ σ') := by
  have g := ok_gd hc hn4 ok
  have g0 := g.1
  have n1 := ok.2.2.1
  have a2 := ok_2 ok
  have g10 := g.2.2.2.2.1
  have gL : gd 100000 4 A := gd_mono g (by decide)
  have rk := rA_ok (w0_of C) gL a2.1 a2.2
  have io := inc_ok (w0_of C) rk.1 (by rw [rk.2.1]; exact a2.1) (by rw [rk.2.1]; exact a2.2) (h := 0) (by decide)
  have rk2 := rA_ok (w0_of C) (A := inc (inc (rA W A) 0) 7) (gd_mono (gd_inc (gd_inc rk.1 (by decide)) (by decide)) (by decide)) (by rw [inc_2, inc_2, rk.2.1]; exact a2.1) (by rw [inc_2, inc_2, rk.2.1]; exact a2.2)
  refine sC_of rfl (Nat.le_of_ble_eq_true rfl) ?_
  show sE g_tt _ _ _ 0 [some (.ref 0)] [] σ
  refine q_aload_n dX6_again_0 rfl rfl ?_
  refine z_iconst dX6_again_1 ?_
  refine z_bipush dX6_again_2 (by decide +kernel) ?_
  refine s_callV (ci := 6) (a := 0) (As := [.int (iZ 0), .int (iZ 7)]) (S := []) dX6_again_4 okX6_doubleWave mlX6_239 rfl (by omega) rfl (Nat.le_of_ble_eq_true rfl) (show kd 0 = 6 from rfl) (by decide) rfl (x_doubleWave (d := d - 1) (i := 0) (j := 7) (by omega) (by omega) (by omega) σ hc hn4 ok oi C) (fun v_ σ_ hq => ?_)
  obtain ⟨rfl, hc2, ht2, hm2, hn2, hr2⟩ := hq
  rename gS => σ2
  have C2 := clR_ch ok oi C hc2
  show sE g_tt _ _ _ 7 [some (.ref 0)] [.ref 369] σ2
  refine q_aload_n dX6_again_7 rfl rfl ?_
  refine sg6 (kf := 6) (v := .ref 334) dX6_again_8 flX6_48 (show kd 0 = 6 from rfl) (by decide) rfl ?_
  refine z_iconst dX6_again_11 ?_
  refine s_aaldS (n := 4) (x := 364) dX6_again_12 (show kd 334 = 300000 + 4 from rfl) (by omega) (by omega) (by decide) (C2.2.2.2.2 0 (by omega)) ?_
  refine s_callV (ci := 2) (a := 369) (As := [.ref 364]) (S := []) dX6_again_13 okX2_isAsKindAs mlX6_246 rfl (by omega) rfl (Nat.le_of_ble_eq_true rfl) (show kd 369 = 2 from rfl) (by decide) rfl (t_isAsKindAs (d := d - 1) (s := 369) (o := 364) rfl σ2 rfl (by decide) (fun j hj => by rw [ht2.1 j hj]; exact gd_in (by decide) rk2.1 j hj) (fun j hj => by rw [hr2.1 j hj]; exact gd_in (by decide) rk.1 j hj)) (fun v_ σ_ hq => ?_)
  obtain ⟨rfl, e9⟩ := hq
  have e9 := e9.symm
  subst e9
  refine z_top (y := kE (rA W A) (rA W (inc (inc (rA W A) 0) 7))) (by rw [kE_sym]; exact kEE_kE ht2.1 hr2.1) ?_
  show sE g_tt _ _ _ 16 [some (.ref 0)] [.int (iZ (kE (rA W A) (rA W (inc (inc (rA W A) 0) 7))))] σ2
  exact s_zret dX6_again_16 rfl (kE_01 _ _) ⟨rfl, hc2⟩
set_option maxHeartbeats 4000000 in
set_option maxRecDepth 100000 in
theorem lx_greatest {d : Nat} (hd : 7 ≤ d) {u : Int} (hu : u = 0 ∨ u = 1) (σ : gS) {W V : wF} {A I : Nat → Int} {c nt : Int} (hc : c ≤ 88000) (hn4 : nt ≤ 4) (ok : okR c nt A) (oi : okR c (I 1) I) (C : clR σ W V A I) : ∀ (n : Nat) (k : Nat) (σ1 : gS) (l6 : Option Value), k ≤ 8 → chg scrQ σ σ1 → trS 0 σ1 364 (rA W A) → 8 - (k : Int) < (n : Int) → sE g_tt mX6_greatest d (fun r σ' => r = some (.int (iZ (if u = 0 then (mGr (wvN W A) 8).2 else (mGr (wvN W A) 8).1))) ∧ chg scrQ σ σ') 13 [some (.ref 0), some (.int (iZ u)), some (.ref 364), some (.int (iZ ((mGr (wvN W A) k).1))), some (.int (iZ ((mGr (wvN W A) k).2))), some (.int (iZ (k : Int))), l6] [] σ1 := by
  intro n
  induction n with
  | zero =>
    intro k σ1 l6 hk s1 ht1 hn
    exact absurd hn (by omega)
  | succ n ih =>
    intro k σ1 l6 hk s1 ht1 hn
    have g := ok_gd hc hn4 ok
    have g0 := g.1
    have n1 := ok.2.2.1
    have a2 := ok_2 ok
    have g10 := g.2.2.2.2.1
    have gL : gd 100000 4 A := gd_mono g (by decide)
    have rk := rA_ok (w0_of C) gL a2.1 a2.2
    have C1 := clR_ch ok oi C s1
    have rn := mGr_ran (f := wvN W A) (fun n hn => ⟨by have q := wv_ok (w0_of C) gL a2.1 a2.2 hn; omega, by have q := wv_ok (w0_of C) gL a2.1 a2.2 hn; omega⟩) k (by omega)
    have wk : k < 8 → (0 ≤ wvN W A k ∧ wvN W A k ≤ 1000000) ∧ (0 ≤ wvM W A k ∧ wvM W A k ≤ 5000000) := fun hk8 => wv_ok (w0_of C) gL a2.1 a2.2 hk8
    refine q_iload dX6_greatest_13 rfl ?_
    refine z_bipush dX6_greatest_15 (by decide +kernel) ?_
    refine z_icmp_ge (tgt := 52) dX6_greatest_17 (by decide) (by unfold inR at *; omega) (by unfold inR at *; omega) (fun c_1 => ?_) (fun c_1 => ?_)
    · refine q_iload_n dX6_greatest_52 rfl rfl ?_
      refine z_if_eq (tgt := 60) dX6_greatest_53 (by decide) (by unfold inR at *; omega) (fun c_2 => ?_) (fun c_2 => ?_)
      · refine q_iload dX6_greatest_60 rfl ?_
        exact s_iretZ dX6_greatest_62 rfl ⟨by rw [show (8 : Nat) = k by omega]; (repeat (first | rw [if_pos (by omega)] | rw [if_neg (by omega)])), s1⟩
      · refine q_iload_n dX6_greatest_56 rfl rfl ?_
        refine q_goto (tgt := 62) dX6_greatest_57 (by decide) ?_
        exact s_iretZ dX6_greatest_62 rfl ⟨by rw [show (8 : Nat) = k by omega]; (repeat (first | rw [if_pos (by omega)] | rw [if_neg (by omega)])), s1⟩
    · refine q_aload_n dX6_greatest_20 rfl rfl ?_
      refine q_aload_n dX6_greatest_21 rfl rfl ?_
      refine q_iload dX6_greatest_22 rfl ?_
      refine s_callV (ci := 6) (a := 0) (As := [.ref 364, .int (iZ (k : Int))]) (S := []) dX6_greatest_24 okX6_waveOver mlX6_232 rfl (by omega) rfl (Nat.le_of_ble_eq_true rfl) (show kd 0 = 6 from rfl) (by decide) rfl (x_waveOver (d := d - 1) (h := k) (by omega) (by omega) σ1 hc hn4 ok oi C1 (rA W A) (gd_mono rk.1 (by decide)) rk.2.1 ht1) (fun v_ σ_ hq => ?_)
      obtain ⟨rfl, hc2, ht2, hm2, hn2⟩ := hq
      rename gS => σ2
      have s2 : chg scrQ σ1 σ2 := chg_mono hc2 (fun a q => atS_scr (by omega) q)
      have C2 := clR_ch ok oi C1 s2
      show sE g_tt _ _ _ 27 [some (.ref 0), some (.int (iZ u)), some (.ref 364), some (.int (iZ ((mGr (wvN W A) k).1))), some (.int (iZ ((mGr (wvN W A) k).2))), some (.int (iZ (k : Int))), l6] [.ref 369] σ2
      refine s_callV (ci := 2) (a := 369) (As := []) (S := []) dX6_greatest_27 okX2_thanksInAll mlX6_236 rfl (by omega) rfl (Nat.le_of_ble_eq_true rfl) (show kd 369 = 2 from rfl) (by decide) rfl (t_thanksInAll (d := d - 1) (s := 369) rfl σ2) (fun v_ σ_ hq => ?_)
      obtain ⟨rfl, e9⟩ := hq
      have e9 := e9.symm
      subst e9
      refine z_top (y := wvN W A k) (kSum_rL hn2) ?_
      show sE g_tt _ _ _ 30 [some (.ref 0), some (.int (iZ u)), some (.ref 364), some (.int (iZ ((mGr (wvN W A) k).1))), some (.int (iZ ((mGr (wvN W A) k).2))), some (.int (iZ (k : Int))), l6] [.int (iZ (wvN W A k))] σ2
      refine q_istore dX6_greatest_30 (by decide) ?_
      show sE g_tt _ _ _ 32 [some (.ref 0), some (.int (iZ u)), some (.ref 364), some (.int (iZ ((mGr (wvN W A) k).1))), some (.int (iZ ((mGr (wvN W A) k).2))), some (.int (iZ (k : Int))), some (.int (iZ (wvN W A k)))] [] σ2
      refine q_iload dX6_greatest_32 rfl ?_
      refine q_iload dX6_greatest_34 rfl ?_
      refine z_icmp_le (tgt := 46) dX6_greatest_36 (by decide) (by unfold inR at *; omega) (by unfold inR at *; omega) (fun c_3 => ?_) (fun c_3 => ?_)
      · refine z_iinc dX6_greatest_46 rfl (by decide) ?_
        show sE g_tt _ _ _ 49 [some (.ref 0), some (.int (iZ u)), some (.ref 364), some (.int (iZ ((mGr (wvN W A) k).1))), some (.int (iZ ((mGr (wvN W A) k).2))), some (.int (iZ ((k : Int) + 1))), some (.int (iZ (wvN W A k)))] [] σ2
        refine q_goto (tgt := 13) dX6_greatest_49 (by decide) ?_
        have e : mGr (wvN W A) (k + 1) = mGr (wvN W A) k := by rw [mGr, if_pos (by omega)]
        have k9 := ih (k + 1) σ2 (some (.int (iZ (wvN W A k)))) (by omega) (chg_tr s1 s2) (trS_ch ht1 hc2 (fun a x y => by unfold atS stkP; omega)) (by omega)
        rw [e] at k9
        exact k9
      · refine q_iload dX6_greatest_39 rfl ?_
        refine q_istore dX6_greatest_41 (by decide) ?_
        show sE g_tt _ _ _ 43 [some (.ref 0), some (.int (iZ u)), some (.ref 364), some (.int (iZ ((mGr (wvN W A) k).1))), some (.int (iZ (wvN W A k))), some (.int (iZ (k : Int))), some (.int (iZ (wvN W A k)))] [] σ2
        refine q_iload dX6_greatest_43 rfl ?_
        refine q_istore_n dX6_greatest_45 rfl (by decide) ?_
        show sE g_tt _ _ _ 46 [some (.ref 0), some (.int (iZ u)), some (.ref 364), some (.int (iZ (k : Int))), some (.int (iZ (wvN W A k))), some (.int (iZ (k : Int))), some (.int (iZ (wvN W A k)))] [] σ2
        refine z_iinc dX6_greatest_46 rfl (by decide) ?_
        show sE g_tt _ _ _ 49 [some (.ref 0), some (.int (iZ u)), some (.ref 364), some (.int (iZ (k : Int))), some (.int (iZ (wvN W A k))), some (.int (iZ ((k : Int) + 1))), some (.int (iZ (wvN W A k)))] [] σ2
        refine q_goto (tgt := 13) dX6_greatest_49 (by decide) ?_
        have e : mGr (wvN W A) (k + 1) = ((k : Int), wvN W A k) := by rw [mGr, if_neg (by omega)]
        have k9 := ih (k + 1) σ2 (some (.int (iZ (wvN W A k)))) (by omega) (chg_tr s1 s2) (trS_ch ht1 hc2 (fun a x y => by unfold atS stkP; omega)) (by omega)
        rw [e] at k9
        exact k9
set_option maxHeartbeats 4000000 in
set_option maxRecDepth 100000 in
theorem x_greatest {d : Nat} (hd : 7 ≤ d) {u : Int} (hu : u = 0 ∨ u = 1) (σ : gS) {W V : wF} {A I : Nat → Int} {c nt : Int} (hc : c ≤ 88000) (hn4 : nt ≤ 4) (ok : okR c nt A) (oi : okR c (I 1) I) (C : clR σ W V A I) : sC mX6_greatest d [.ref 0, .int (iZ u)] σ (fun r σ' => r = some (.int (iZ (if u = 0 then (mGr (wvN W A) 8).2 else (mGr (wvN W A) 8).1))) ∧ chg scrQ σ σ') := by
  have g := ok_gd hc hn4 ok
  have g0 := g.1
  have n1 := ok.2.2.1
  have a2 := ok_2 ok
  have g10 := g.2.2.2.2.1
  have gL : gd 100000 4 A := gd_mono g (by decide)
  have rk := rA_ok (w0_of C) gL a2.1 a2.2
  refine sC_of rfl (Nat.le_of_ble_eq_true rfl) ?_
  show sE g_tt _ _ _ 0 [some (.ref 0), some (.int (iZ u)), none, none, none, none, none] [] σ
  refine q_aload_n dX6_greatest_0 rfl rfl ?_
  refine s_callV (ci := 6) (a := 0) (As := []) (S := []) dX6_greatest_1 okX6_atRest mlX6_225 rfl (by omega) rfl (Nat.le_of_ble_eq_true rfl) (show kd 0 = 6 from rfl) (by decide) rfl (x_atRest (d := d - 1) (by omega) σ hc hn4 ok oi C) (fun v_ σ_ hq => ?_)
  obtain ⟨rfl, hc1, ht1, hm1, hn1⟩ := hq
  rename gS => σ1
  have C1 := clR_ch ok oi C hc1
  show sE g_tt _ _ _ 4 [some (.ref 0), some (.int (iZ u)), none, none, none, none, none] [.ref 364] σ1
  refine q_astore_n dX6_greatest_4 rfl (by decide) ?_
  show sE g_tt _ _ _ 5 [some (.ref 0), some (.int (iZ u)), some (.ref 364), none, none, none, none] [] σ1
  refine z_iconst dX6_greatest_5 ?_
  refine q_istore_n dX6_greatest_6 rfl (by decide) ?_
  show sE g_tt _ _ _ 7 [some (.ref 0), some (.int (iZ u)), some (.ref 364), some (.int (iZ 0)), none, none, none] [] σ1
  refine z_iconst dX6_greatest_7 ?_
  refine q_istore dX6_greatest_8 (by decide) ?_
  show sE g_tt _ _ _ 10 [some (.ref 0), some (.int (iZ u)), some (.ref 364), some (.int (iZ 0)), some (.int (iZ (-1))), none, none] [] σ1
  refine z_iconst dX6_greatest_10 ?_
  refine q_istore dX6_greatest_11 (by decide) ?_
  show sE g_tt _ _ _ 13 [some (.ref 0), some (.int (iZ u)), some (.ref 364), some (.int (iZ 0)), some (.int (iZ (-1))), some (.int (iZ 0)), none] [] σ1
  exact lx_greatest hd hu σ hc hn4 ok oi C 9 0 σ1 _ (by omega) hc1 ht1 (by omega)
set_option maxHeartbeats 4000000 in
set_option maxRecDepth 100000 in
theorem lx_mover {d : Nat} (hd : 7 ≤ d) {u : Int} (hu : u = 0 ∨ u = 1) (σ : gS) {W V : wF} {A I : Nat → Int} {c nt : Int} (hc : c ≤ 88000) (hn4 : nt ≤ 4) (ok : okR c nt A) (oi : okR c (I 1) I) (C : clR σ W V A I) : ∀ (n : Nat) (k : Nat) (σ1 : gS) (l6 : Option Value), k ≤ 8 → chg scrQ σ σ1 → trS 0 σ1 364 (rA W A) → 8 - (k : Int) < (n : Int) → sE g_tt mX6_mover d (fun r σ' => r = some (.int (iZ (if u = 0 then (mGr (wvM W A) 8).2 else (mGr (wvM W A) 8).1))) ∧ chg scrQ σ σ') 13 [some (.ref 0), some (.int (iZ u)), some (.ref 364), some (.int (iZ ((mGr (wvM W A) k).1))), some (.int (iZ ((mGr (wvM W A) k).2))), some (.int (iZ (k : Int))), l6] [] σ1 := by
  intro n
  induction n with
  | zero =>
    intro k σ1 l6 hk s1 ht1 hn
    exact absurd hn (by omega)
  | succ n ih =>
    intro k σ1 l6 hk s1 ht1 hn
    have g := ok_gd hc hn4 ok
    have g0 := g.1
    have n1 := ok.2.2.1
    have a2 := ok_2 ok
    have g10 := g.2.2.2.2.1
    have gL : gd 100000 4 A := gd_mono g (by decide)
    have rk := rA_ok (w0_of C) gL a2.1 a2.2
    have C1 := clR_ch ok oi C s1
    have rn := mGr_ran (f := wvM W A) (fun n hn => ⟨by have q := wv_ok (w0_of C) gL a2.1 a2.2 hn; omega, by have q := wv_ok (w0_of C) gL a2.1 a2.2 hn; omega⟩) k (by omega)
    have wk : k < 8 → (0 ≤ wvN W A k ∧ wvN W A k ≤ 1000000) ∧ (0 ≤ wvM W A k ∧ wvM W A k ≤ 5000000) := fun hk8 => wv_ok (w0_of C) gL a2.1 a2.2 hk8
    refine q_iload dX6_mover_13 rfl ?_
    refine z_bipush dX6_mover_15 (by decide +kernel) ?_
    refine z_icmp_ge (tgt := 52) dX6_mover_17 (by decide) (by unfold inR at *; omega) (by unfold inR at *; omega) (fun c_1 => ?_) (fun c_1 => ?_)
    · refine q_iload_n dX6_mover_52 rfl rfl ?_
      refine z_if_eq (tgt := 60) dX6_mover_53 (by decide) (by unfold inR at *; omega) (fun c_2 => ?_) (fun c_2 => ?_)
      · refine q_iload dX6_mover_60 rfl ?_
        exact s_iretZ dX6_mover_62 rfl ⟨by rw [show (8 : Nat) = k by omega]; (repeat (first | rw [if_pos (by omega)] | rw [if_neg (by omega)])), s1⟩
      · refine q_iload_n dX6_mover_56 rfl rfl ?_
        refine q_goto (tgt := 62) dX6_mover_57 (by decide) ?_
        exact s_iretZ dX6_mover_62 rfl ⟨by rw [show (8 : Nat) = k by omega]; (repeat (first | rw [if_pos (by omega)] | rw [if_neg (by omega)])), s1⟩
    · refine q_aload_n dX6_mover_20 rfl rfl ?_
      refine q_aload_n dX6_mover_21 rfl rfl ?_
      refine q_iload dX6_mover_22 rfl ?_
      refine s_callV (ci := 6) (a := 0) (As := [.ref 364, .int (iZ (k : Int))]) (S := []) dX6_mover_24 okX6_waveOver mlX6_232 rfl (by omega) rfl (Nat.le_of_ble_eq_true rfl) (show kd 0 = 6 from rfl) (by decide) rfl (x_waveOver (d := d - 1) (h := k) (by omega) (by omega) σ1 hc hn4 ok oi C1 (rA W A) (gd_mono rk.1 (by decide)) rk.2.1 ht1) (fun v_ σ_ hq => ?_)
      obtain ⟨rfl, hc2, ht2, hm2, hn2⟩ := hq
      rename gS => σ2
      have s2 : chg scrQ σ1 σ2 := chg_mono hc2 (fun a q => atS_scr (by omega) q)
      have C2 := clR_ch ok oi C1 s2
      show sE g_tt _ _ _ 27 [some (.ref 0), some (.int (iZ u)), some (.ref 364), some (.int (iZ ((mGr (wvM W A) k).1))), some (.int (iZ ((mGr (wvM W A) k).2))), some (.int (iZ (k : Int))), l6] [.ref 369] σ2
      refine sg2 (kf := 11) (v := .int (iZ (wvM W A k))) dX6_mover_27 flX6_243 (show kd 369 = 2 from rfl) (by decide) (by show some (Value.int (iZ (σ2.1 369 11))) = _; rw [hm2]; rfl) ?_
      refine q_istore dX6_mover_30 (by decide) ?_
      show sE g_tt _ _ _ 32 [some (.ref 0), some (.int (iZ u)), some (.ref 364), some (.int (iZ ((mGr (wvM W A) k).1))), some (.int (iZ ((mGr (wvM W A) k).2))), some (.int (iZ (k : Int))), some (.int (iZ (wvM W A k)))] [] σ2
      refine q_iload dX6_mover_32 rfl ?_
      refine q_iload dX6_mover_34 rfl ?_
      refine z_icmp_le (tgt := 46) dX6_mover_36 (by decide) (by unfold inR at *; omega) (by unfold inR at *; omega) (fun c_3 => ?_) (fun c_3 => ?_)
      · refine z_iinc dX6_mover_46 rfl (by decide) ?_
        show sE g_tt _ _ _ 49 [some (.ref 0), some (.int (iZ u)), some (.ref 364), some (.int (iZ ((mGr (wvM W A) k).1))), some (.int (iZ ((mGr (wvM W A) k).2))), some (.int (iZ ((k : Int) + 1))), some (.int (iZ (wvM W A k)))] [] σ2
        refine q_goto (tgt := 13) dX6_mover_49 (by decide) ?_
        have e : mGr (wvM W A) (k + 1) = mGr (wvM W A) k := by rw [mGr, if_pos (by omega)]
        have k9 := ih (k + 1) σ2 (some (.int (iZ (wvM W A k)))) (by omega) (chg_tr s1 s2) (trS_ch ht1 hc2 (fun a x y => by unfold atS stkP; omega)) (by omega)
        rw [e] at k9
        exact k9
      · refine q_iload dX6_mover_39 rfl ?_
        refine q_istore dX6_mover_41 (by decide) ?_
        show sE g_tt _ _ _ 43 [some (.ref 0), some (.int (iZ u)), some (.ref 364), some (.int (iZ ((mGr (wvM W A) k).1))), some (.int (iZ (wvM W A k))), some (.int (iZ (k : Int))), some (.int (iZ (wvM W A k)))] [] σ2
        refine q_iload dX6_mover_43 rfl ?_
        refine q_istore_n dX6_mover_45 rfl (by decide) ?_
        show sE g_tt _ _ _ 46 [some (.ref 0), some (.int (iZ u)), some (.ref 364), some (.int (iZ (k : Int))), some (.int (iZ (wvM W A k))), some (.int (iZ (k : Int))), some (.int (iZ (wvM W A k)))] [] σ2
        refine z_iinc dX6_mover_46 rfl (by decide) ?_
        show sE g_tt _ _ _ 49 [some (.ref 0), some (.int (iZ u)), some (.ref 364), some (.int (iZ (k : Int))), some (.int (iZ (wvM W A k))), some (.int (iZ ((k : Int) + 1))), some (.int (iZ (wvM W A k)))] [] σ2
        refine q_goto (tgt := 13) dX6_mover_49 (by decide) ?_
        have e : mGr (wvM W A) (k + 1) = ((k : Int), wvM W A k) := by rw [mGr, if_neg (by omega)]
        have k9 := ih (k + 1) σ2 (some (.int (iZ (wvM W A k)))) (by omega) (chg_tr s1 s2) (trS_ch ht1 hc2 (fun a x y => by unfold atS stkP; omega)) (by omega)
        rw [e] at k9
        exact k9
set_option maxHeartbeats 4000000 in
set_option maxRecDepth 100000 in
theorem x_mover {d : Nat} (hd : 7 ≤ d) {u : Int} (hu : u = 0 ∨ u = 1) (σ : gS) {W V : wF} {A I : Nat → Int} {c nt : Int} (hc : c ≤ 88000) (hn4 : nt ≤ 4) (ok : okR c nt A) (oi : okR c (I 1) I) (C : clR σ W V A I) : sC mX6_mover d [.ref 0, .int (iZ u)] σ (fun r σ' => r = some (.int (iZ (if u = 0 then (mGr (wvM W A) 8).2 else (mGr (wvM W A) 8).1))) ∧ chg scrQ σ σ') := by
  have g := ok_gd hc hn4 ok
  have g0 := g.1
  have n1 := ok.2.2.1
  have a2 := ok_2 ok
  have g10 := g.2.2.2.2.1
  have gL : gd 100000 4 A := gd_mono g (by decide)
  have rk := rA_ok (w0_of C) gL a2.1 a2.2
  refine sC_of rfl (Nat.le_of_ble_eq_true rfl) ?_
  show sE g_tt _ _ _ 0 [some (.ref 0), some (.int (iZ u)), none, none, none, none, none] [] σ
  refine q_aload_n dX6_mover_0 rfl rfl ?_
  refine s_callV (ci := 6) (a := 0) (As := []) (S := []) dX6_mover_1 okX6_atRest mlX6_225 rfl (by omega) rfl (Nat.le_of_ble_eq_true rfl) (show kd 0 = 6 from rfl) (by decide) rfl (x_atRest (d := d - 1) (by omega) σ hc hn4 ok oi C) (fun v_ σ_ hq => ?_)
  obtain ⟨rfl, hc1, ht1, hm1, hn1⟩ := hq
  rename gS => σ1
  have C1 := clR_ch ok oi C hc1
  show sE g_tt _ _ _ 4 [some (.ref 0), some (.int (iZ u)), none, none, none, none, none] [.ref 364] σ1
  refine q_astore_n dX6_mover_4 rfl (by decide) ?_
  show sE g_tt _ _ _ 5 [some (.ref 0), some (.int (iZ u)), some (.ref 364), none, none, none, none] [] σ1
  refine z_iconst dX6_mover_5 ?_
  refine q_istore_n dX6_mover_6 rfl (by decide) ?_
  show sE g_tt _ _ _ 7 [some (.ref 0), some (.int (iZ u)), some (.ref 364), some (.int (iZ 0)), none, none, none] [] σ1
  refine z_iconst dX6_mover_7 ?_
  refine q_istore dX6_mover_8 (by decide) ?_
  show sE g_tt _ _ _ 10 [some (.ref 0), some (.int (iZ u)), some (.ref 364), some (.int (iZ 0)), some (.int (iZ (-1))), none, none] [] σ1
  refine z_iconst dX6_mover_10 ?_
  refine q_istore dX6_mover_11 (by decide) ?_
  show sE g_tt _ _ _ 13 [some (.ref 0), some (.int (iZ u)), some (.ref 364), some (.int (iZ 0)), some (.int (iZ (-1))), some (.int (iZ 0)), none] [] σ1
  exact lx_mover hd hu σ hc hn4 ok oi C 9 0 σ1 _ (by omega) hc1 ht1 (by omega)
