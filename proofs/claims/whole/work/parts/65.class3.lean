/-! ===== ready, of, whose; waves ===== -/
theorem stk_scr {a : Nat} (q : stkP a) : scrQ a := Or.inl q
set_option maxHeartbeats 4000000 in
set_option maxRecDepth 100000 in
theorem lx_ready {d : Nat} (hd : 5 ≤ d) (σ : gS) {W V : wF} {A I : Nat → Int} {c nt : Int} (hc : c ≤ 88000) (hn4 : nt ≤ 4) (ok : okR c nt A) (oi : okR c (I 1) I) (C : clR σ W V A I) : ∀ (n : Nat) (k : Nat) (σ1 : gS), k ≤ 8 → chg scrQ σ σ1 → 8 - (k : Int) < (n : Int) → sE g_tt mX6_ready d (fun r σ' => r = some (.int (iZ (((mRset W A : Nat) : Int)))) ∧ chg scrQ σ σ') 4 [some (.ref 0), some (.int (iZ ((mBs (fun h => wA W A h + 2 ≤ A (11 + h)) k : Nat) : Int))), some (.int (iZ (k : Int)))] [] σ1 := by
  intro n
  induction n with
  | zero =>
    intro k σ1 hk s1 hn
    exact absurd hn (by omega)
  | succ n ih =>
    intro k σ1 hk s1 hn
    have g := ok_gd hc hn4 ok
    have g0 := g.1
    have n1 := ok.2.2.1
    have a2 := ok_2 ok
    have g10 := g.2.2.2.2.1
    have n0 : 0 ≤ A 1 := by omega
    have gL : gd 100000 4 A := gd_mono g (by decide)
    have C1 := clR_ch ok oi C s1
    refine q_iload_n dX6_ready_4 rfl rfl ?_
    refine z_bipush dX6_ready_5 (by decide +kernel) ?_
    refine z_icmp_ge (tgt := 40) dX6_ready_7 (by decide) (by unfold inR at *; omega) (by unfold inR at *; omega) (fun c_1 => ?_) (fun c_1 => ?_)
    · refine q_iload_n dX6_ready_40 rfl rfl ?_
      exact s_iretZ dX6_ready_41 rfl ⟨by unfold mRset; rw [show (8 : Nat) = k by omega], s1⟩
    · refine q_aload_n dX6_ready_10 rfl rfl ?_
      refine sg6 (kf := 0) (v := .ref 1) dX6_ready_11 flX6_10 (show kd 0 = 6 from rfl) (by decide) rfl ?_
      refine sg5 (kf := 0) (v := .ref 2) dX6_ready_14 flX6_72 (show kd 1 = 5 from rfl) (by decide) rfl ?_
      refine q_iload_n dX6_ready_17 rfl rfl ?_
      refine q_aload_n dX6_ready_18 rfl rfl ?_
      refine s_callV (ci := 6) (a := 0) (As := []) (S := [.int (iZ (k : Int)), .ref 2]) dX6_ready_19 okX6_rule mlX6_125 rfl (by omega) rfl (Nat.le_of_ble_eq_true rfl) (show kd 0 = 6 from rfl) (by decide) rfl (x_rule (d := d - 1) (by omega) σ1 hc hn4 ok oi C1) (fun v_ σ_ hq => ?_)
      obtain ⟨rfl, e9⟩ := hq
      have e9 := e9.symm
      subst e9
      show sE g_tt _ _ _ 22 [some (.ref 0), some (.int (iZ ((mBs (fun h => wA W A h + 2 ≤ A (11 + h)) k : Nat) : Int))), some (.int (iZ (k : Int)))] [.ref (txp (A 2)), .int (iZ (k : Int)), .ref 2] σ1
      refine s_callV (ci := 2) (a := 2) (As := [.int (iZ (k : Int)), .ref (txp (A 2))]) (S := []) dX6_ready_22 okX2_isReady mlX6_129 rfl (by omega) rfl (Nat.le_of_ble_eq_true rfl) (show kd 2 = 2 from rfl) (by decide) rfl (t_isReady (d := d - 1) (s := 2) (h := k) (by omega) (by omega) rfl σ1 (C1.2.2.1 (A 2) a2.1 a2.2) A gL C1.1.1) (fun v_ σ_ hq => ?_)
      obtain ⟨rfl, hc2⟩ := hq
      rename gS => σ2
      have s2 := chg_tr s1 (chg_mono hc2 (fun a q => stk_scr q))
      have C2 := clR_ch ok oi C s2
      show sE g_tt _ _ _ 25 [some (.ref 0), some (.int (iZ ((mBs (fun h => wA W A h + 2 ≤ A (11 + h)) k : Nat) : Int))), some (.int (iZ (k : Int)))] [.int (iZ (if W (A 2) A k + 2 ≤ A (11 + k) then 1 else 0))] σ2
      refine z_if_eq (tgt := 34) dX6_ready_25 (by decide) inR_01 (fun c_2 => ?_) (fun c_2 => ?_)
      · have c_2 := if01_0 c_2
        refine z_iinc dX6_ready_34 rfl (by decide) ?_
        show sE g_tt _ _ _ 37 [some (.ref 0), some (.int (iZ ((mBs (fun h => wA W A h + 2 ≤ A (11 + h)) k : Nat) : Int))), some (.int (iZ ((k : Int) + 1)))] [] σ2
        refine q_goto (tgt := 4) dX6_ready_37 (by decide) ?_
        have e : ((mBs (fun h => wA W A h + 2 ≤ A (11 + h)) (k + 1) : Nat) : Int) = ((mBs (fun h => wA W A h + 2 ≤ A (11 + h)) k : Nat) : Int) := by rw [mBs_n c_2]; simp
        have k9 := ih (k + 1) σ2 (by omega) s2 (by omega)
        rw [e] at k9
        exact k9
      · have c_2 := if01_1 c_2
        refine q_iload_n dX6_ready_28 rfl rfl ?_
        refine z_iconst dX6_ready_29 ?_
        refine q_iload_n dX6_ready_30 rfl rfl ?_
        refine z_ishl (x := 1) (k := k) dX6_ready_31 (by omega) ?_
        refine z_top (y := ((2 ^ k : Nat) : Int)) (by simp) ?_
        refine z_ior (m := mBs (fun h => wA W A h + 2 ≤ A (11 + h)) k) (k := 2 ^ k) dX6_ready_32 ?_
        refine q_istore_n dX6_ready_33 rfl (by decide) ?_
        show sE g_tt _ _ _ 34 [some (.ref 0), some (.int (iZ (((mBs (fun h => wA W A h + 2 ≤ A (11 + h)) k) ||| (2 ^ k) : Nat) : Int))), some (.int (iZ (k : Int)))] [] σ2
        refine z_iinc dX6_ready_34 rfl (by decide) ?_
        show sE g_tt _ _ _ 37 [some (.ref 0), some (.int (iZ (((mBs (fun h => wA W A h + 2 ≤ A (11 + h)) k) ||| (2 ^ k) : Nat) : Int))), some (.int (iZ ((k : Int) + 1)))] [] σ2
        refine q_goto (tgt := 4) dX6_ready_37 (by decide) ?_
        have e : ((mBs (fun h => wA W A h + 2 ≤ A (11 + h)) (k + 1) : Nat) : Int) = (((mBs (fun h => wA W A h + 2 ≤ A (11 + h)) k) ||| (2 ^ k) : Nat) : Int) := by rw [mBs_y c_2]
        have k9 := ih (k + 1) σ2 (by omega) s2 (by omega)
        rw [e] at k9
        exact k9
set_option maxHeartbeats 4000000 in
set_option maxRecDepth 100000 in
theorem x_ready {d : Nat} (hd : 5 ≤ d) (σ : gS) {W V : wF} {A I : Nat → Int} {c nt : Int} (hc : c ≤ 88000) (hn4 : nt ≤ 4) (ok : okR c nt A) (oi : okR c (I 1) I) (C : clR σ W V A I) : sC mX6_ready d [.ref 0] σ (fun r σ' => r = some (.int (iZ (((mRset W A : Nat) : Int)))) ∧ chg scrQ σ σ') := by
  refine sC_of rfl (Nat.le_of_ble_eq_true rfl) ?_
  show sE g_tt _ _ _ 0 [some (.ref 0), none, none] [] σ
  refine z_iconst dX6_ready_0 ?_
  refine q_istore_n dX6_ready_1 rfl (by decide) ?_
  show sE g_tt _ _ _ 2 [some (.ref 0), some (.int (iZ 0)), none] [] σ
  refine z_iconst dX6_ready_2 ?_
  refine q_istore_n dX6_ready_3 rfl (by decide) ?_
  show sE g_tt _ _ _ 4 [some (.ref 0), some (.int (iZ 0)), some (.int (iZ 0))] [] σ
  exact lx_ready hd σ hc hn4 ok oi C 9 0 σ (by omega) (chg_rf _ _) (by omega)
set_option maxHeartbeats 4000000 in
set_option maxRecDepth 100000 in
theorem x_of {d h : Nat} (hd : 5 ≤ d) (hh : h < 8) {n : Int} (hn : inR n) (σ : gS) {W V : wF} {A I : Nat → Int} {c nt : Int} (hc : c ≤ 88000) (hn4 : nt ≤ 4) (ok : okR c nt A) (oi : okR c (I 1) I) (C : clR σ W V A I) : sC mX6_of d [.ref 0, .int (iZ (h : Int)), .int (iZ n)] σ (fun r σ' => r = some (.int (iZ (mOf W V A h n))) ∧ chg scrQ σ σ') := by
  have g := ok_gd hc hn4 ok
  have g0 := g.1
  have n1 := ok.2.2.1
  have a2 := ok_2 ok
  have g10 := g.2.2.2.2.1
  have n0 : 0 ≤ A 1 := by omega
  have gL : gd 100000 4 A := gd_mono g (by decide)
  refine sC_of rfl (Nat.le_of_ble_eq_true rfl) ?_
  show sE g_tt _ _ _ 0 [some (.ref 0), some (.int (iZ (h : Int))), some (.int (iZ n)), none] [] σ
  refine q_iload_n dX6_of_0 rfl rfl ?_
  refine s_callS (As := [.int (iZ (h : Int))]) (S := []) dX6_of_1 okX6_isHouse mlX6_68 rfl (by omega) rfl (Nat.le_of_ble_eq_true rfl) (c_isHouse (d := d - 1) (z := (h : Int)) (by unfold inR at *; omega) σ) (fun v_ σ_ hq => ?_)
  obtain ⟨rfl, e9⟩ := hq
  have e9 := e9.symm
  subst e9
  show sE g_tt _ _ _ 4 [some (.ref 0), some (.int (iZ (h : Int))), some (.int (iZ n)), none] [.int (iZ (if 0 ≤ (h : Int) ∧ (h : Int) < 8 then 1 else 0))] σ
  refine z_if_ne (tgt := 9) dX6_of_4 (by decide) inR_01 (fun c_1 => ?_) (fun c_1 => ?_)
  · have c_1 := if01_1 c_1
    refine q_aload_n dX6_of_9 rfl rfl ?_
    refine sg6 (kf := 0) (v := .ref 1) dX6_of_10 flX6_10 (show kd 0 = 6 from rfl) (by decide) rfl ?_
    refine sg5 (kf := 0) (v := .ref 2) dX6_of_13 flX6_72 (show kd 1 = 5 from rfl) (by decide) rfl ?_
    refine q_astore_n dX6_of_16 rfl (by decide) ?_
    show sE g_tt _ _ _ 17 [some (.ref 0), some (.int (iZ (h : Int))), some (.int (iZ n)), some (.ref 2)] [] σ
    refine q_iload_n dX6_of_17 rfl rfl ?_
    by_cases s_2 : n = 0
    · refine z_top s_2 ?_
      refine q_tableIn (tgt := 52) (off := 34) dX6_of_18 (by decide +kernel) (by decide +kernel) (by decide +kernel) (by decide) ?_
      refine q_aload_n dX6_of_52 rfl rfl ?_
      refine sg2 (kf := 0) (v := .ref 3) dX6_of_53 flX6_122 (show kd 2 = 2 from rfl) (by decide) rfl ?_
      refine q_iload_n dX6_of_56 rfl rfl ?_
      refine s_iald (n := 8) (x := A (11 + h)) dX6_of_57 (show kd 3 = 100 + 8 from rfl) (by omega) (by omega) (by decide) (C.1.1.1 h (by omega)) ?_
      exact s_iretZ dX6_of_58 rfl ⟨by unfold mOf; first | ((repeat (first | rw [if_pos (by omega)] | rw [if_neg (by omega)])); (try rfl); done) | (exfalso; omega), chg_rf _ _⟩
    by_cases s_3 : n = 1
    · refine z_top s_3 ?_
      refine q_tableIn (tgt := 59) (off := 41) dX6_of_18 (by decide +kernel) (by decide +kernel) (by decide +kernel) (by decide) ?_
      refine q_aload_n dX6_of_59 rfl rfl ?_
      refine q_iload_n dX6_of_60 rfl rfl ?_
      refine s_callV (ci := 2) (a := 2) (As := [.int (iZ (h : Int))]) (S := []) dX6_of_61 okX2_peopleIn mlX6_179 rfl (by omega) rfl (Nat.le_of_ble_eq_true rfl) (show kd 2 = 2 from rfl) (by decide) rfl (t_peopleIn (d := d - 1) (s := 2) rfl σ (z := (h : Int)) (by unfold inR; omega) g C.1.1) (fun v_ σ_ hq => ?_)
      obtain ⟨rfl, e9⟩ := hq
      have e9 := e9.symm
      subst e9
      show sE g_tt _ _ _ 64 [some (.ref 0), some (.int (iZ (h : Int))), some (.int (iZ n)), some (.ref 2)] [.int (iZ ((mPeo A (h : Int) (A 0).toNat : Nat) : Int))] σ
      exact s_iretZ dX6_of_64 rfl ⟨by unfold mOf; first | ((repeat (first | rw [if_pos (by omega)] | rw [if_neg (by omega)])); (try rfl); done) | (exfalso; omega), chg_rf _ _⟩
    by_cases s_4 : n = 2
    · refine z_top s_4 ?_
      refine q_tableIn (tgt := 65) (off := 47) dX6_of_18 (by decide +kernel) (by decide +kernel) (by decide +kernel) (by decide) ?_
      refine q_aload_n dX6_of_65 rfl rfl ?_
      refine s_callV (ci := 6) (a := 0) (As := []) (S := []) dX6_of_66 okX6_rule mlX6_125 rfl (by omega) rfl (Nat.le_of_ble_eq_true rfl) (show kd 0 = 6 from rfl) (by decide) rfl (x_rule (d := d - 1) (by omega) σ hc hn4 ok oi C) (fun v_ σ_ hq => ?_)
      obtain ⟨rfl, e9⟩ := hq
      have e9 := e9.symm
      subst e9
      show sE g_tt _ _ _ 69 [some (.ref 0), some (.int (iZ (h : Int))), some (.int (iZ n)), some (.ref 2)] [.ref (txp (A 2))] σ
      refine z_iconst dX6_of_69 ?_
      refine q_aload_n dX6_of_70 rfl rfl ?_
      refine q_iload_n dX6_of_71 rfl rfl ?_
      refine s_callV (ci := 4) (a := (txp (A 2))) (As := [.int (iZ 1), .ref 2, .int (iZ (h : Int))]) (S := []) dX6_of_72 okX4_worth mlX6_183 rfl (by omega) rfl (Nat.le_of_ble_eq_true rfl) (C.2.2.1 (A 2) a2.1 a2.2).1.1 (by decide) rfl (t_worth1 (d := d - 1) (s := 2) (h := h) (by omega) hh rfl σ (C.2.2.1 (A 2) a2.1 a2.2) A gL C.1.1) (fun v_ σ_ hq => ?_)
      obtain ⟨rfl, hc2⟩ := hq
      rename gS => σ2
      show sE g_tt _ _ _ 75 [some (.ref 0), some (.int (iZ (h : Int))), some (.int (iZ n)), some (.ref 2)] [.int (iZ (W (A 2) A h))] σ2
      exact s_iretZ dX6_of_75 rfl ⟨by unfold mOf; first | ((repeat (first | rw [if_pos (by omega)] | rw [if_neg (by omega)])); (try rfl); done) | (exfalso; omega), chg_mono hc2 (fun a q => stk_scr q)⟩
    by_cases s_5 : n = 3
    · refine z_top s_5 ?_
      refine q_tableIn (tgt := 76) (off := 58) dX6_of_18 (by decide +kernel) (by decide +kernel) (by decide +kernel) (by decide) ?_
      refine q_aload_n dX6_of_76 rfl rfl ?_
      refine s_callV (ci := 6) (a := 0) (As := []) (S := []) dX6_of_77 okX6_rule mlX6_125 rfl (by omega) rfl (Nat.le_of_ble_eq_true rfl) (show kd 0 = 6 from rfl) (by decide) rfl (x_rule (d := d - 1) (by omega) σ hc hn4 ok oi C) (fun v_ σ_ hq => ?_)
      obtain ⟨rfl, e9⟩ := hq
      have e9 := e9.symm
      subst e9
      show sE g_tt _ _ _ 80 [some (.ref 0), some (.int (iZ (h : Int))), some (.int (iZ n)), some (.ref 2)] [.ref (txp (A 2))] σ
      refine z_iconst dX6_of_80 ?_
      refine q_aload_n dX6_of_81 rfl rfl ?_
      refine q_iload_n dX6_of_82 rfl rfl ?_
      refine s_callV (ci := 4) (a := (txp (A 2))) (As := [.int (iZ 0), .ref 2, .int (iZ (h : Int))]) (S := []) dX6_of_83 okX4_worth mlX6_183 rfl (by omega) rfl (Nat.le_of_ble_eq_true rfl) (C.2.2.1 (A 2) a2.1 a2.2).1.1 (by decide) rfl (t_worth0 (d := d - 1) (s := 2) (h := h) (by omega) hh rfl σ (C.2.2.1 (A 2) a2.1 a2.2) A gL C.1.1) (fun v_ σ_ hq => ?_)
      obtain ⟨rfl, hc2⟩ := hq
      rename gS => σ2
      show sE g_tt _ _ _ 86 [some (.ref 0), some (.int (iZ (h : Int))), some (.int (iZ n)), some (.ref 2)] [.int (iZ (V (A 2) A h))] σ2
      exact s_iretZ dX6_of_86 rfl ⟨by unfold mOf; first | ((repeat (first | rw [if_pos (by omega)] | rw [if_neg (by omega)])); (try rfl); done) | (exfalso; omega), chg_mono hc2 (fun a q => stk_scr q)⟩
    by_cases s_6 : n = 4
    · refine z_top s_6 ?_
      refine q_tableIn (tgt := 87) (off := 69) dX6_of_18 (by decide +kernel) (by decide +kernel) (by decide +kernel) (by decide) ?_
      refine q_aload_n dX6_of_87 rfl rfl ?_
      refine q_iload_n dX6_of_88 rfl rfl ?_
      refine q_aload_n dX6_of_89 rfl rfl ?_
      refine s_callV (ci := 6) (a := 0) (As := []) (S := [.int (iZ (h : Int)), .ref 2]) dX6_of_90 okX6_rule mlX6_125 rfl (by omega) rfl (Nat.le_of_ble_eq_true rfl) (show kd 0 = 6 from rfl) (by decide) rfl (x_rule (d := d - 1) (by omega) σ hc hn4 ok oi C) (fun v_ σ_ hq => ?_)
      obtain ⟨rfl, e9⟩ := hq
      have e9 := e9.symm
      subst e9
      show sE g_tt _ _ _ 93 [some (.ref 0), some (.int (iZ (h : Int))), some (.int (iZ n)), some (.ref 2)] [.ref (txp (A 2)), .int (iZ (h : Int)), .ref 2] σ
      refine s_callV (ci := 2) (a := 2) (As := [.int (iZ (h : Int)), .ref (txp (A 2))]) (S := []) dX6_of_93 okX2_isReady mlX6_129 rfl (by omega) rfl (Nat.le_of_ble_eq_true rfl) (show kd 2 = 2 from rfl) (by decide) rfl (t_isReady (d := d - 1) (s := 2) (h := h) (by omega) hh rfl σ (C.2.2.1 (A 2) a2.1 a2.2) A gL C.1.1) (fun v_ σ_ hq => ?_)
      obtain ⟨rfl, hc2⟩ := hq
      rename gS => σ2
      show sE g_tt _ _ _ 96 [some (.ref 0), some (.int (iZ (h : Int))), some (.int (iZ n)), some (.ref 2)] [.int (iZ (if W (A 2) A h + 2 ≤ A (11 + h) then 1 else 0))] σ2
      refine z_if_eq (tgt := 103) dX6_of_96 (by decide) inR_01 (fun c_7 => ?_) (fun c_7 => ?_)
      · have c_7 := if01_0 c_7
        refine z_iconst dX6_of_103 ?_
        exact s_iretZ dX6_of_104 rfl ⟨by unfold mOf; first | ((repeat (first | rw [if_pos (by omega)] | rw [if_neg (by omega)])); (try rfl); done) | (exfalso; omega), chg_mono hc2 (fun a q => stk_scr q)⟩
      · have c_7 := if01_1 c_7
        refine z_iconst dX6_of_99 ?_
        refine q_goto (tgt := 104) dX6_of_100 (by decide) ?_
        exact s_iretZ dX6_of_104 rfl ⟨by unfold mOf; first | ((repeat (first | rw [if_pos (by omega)] | rw [if_neg (by omega)])); (try rfl); done) | (exfalso; omega), chg_mono hc2 (fun a q => stk_scr q)⟩
    refine q_tableOut (tgt := 105) dX6_of_18 (by rw [iZ_toInt (by unfold inR at *; omega)]; omega) (by decide) ?_
    refine z_iconst dX6_of_105 ?_
    exact s_iretZ dX6_of_106 rfl ⟨by unfold mOf; first | ((repeat (first | rw [if_pos (by omega)] | rw [if_neg (by omega)])); (try rfl); done) | (exfalso; omega), chg_rf _ _⟩
  · have c_1 := if01_0 c_1
    exfalso
    omega
set_option maxHeartbeats 4000000 in
set_option maxRecDepth 100000 in
theorem x_of0 {d : Nat} (hd : 1 ≤ d) {h n : Int} (hh : inR h) (hno : ¬ (0 ≤ h ∧ h < 8)) (σ : gS) : sC mX6_of d [.ref 0, .int (iZ h), .int (iZ n)] σ (fun r σ' => r = some (.int (iZ (-1))) ∧ σ' = σ) := by
  refine sC_of rfl (Nat.le_of_ble_eq_true rfl) ?_
  show sE g_tt _ _ _ 0 [some (.ref 0), some (.int (iZ h)), some (.int (iZ n)), none] [] σ
  refine q_iload_n dX6_of_0 rfl rfl ?_
  refine s_callS (As := [.int (iZ h)]) (S := []) dX6_of_1 okX6_isHouse mlX6_68 rfl (by omega) rfl (Nat.le_of_ble_eq_true rfl) (c_isHouse (d := d - 1) (z := h) (by unfold inR at *; omega) σ) (fun v_ σ_ hq => ?_)
  obtain ⟨rfl, e9⟩ := hq
  have e9 := e9.symm
  subst e9
  show sE g_tt _ _ _ 4 [some (.ref 0), some (.int (iZ h)), some (.int (iZ n)), none] [.int (iZ (if 0 ≤ h ∧ h < 8 then 1 else 0))] σ
  refine z_if_ne (tgt := 9) dX6_of_4 (by decide) inR_01 (fun c_1 => ?_) (fun c_1 => ?_)
  · have c_1 := if01_1 c_1
    exfalso
    omega
  · have c_1 := if01_0 c_1
    refine z_iconst dX6_of_7 ?_
    exact s_iretZ dX6_of_8 rfl ⟨rfl, rfl⟩
theorem mAl_stop (W : wF) (t : Nat) (A : Nat → Int) {k : Nat} (h : mAl W t A k = 0) : ∀ n, k ≤ n → mAl W t A n = 0 := by
  intro n
  induction n with
  | zero => intro q; rw [show (0 : Nat) = k by omega]; exact h
  | succ n ih =>
    intro q
    by_cases e : k = n + 1
    · rw [← e]; exact h
    · rw [mAl, if_pos (ih (by omega))]
set_option maxHeartbeats 4000000 in
set_option maxRecDepth 100000 in
theorem lx_allSaid {d t : Nat} (hd : 4 ≤ d) (σ : gS) {W V : wF} {A I : Nat → Int} {c nt : Int} (hc : c ≤ 88000) (hn4 : nt ≤ 4) (ok : okR c nt A) (oi : okR c (I 1) I) (C : clR σ W V A I) (ht : (t : Int) < A 1) : ∀ (n : Nat) (k : Nat) (σ1 : gS), (k : Int) ≤ A 4 → chg scrQ σ σ1 → mAl W t A k = 1 → A 4 - (k : Int) < (n : Int) → sE g_tt mX6_allSaidHolds d (fun r σ' => r = some (.int (iZ (mAl W t A (A 4).toNat))) ∧ chg scrQ σ σ') 2 [some (.ref 0), some (.ref (txp (t : Int))), some (.int (iZ (k : Int)))] [] σ1 := by
  intro n
  induction n with
  | zero =>
    intro k σ1 hk s1 hm hn
    exact absurd hn (by omega)
  | succ n ih =>
    intro k σ1 hk s1 hm hn
    have g := ok_gd hc hn4 ok
    have g0 := g.1
    have n1 := ok.2.2.1
    have a2 := ok_2 ok
    have g10 := g.2.2.2.2.1
    have n0 : 0 ≤ A 1 := by omega
    have gL : gd 100000 4 A := gd_mono g (by decide)
    have C1 := clR_ch ok oi C s1
    have i8 := ok.2.2.2.2.1
    by_cases hkn : (k : Int) < A 4
    · have sd := ok.2.2.2.2.2.2.1 k hkn
      obtain ⟨hj, ej⟩ : ∃ hj : Nat, A (37 + 2 * k) = (hj : Int) := ⟨(A (37 + 2 * k)).toNat, by omega⟩
      refine q_iload_n dX6_allSaidHolds_2 rfl rfl ?_
      refine q_aload_n dX6_allSaidHolds_3 rfl rfl ?_
      refine sg6 (kf := 0) (v := .ref 1) dX6_allSaidHolds_4 flX6_10 (show kd 0 = 6 from rfl) (by decide) rfl ?_
      refine sg5 (kf := 6) (v := .int (iZ (A 4))) dX6_allSaidHolds_7 flX6_297 (show kd 1 = 5 from rfl) (by decide) (by show some (Value.int (iZ (σ1.1 1 6))) = _; rw [C1.1.2.1.2.1]) ?_
      refine z_icmp_ge (tgt := 60) dX6_allSaidHolds_10 (by decide) (by unfold inR at *; omega) (by unfold inR at *; omega) (fun c_1 => ?_) (fun c_1 => ?_)
      · exfalso
        omega
      · refine q_iload_n dX6_allSaidHolds_13 rfl rfl ?_
        refine z_bipush dX6_allSaidHolds_14 (by decide +kernel) ?_
        refine z_icmp_ge (tgt := 60) dX6_allSaidHolds_16 (by decide) (by unfold inR at *; omega) (by unfold inR at *; omega) (fun c_2 => ?_) (fun c_2 => ?_)
        · exfalso
          omega
        · refine q_aload_n dX6_allSaidHolds_19 rfl rfl ?_
          refine z_iconst dX6_allSaidHolds_20 ?_
          refine q_aload_n dX6_allSaidHolds_21 rfl rfl ?_
          refine sg6 (kf := 0) (v := .ref 1) dX6_allSaidHolds_22 flX6_10 (show kd 0 = 6 from rfl) (by decide) rfl ?_
          refine sg5 (kf := 0) (v := .ref 2) dX6_allSaidHolds_25 flX6_72 (show kd 1 = 5 from rfl) (by decide) rfl ?_
          refine q_aload_n dX6_allSaidHolds_28 rfl rfl ?_
          refine sg6 (kf := 0) (v := .ref 1) dX6_allSaidHolds_29 flX6_10 (show kd 0 = 6 from rfl) (by decide) rfl ?_
          refine sg5 (kf := 4) (v := .ref 9) dX6_allSaidHolds_32 flX6_300 (show kd 1 = 5 from rfl) (by decide) rfl ?_
          refine q_iload_n dX6_allSaidHolds_35 rfl rfl ?_
          refine s_iald (n := 8) (x := (hj : Int)) dX6_allSaidHolds_36 (show kd 9 = 100 + 8 from rfl) (by omega) (by omega) (by decide) (by show σ1.2.1 9 k = _; rw [(C1.1.2.2.2.1 k (by omega)).1, ej]) ?_
          refine s_callV (ci := 4) (a := (txp (t : Int))) (As := [.int (iZ 1), .ref 2, .int (iZ (hj : Int))]) (S := []) dX6_allSaidHolds_37 okX4_worth mlX6_183 rfl (by omega) rfl (Nat.le_of_ble_eq_true rfl) (C1.2.2.1 (t : Int) (by omega) ht).1.1 (by decide) rfl (t_worth1 (d := d - 1) (s := 2) (h := hj) (by omega) (by omega) rfl σ1 (t := (t : Int)) (C1.2.2.1 (t : Int) (by omega) ht) A gL C1.1.1) (fun v_ σ_ hq => ?_)
          obtain ⟨rfl, hc2⟩ := hq
          rename gS => σ2
          have s2 := chg_tr s1 (chg_mono hc2 (fun a q => stk_scr q))
          have C2 := clR_ch ok oi C s2
          have ww := (C1.2.2.1 (t : Int) (by omega) ht).2.2.2.1 A hj gL (by omega)
          show sE g_tt _ _ _ 40 [some (.ref 0), some (.ref (txp (t : Int))), some (.int (iZ (k : Int)))] [.int (iZ (W (t : Int) A hj))] σ2
          refine q_aload_n dX6_allSaidHolds_40 rfl rfl ?_
          refine sg6 (kf := 0) (v := .ref 1) dX6_allSaidHolds_41 flX6_10 (show kd 0 = 6 from rfl) (by decide) rfl ?_
          refine sg5 (kf := 5) (v := .ref 10) dX6_allSaidHolds_44 flX6_303 (show kd 1 = 5 from rfl) (by decide) rfl ?_
          refine q_iload_n dX6_allSaidHolds_47 rfl rfl ?_
          refine s_iald (n := 8) (x := A (37 + 2 * k + 1)) dX6_allSaidHolds_48 (show kd 10 = 100 + 8 from rfl) (by omega) (by omega) (by decide) (C2.1.2.2.2.1 k (by omega)).2 ?_
          refine z_icmp_eq (tgt := 54) dX6_allSaidHolds_49 (by decide) (by unfold inR; omega) (by unfold inR at *; omega) (fun c_3 => ?_) (fun c_3 => ?_)
          · refine z_iinc dX6_allSaidHolds_54 rfl (by decide) ?_
            show sE g_tt _ _ _ 57 [some (.ref 0), some (.ref (txp (t : Int))), some (.int (iZ ((k : Int) + 1)))] [] σ2
            refine q_goto (tgt := 2) dX6_allSaidHolds_57 (by decide) ?_
            exact ih (k + 1) σ2 (by omega) s2 (by rw [mAl, if_neg (by omega), ej, Int.toNat_natCast, if_pos c_3]) (by omega)
          · refine z_iconst dX6_allSaidHolds_52 ?_
            exact s_zret dX6_allSaidHolds_53 rfl (by omega) ⟨by rw [mAl_stop W t A (k := k + 1) (by rw [mAl, if_neg (by omega), ej, Int.toNat_natCast, if_neg c_3]) _ (by omega)], s2⟩
    · refine q_iload_n dX6_allSaidHolds_2 rfl rfl ?_
      refine q_aload_n dX6_allSaidHolds_3 rfl rfl ?_
      refine sg6 (kf := 0) (v := .ref 1) dX6_allSaidHolds_4 flX6_10 (show kd 0 = 6 from rfl) (by decide) rfl ?_
      refine sg5 (kf := 6) (v := .int (iZ (A 4))) dX6_allSaidHolds_7 flX6_297 (show kd 1 = 5 from rfl) (by decide) (by show some (Value.int (iZ (σ1.1 1 6))) = _; rw [C1.1.2.1.2.1]) ?_
      refine z_icmp_ge (tgt := 60) dX6_allSaidHolds_10 (by decide) (by unfold inR at *; omega) (by unfold inR at *; omega) (fun c_1 => ?_) (fun c_1 => ?_)
      · refine z_iconst dX6_allSaidHolds_60 ?_
        exact s_zret dX6_allSaidHolds_61 rfl (by omega) ⟨by rw [show (A 4).toNat = k by omega, hm], s1⟩
      · refine q_iload_n dX6_allSaidHolds_13 rfl rfl ?_
        refine z_bipush dX6_allSaidHolds_14 (by decide +kernel) ?_
        refine z_icmp_ge (tgt := 60) dX6_allSaidHolds_16 (by decide) (by unfold inR at *; omega) (by unfold inR at *; omega) (fun c_2 => ?_) (fun c_2 => ?_)
        · refine z_iconst dX6_allSaidHolds_60 ?_
          exact s_zret dX6_allSaidHolds_61 rfl (by omega) ⟨by rw [show (A 4).toNat = k by omega, hm], s1⟩
        · exfalso
          omega
set_option maxHeartbeats 4000000 in
set_option maxRecDepth 100000 in
theorem x_allSaid {d t : Nat} (hd : 4 ≤ d) (σ : gS) {W V : wF} {A I : Nat → Int} {c nt : Int} (hc : c ≤ 88000) (hn4 : nt ≤ 4) (ok : okR c nt A) (oi : okR c (I 1) I) (C : clR σ W V A I) (ht : (t : Int) < A 1) : sC mX6_allSaidHolds d [.ref 0, .ref (txp (t : Int))] σ (fun r σ' => r = some (.int (iZ (mAl W t A (A 4).toNat))) ∧ chg scrQ σ σ') := by
  refine sC_of rfl (Nat.le_of_ble_eq_true rfl) ?_
  show sE g_tt _ _ _ 0 [some (.ref 0), some (.ref (txp (t : Int))), none] [] σ
  refine z_iconst dX6_allSaidHolds_0 ?_
  refine q_istore_n dX6_allSaidHolds_1 rfl (by decide) ?_
  show sE g_tt _ _ _ 2 [some (.ref 0), some (.ref (txp (t : Int))), some (.int (iZ 0))] [] σ
  exact lx_allSaid hd σ hc hn4 ok oi C ht 9 0 σ (by have := ok.2.2.2.2.1; omega) (chg_rf _ _) rfl (by have := ok.2.2.2.2.1; omega)
theorem x_allSaidT {d t : Nat} (hd : 4 ≤ d) (σ : gS) {W V : wF} {A I : Nat → Int} {c nt : Int} (hc : c ≤ 88000) (hn4 : nt ≤ 4) (ok : okR c nt A) (oi : okR c (I 1) I) (C : clR σ W V A I) (ht : (t : Int) < A 1) : sC mX6_allSaidHolds d [.ref 0, .ref (340 + 6 * t)] σ (fun r σ' => r = some (.int (iZ (mAl W t A (A 4).toNat))) ∧ chg scrQ σ σ') := by
  have q := x_allSaid hd σ hc hn4 ok oi C ht
  rw [show txp (t : Int) = 340 + 6 * t by unfold txp; rw [if_neg (by omega), Int.toNat_natCast]] at q
  exact q
set_option maxHeartbeats 4000000 in
set_option maxRecDepth 100000 in
theorem lx_whose {d : Nat} (hd : 5 ≤ d) (σ : gS) {W V : wF} {A I : Nat → Int} {c nt : Int} (hc : c ≤ 88000) (hn4 : nt ≤ 4) (ok : okR c nt A) (oi : okR c (I 1) I) (C : clR σ W V A I) : ∀ (n : Nat) (k : Nat) (σ1 : gS), (k : Int) ≤ A 1 → chg scrQ σ σ1 → A 1 - (k : Int) < (n : Int) → sE g_tt mX6_whose d (fun r σ' => r = some (.int (iZ (((mWho W A (A 1).toNat : Nat) : Int)))) ∧ chg scrQ σ σ') 4 [some (.ref 0), some (.int (iZ ((mBs (fun t => mAl W t A (A 4).toNat ≠ 0) k : Nat) : Int))), some (.int (iZ (k : Int)))] [] σ1 := by
  intro n
  induction n with
  | zero =>
    intro k σ1 hk s1 hn
    exact absurd hn (by omega)
  | succ n ih =>
    intro k σ1 hk s1 hn
    have g := ok_gd hc hn4 ok
    have g0 := g.1
    have n1 := ok.2.2.1
    have a2 := ok_2 ok
    have g10 := g.2.2.2.2.1
    have n0 : 0 ≤ A 1 := by omega
    have gL : gd 100000 4 A := gd_mono g (by decide)
    have C1 := clR_ch ok oi C s1
    refine q_iload_n dX6_whose_4 rfl rfl ?_
    refine q_aload_n dX6_whose_5 rfl rfl ?_
    refine sg6 (kf := 0) (v := .ref 1) dX6_whose_6 flX6_10 (show kd 0 = 6 from rfl) (by decide) rfl ?_
    refine sg5 (kf := 7) (v := .int (iZ (A 1))) dX6_whose_9 flX6_94 (show kd 1 = 5 from rfl) (by decide) (by show some (Value.int (iZ (σ1.1 1 7))) = _; rw [C1.1.2.1.2.2.1]) ?_
    refine z_icmp_ge (tgt := 45) dX6_whose_12 (by decide) (by unfold inR at *; omega) (by unfold inR at *; omega) (fun c_1 => ?_) (fun c_1 => ?_)
    · refine q_iload_n dX6_whose_45 rfl rfl ?_
      exact s_iretZ dX6_whose_46 rfl ⟨by unfold mWho; rw [show (A 1).toNat = k by omega], s1⟩
    · refine q_iload_n dX6_whose_15 rfl rfl ?_
      refine z_iconst dX6_whose_16 ?_
      refine z_icmp_ge (tgt := 45) dX6_whose_17 (by decide) (by unfold inR at *; omega) (by unfold inR at *; omega) (fun c_2 => ?_) (fun c_2 => ?_)
      · refine q_iload_n dX6_whose_45 rfl rfl ?_
        exact s_iretZ dX6_whose_46 rfl ⟨by unfold mWho; rw [show (A 1).toNat = k by omega], s1⟩
      · refine q_aload_n dX6_whose_20 rfl rfl ?_
        refine q_aload_n dX6_whose_21 rfl rfl ?_
        refine sg6 (kf := 2) (v := .ref 321) dX6_whose_22 flX6_21 (show kd 0 = 6 from rfl) (by decide) rfl ?_
        refine q_iload_n dX6_whose_25 rfl rfl ?_
        refine s_aaldT (n := 4) (x := (340 + 6 * k)) dX6_whose_26 (show kd 321 = 400000 + 4 from rfl) (by omega) (by omega) (by decide) (C1.2.2.2.1 k (by omega)) ?_
        refine s_callV (ci := 6) (a := 0) (As := [.ref (340 + 6 * k)]) (S := []) dX6_whose_27 okX6_allSaidHolds mlX6_306 rfl (by omega) rfl (Nat.le_of_ble_eq_true rfl) (show kd 0 = 6 from rfl) (by decide) rfl (x_allSaidT (d := d - 1) (t := k) (by omega) σ1 hc hn4 ok oi C1 (by omega)) (fun v_ σ_ hq => ?_)
        obtain ⟨rfl, hc2⟩ := hq
        rename gS => σ2
        have s2 := chg_tr s1 hc2
        have C2 := clR_ch ok oi C s2
        have m01 := mAl_01 W k A (A 4).toNat
        show sE g_tt _ _ _ 30 [some (.ref 0), some (.int (iZ ((mBs (fun t => mAl W t A (A 4).toNat ≠ 0) k : Nat) : Int))), some (.int (iZ (k : Int)))] [.int (iZ (mAl W k A (A 4).toNat))] σ2
        refine z_if_eq (tgt := 39) dX6_whose_30 (by decide) (by unfold inR; omega) (fun c_3 => ?_) (fun c_3 => ?_)
        · refine z_iinc dX6_whose_39 rfl (by decide) ?_
          show sE g_tt _ _ _ 42 [some (.ref 0), some (.int (iZ ((mBs (fun t => mAl W t A (A 4).toNat ≠ 0) k : Nat) : Int))), some (.int (iZ ((k : Int) + 1)))] [] σ2
          refine q_goto (tgt := 4) dX6_whose_42 (by decide) ?_
          have e : ((mBs (fun t => mAl W t A (A 4).toNat ≠ 0) (k + 1) : Nat) : Int) = ((mBs (fun t => mAl W t A (A 4).toNat ≠ 0) k : Nat) : Int) := by rw [mBs_n (by omega)]; simp
          have k9 := ih (k + 1) σ2 (by omega) s2 (by omega)
          rw [e] at k9
          exact k9
        · refine q_iload_n dX6_whose_33 rfl rfl ?_
          refine z_iconst dX6_whose_34 ?_
          refine q_iload_n dX6_whose_35 rfl rfl ?_
          refine z_ishl (x := 1) (k := k) dX6_whose_36 (by omega) ?_
          refine z_top (y := ((2 ^ k : Nat) : Int)) (by simp) ?_
          refine z_ior (m := mBs (fun t => mAl W t A (A 4).toNat ≠ 0) k) (k := 2 ^ k) dX6_whose_37 ?_
          refine q_istore_n dX6_whose_38 rfl (by decide) ?_
          show sE g_tt _ _ _ 39 [some (.ref 0), some (.int (iZ (((mBs (fun t => mAl W t A (A 4).toNat ≠ 0) k) ||| (2 ^ k) : Nat) : Int))), some (.int (iZ (k : Int)))] [] σ2
          refine z_iinc dX6_whose_39 rfl (by decide) ?_
          show sE g_tt _ _ _ 42 [some (.ref 0), some (.int (iZ (((mBs (fun t => mAl W t A (A 4).toNat ≠ 0) k) ||| (2 ^ k) : Nat) : Int))), some (.int (iZ ((k : Int) + 1)))] [] σ2
          refine q_goto (tgt := 4) dX6_whose_42 (by decide) ?_
          have e : ((mBs (fun t => mAl W t A (A 4).toNat ≠ 0) (k + 1) : Nat) : Int) = (((mBs (fun t => mAl W t A (A 4).toNat ≠ 0) k) ||| (2 ^ k) : Nat) : Int) := by rw [mBs_y (by omega)]
          have k9 := ih (k + 1) σ2 (by omega) s2 (by omega)
          rw [e] at k9
          exact k9
set_option maxHeartbeats 4000000 in
set_option maxRecDepth 100000 in
theorem x_whose {d : Nat} (hd : 5 ≤ d) (σ : gS) {W V : wF} {A I : Nat → Int} {c nt : Int} (hc : c ≤ 88000) (hn4 : nt ≤ 4) (ok : okR c nt A) (oi : okR c (I 1) I) (C : clR σ W V A I) : sC mX6_whose d [.ref 0] σ (fun r σ' => r = some (.int (iZ (((mWho W A (A 1).toNat : Nat) : Int)))) ∧ chg scrQ σ σ') := by
  have g := ok_gd hc hn4 ok
  have g0 := g.1
  have n1 := ok.2.2.1
  have a2 := ok_2 ok
  have g10 := g.2.2.2.2.1
  have n0 : 0 ≤ A 1 := by omega
  have gL : gd 100000 4 A := gd_mono g (by decide)
  refine sC_of rfl (Nat.le_of_ble_eq_true rfl) ?_
  show sE g_tt _ _ _ 0 [some (.ref 0), none, none] [] σ
  refine z_iconst dX6_whose_0 ?_
  refine q_istore_n dX6_whose_1 rfl (by decide) ?_
  show sE g_tt _ _ _ 2 [some (.ref 0), some (.int (iZ 0)), none] [] σ
  refine z_iconst dX6_whose_2 ?_
  refine q_istore_n dX6_whose_3 rfl (by decide) ?_
  show sE g_tt _ _ _ 4 [some (.ref 0), some (.int (iZ 0)), some (.int (iZ 0))] [] σ
  exact lx_whose hd σ hc hn4 ok oi C 5 0 σ (by omega) (chg_rf _ _) (by omega)
