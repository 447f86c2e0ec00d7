/-! ===== about, end, fault of the class ===== -/
set_option maxHeartbeats 4000000 in
set_option maxRecDepth 100000 in
theorem x_about {d : Nat} (hd : 1 ≤ d) {n t : Int} (hn : inR n) (σ : gS) {W V : wF} {A I : Nat → Int} {c nt : Int} (hc : c ≤ 88000) (hn4 : nt ≤ 4) (ok : okR c nt A) (oi : okR c (I 1) I) (C : clR σ W V A I) (ht : σ.1 328 1 = t) : sC mX6_about d [.ref 0, .int (iZ n)] σ (fun r σ' => r = some (.int (iZ (if n = 4 then ((mSick A 8 : Nat) : Int) else if n = 5 then A 4 else if 0 ≤ n ∧ n ≤ 3 then A n.toNat else if n = 6 then t else -2))) ∧ σ' = σ) := by
  have g := ok_gd hc hn4 ok
  have g0 := g.1
  have n1 := ok.2.2.1
  have a2 := ok_2 ok
  have g10 := g.2.2.2.2.1
  have gL : gd 100000 4 A := gd_mono g (by decide)
  have rk := rA_ok (w0_of C) gL a2.1 a2.2
  refine sC_of rfl (Nat.le_of_ble_eq_true rfl) ?_
  show sE g_tt _ _ _ 0 [some (.ref 0), some (.int (iZ n))] [] σ
  refine q_iload_n dX6_about_0 rfl rfl ?_
  by_cases s_1 : (n : Int) = 0
  · refine z_top s_1 ?_
    refine q_tableIn (tgt := 44) (off := 43) dX6_about_1 (by decide +kernel) (by decide +kernel) (by decide +kernel) (by decide) ?_
    refine q_aload_n dX6_about_44 rfl rfl ?_
    refine sg6 (kf := 0) (v := .ref 1) dX6_about_45 flX6_10 (show kd 0 = 6 from rfl) (by decide) rfl ?_
    refine sg5 (kf := 0) (v := .ref 2) dX6_about_48 flX6_72 (show kd 1 = 5 from rfl) (by decide) rfl ?_
    refine sg2 (kf := 2) (v := .int (iZ (A 0))) dX6_about_51 flX6_76 (show kd 2 = 2 from rfl) (by decide) (by show some (Value.int (iZ (σ.1 2 2))) = _; rw [show σ.1 2 2 = A 0 from C.1.1.2.2.1.1]) ?_
    exact s_iretZ dX6_about_54 rfl ⟨by first | ((try simp only [*]); (repeat (first | rw [if_pos (by omega)] | rw [if_neg (by omega)])); (try simp only [*]); (try rfl); done) | ((repeat (first | rw [if_pos (by omega)] | rw [if_neg (by omega)])); (try rfl); done) | (congr 3; (repeat (first | rw [if_pos (by omega)] | rw [if_neg (by omega)])); congr 1; omega), rfl⟩
  by_cases s_2 : (n : Int) = 1
  · refine z_top s_2 ?_
    refine q_tableIn (tgt := 55) (off := 54) dX6_about_1 (by decide +kernel) (by decide +kernel) (by decide +kernel) (by decide) ?_
    refine q_aload_n dX6_about_55 rfl rfl ?_
    refine sg6 (kf := 0) (v := .ref 1) dX6_about_56 flX6_10 (show kd 0 = 6 from rfl) (by decide) rfl ?_
    refine sg5 (kf := 7) (v := .int (iZ (A 1))) dX6_about_59 flX6_94 (show kd 1 = 5 from rfl) (by decide) (by show some (Value.int (iZ (σ.1 1 7))) = _; rw [C.1.2.1.2.2.1]) ?_
    exact s_iretZ dX6_about_62 rfl ⟨by first | ((try simp only [*]); (repeat (first | rw [if_pos (by omega)] | rw [if_neg (by omega)])); (try simp only [*]); (try rfl); done) | ((repeat (first | rw [if_pos (by omega)] | rw [if_neg (by omega)])); (try rfl); done) | (congr 3; (repeat (first | rw [if_pos (by omega)] | rw [if_neg (by omega)])); congr 1; omega), rfl⟩
  by_cases s_3 : (n : Int) = 2
  · refine z_top s_3 ?_
    refine q_tableIn (tgt := 63) (off := 62) dX6_about_1 (by decide +kernel) (by decide +kernel) (by decide +kernel) (by decide) ?_
    refine q_aload_n dX6_about_63 rfl rfl ?_
    refine sg6 (kf := 0) (v := .ref 1) dX6_about_64 flX6_10 (show kd 0 = 6 from rfl) (by decide) rfl ?_
    refine sg5 (kf := 8) (v := .int (iZ (A 2))) dX6_about_67 flX6_112 (show kd 1 = 5 from rfl) (by decide) (by show some (Value.int (iZ (σ.1 1 8))) = _; rw [C.1.2.1.2.2.2]) ?_
    exact s_iretZ dX6_about_70 rfl ⟨by first | ((try simp only [*]); (repeat (first | rw [if_pos (by omega)] | rw [if_neg (by omega)])); (try simp only [*]); (try rfl); done) | ((repeat (first | rw [if_pos (by omega)] | rw [if_neg (by omega)])); (try rfl); done) | (congr 3; (repeat (first | rw [if_pos (by omega)] | rw [if_neg (by omega)])); congr 1; omega), rfl⟩
  by_cases s_4 : (n : Int) = 3
  · refine z_top s_4 ?_
    refine q_tableIn (tgt := 71) (off := 70) dX6_about_1 (by decide +kernel) (by decide +kernel) (by decide +kernel) (by decide) ?_
    refine q_aload_n dX6_about_71 rfl rfl ?_
    refine sg6 (kf := 0) (v := .ref 1) dX6_about_72 flX6_10 (show kd 0 = 6 from rfl) (by decide) rfl ?_
    refine sg5 (kf := 2) (v := .int (iZ (A 3))) dX6_about_75 flX6_173 (show kd 1 = 5 from rfl) (by decide) (by show some (Value.int (iZ (σ.1 1 2))) = _; rw [C.1.2.1.1]) ?_
    exact s_iretZ dX6_about_78 rfl ⟨by first | ((try simp only [*]); (repeat (first | rw [if_pos (by omega)] | rw [if_neg (by omega)])); (try simp only [*]); (try rfl); done) | ((repeat (first | rw [if_pos (by omega)] | rw [if_neg (by omega)])); (try rfl); done) | (congr 3; (repeat (first | rw [if_pos (by omega)] | rw [if_neg (by omega)])); congr 1; omega), rfl⟩
  by_cases s_5 : (n : Int) = 4
  · refine z_top s_5 ?_
    refine q_tableIn (tgt := 79) (off := 78) dX6_about_1 (by decide +kernel) (by decide +kernel) (by decide +kernel) (by decide) ?_
    refine q_aload_n dX6_about_79 rfl rfl ?_
    refine s_callV (ci := 6) (a := 0) (As := []) (S := []) dX6_about_80 okX6_sick mlX6_316 rfl (by omega) rfl (Nat.le_of_ble_eq_true rfl) (show kd 0 = 6 from rfl) (by decide) rfl (x_sick (d := d - 1) σ hc hn4 ok oi C) (fun v_ σ_ hq => ?_)
    obtain ⟨rfl, e9⟩ := hq
    have e9 := e9.symm
    subst e9
    show sE g_tt _ _ _ 83 [some (.ref 0), some (.int (iZ n))] [.int (iZ ((mSick A 8 : Nat) : Int))] σ
    exact s_iretZ dX6_about_83 rfl ⟨by first | ((try simp only [*]); (repeat (first | rw [if_pos (by omega)] | rw [if_neg (by omega)])); (try simp only [*]); (try rfl); done) | ((repeat (first | rw [if_pos (by omega)] | rw [if_neg (by omega)])); (try rfl); done) | (congr 3; (repeat (first | rw [if_pos (by omega)] | rw [if_neg (by omega)])); congr 1; omega), rfl⟩
  by_cases s_6 : (n : Int) = 5
  · refine z_top s_6 ?_
    refine q_tableIn (tgt := 84) (off := 83) dX6_about_1 (by decide +kernel) (by decide +kernel) (by decide +kernel) (by decide) ?_
    refine q_aload_n dX6_about_84 rfl rfl ?_
    refine sg6 (kf := 0) (v := .ref 1) dX6_about_85 flX6_10 (show kd 0 = 6 from rfl) (by decide) rfl ?_
    refine sg5 (kf := 6) (v := .int (iZ (A 4))) dX6_about_88 flX6_297 (show kd 1 = 5 from rfl) (by decide) (by show some (Value.int (iZ (σ.1 1 6))) = _; rw [C.1.2.1.2.1]) ?_
    exact s_iretZ dX6_about_91 rfl ⟨by first | ((try simp only [*]); (repeat (first | rw [if_pos (by omega)] | rw [if_neg (by omega)])); (try simp only [*]); (try rfl); done) | ((repeat (first | rw [if_pos (by omega)] | rw [if_neg (by omega)])); (try rfl); done) | (congr 3; (repeat (first | rw [if_pos (by omega)] | rw [if_neg (by omega)])); congr 1; omega), rfl⟩
  by_cases s_7 : (n : Int) = 6
  · refine z_top s_7 ?_
    refine q_tableIn (tgt := 92) (off := 91) dX6_about_1 (by decide +kernel) (by decide +kernel) (by decide +kernel) (by decide) ?_
    refine q_aload_n dX6_about_92 rfl rfl ?_
    refine sg6 (kf := 4) (v := .ref 328) dX6_about_93 flX6_33 (show kd 0 = 6 from rfl) (by decide) rfl ?_
    refine sg3 (kf := 1) (v := .int (iZ t)) dX6_about_96 flX6_88 (show kd 328 = 3 from rfl) (by decide) (by show some (Value.int (iZ (σ.1 328 1))) = _; rw [ht]) ?_
    exact s_iretZ dX6_about_99 rfl ⟨by first | ((try simp only [*]); (repeat (first | rw [if_pos (by omega)] | rw [if_neg (by omega)])); (try simp only [*]); (try rfl); done) | ((repeat (first | rw [if_pos (by omega)] | rw [if_neg (by omega)])); (try rfl); done) | (congr 3; (repeat (first | rw [if_pos (by omega)] | rw [if_neg (by omega)])); congr 1; omega), rfl⟩
  refine q_tableOut (tgt := 100) dX6_about_1 (by rw [iZ_toInt (by unfold inR at *; omega)]; omega) (by decide) ?_
  refine z_bipush dX6_about_100 (by decide +kernel) ?_
  exact s_iretZ dX6_about_102 rfl ⟨by first | ((try simp only [*]); (repeat (first | rw [if_pos (by omega)] | rw [if_neg (by omega)])); (try simp only [*]); (try rfl); done) | ((repeat (first | rw [if_pos (by omega)] | rw [if_neg (by omega)])); (try rfl); done) | (congr 3; (repeat (first | rw [if_pos (by omega)] | rw [if_neg (by omega)])); congr 1; omega), rfl⟩
set_option maxHeartbeats 4000000 in
set_option maxRecDepth 100000 in
theorem x_end {d : Nat} {n t : Int} (hn : inR n) (σ : gS) (ht : σ.1 328 1 = t) (ht2 : inR t) : sC mX6_end d [.ref 0, .int (iZ n)] σ (fun r σ' => r = some (.int (iZ (if 0 ≤ n ∧ n ≤ t then n else -1))) ∧ σ' = if 0 ≤ n ∧ n ≤ t then sI σ 328 1 n else σ) := by
  refine sC_of rfl (Nat.le_of_ble_eq_true rfl) ?_
  show sE g_tt _ _ _ 0 [some (.ref 0), some (.int (iZ n))] [] σ
  refine q_iload_n dX6_end_0 rfl rfl ?_
  refine z_if_lt (tgt := 15) dX6_end_1 (by decide) (by unfold inR at *; omega) (fun c_1 => ?_) (fun c_1 => ?_)
  · refine z_iconst dX6_end_15 ?_
    exact s_iretZ dX6_end_16 rfl ⟨by (repeat (first | rw [if_pos (by omega)] | rw [if_neg (by omega)])), by (repeat (first | rw [if_pos (by omega)] | rw [if_neg (by omega)]))⟩
  · refine q_iload_n dX6_end_4 rfl rfl ?_
    refine q_aload_n dX6_end_5 rfl rfl ?_
    refine sg6 (kf := 4) (v := .ref 328) dX6_end_6 flX6_33 (show kd 0 = 6 from rfl) (by decide) rfl ?_
    refine sg3 (kf := 1) (v := .int (iZ t)) dX6_end_9 flX6_88 (show kd 328 = 3 from rfl) (by decide) (by show some (Value.int (iZ (σ.1 328 1))) = _; rw [ht]) ?_
    refine z_icmp_le (tgt := 17) dX6_end_12 (by decide) (by unfold inR at *; omega) (by unfold inR at *; omega) (fun c_2 => ?_) (fun c_2 => ?_)
    · refine q_aload_n dX6_end_17 rfl rfl ?_
      refine sg6 (kf := 4) (v := .ref 328) dX6_end_18 flX6_33 (show kd 0 = 6 from rfl) (by decide) rfl ?_
      refine q_iload_n dX6_end_21 rfl rfl ?_
      refine sp3 (kf := 1) dX6_end_22 flX6_88 (show kd 328 = 3 from rfl) (by decide) ?_
      refine q_iload_n dX6_end_25 rfl rfl ?_
      exact s_iretZ dX6_end_26 rfl ⟨by (repeat (first | rw [if_pos (by omega)] | rw [if_neg (by omega)])), by (repeat (first | rw [if_pos (by omega)] | rw [if_neg (by omega)]))⟩
    · refine z_iconst dX6_end_15 ?_
      exact s_iretZ dX6_end_16 rfl ⟨by (repeat (first | rw [if_pos (by omega)] | rw [if_neg (by omega)])), by (repeat (first | rw [if_pos (by omega)] | rw [if_neg (by omega)]))⟩
set_option maxHeartbeats 4000000 in
set_option maxRecDepth 100000 in
theorem x_fault {d : Nat} {n : Int} (hn : inR n) (σ : gS) : sC mX6_fault d [.ref 0, .int (iZ n)] σ (fun r σ' => r = some (.int (iZ (if n = 0 then σ.1 333 0 else if n = 1 then σ.1 333 1 else -1))) ∧ σ' = σ) := by
  refine sC_of rfl (Nat.le_of_ble_eq_true rfl) ?_
  show sE g_tt _ _ _ 0 [some (.ref 0), some (.int (iZ n))] [] σ
  refine q_iload_n dX6_fault_0 rfl rfl ?_
  refine z_if_ne (tgt := 12) dX6_fault_1 (by decide) (by unfold inR at *; omega) (fun c_1 => ?_) (fun c_1 => ?_)
  · refine q_iload_n dX6_fault_12 rfl rfl ?_
    refine z_iconst dX6_fault_13 ?_
    refine z_icmp_ne (tgt := 27) dX6_fault_14 (by decide) (by unfold inR at *; omega) (by unfold inR at *; omega) (fun c_2 => ?_) (fun c_2 => ?_)
    · refine z_iconst dX6_fault_27 ?_
      exact s_iretZ dX6_fault_28 rfl ⟨by (repeat (first | rw [if_pos (by omega)] | rw [if_neg (by omega)])), rfl⟩
    · refine q_aload_n dX6_fault_17 rfl rfl ?_
      refine sg6 (kf := 5) (v := .ref 333) dX6_fault_18 flX6_42 (show kd 0 = 6 from rfl) (by decide) rfl ?_
      refine sg1 (kf := 1) (v := .int (iZ (σ.1 333 1))) dX6_fault_21 flX6_106 (show kd 333 = 1 from rfl) (by decide) rfl ?_
      refine q_goto (tgt := 28) dX6_fault_24 (by decide) ?_
      exact s_iretZ dX6_fault_28 rfl ⟨by (repeat (first | rw [if_pos (by omega)] | rw [if_neg (by omega)])), rfl⟩
  · refine q_aload_n dX6_fault_4 rfl rfl ?_
    refine sg6 (kf := 5) (v := .ref 333) dX6_fault_5 flX6_42 (show kd 0 = 6 from rfl) (by decide) rfl ?_
    refine sg1 (kf := 0) (v := .int (iZ (σ.1 333 0))) dX6_fault_8 flX6_103 (show kd 333 = 1 from rfl) (by decide) rfl ?_
    exact s_iretZ dX6_fault_11 rfl ⟨by (repeat (first | rw [if_pos (by omega)] | rw [if_neg (by omega)])), rfl⟩
