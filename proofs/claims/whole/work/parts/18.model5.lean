set_option maxHeartbeats 4000000 in
set_option maxRecDepth 100000 in
theorem m_person {d : Nat} (hd : 2 ≤ d) {h : Int} (hh : inR h) (σ : gS) (A F : Nat → Int) (h0 : 0 ≤ A 0) (h5 : A 0 ≤ 5) : sC mX7_person d [.ref 384, .int (iZ h)] (ms σ A F) (fun r σ' => r = some (.int (iZ (if ¬ (0 ≤ h ∧ h < 8) ∨ A 0 = 5 then -1 else A 0))) ∧ σ' = ms σ (if ¬ (0 ≤ h ∧ h < 8) ∨ A 0 = 5 then A else va_up (va_up (va_up A (24 + A 0).toNat h) (19 + A 0).toNat h) 0 (A 0 + 1)) F) := by
  refine sC_of rfl (Nat.le_of_ble_eq_true rfl) ?_
  show sE g_tt _ _ _ 0 [some (.ref 384), some (.int (iZ h))] [] (ms σ A F)
  refine q_iload_n dX7_person_0 rfl rfl ?_
  refine s_callS (As := [.int (iZ h)]) (S := []) dX7_person_1 okX7_isHouse mlX7_70 rfl (by omega) rfl (Nat.le_of_ble_eq_true rfl) (m_isHouse (d := d - 1) (by omega) (h := h) (by unfold inR at *; omega) (ms σ A F)) (fun v_ σ_ hq => ?_)
  obtain ⟨rfl, e9⟩ := hq
  have e9 := e9.symm
  subst e9
  show sE g_tt _ _ _ 4 [some (.ref 384), some (.int (iZ h))] [.int (iZ (if 0 ≤ h ∧ h < 8 then 1 else 0))] (ms σ A F)
  refine z_if_eq (tgt := 17) dX7_person_4 (by decide) inR_01 (fun c_1 => ?_) (fun c_1 => ?_)
  · have c_1 := if01_0 c_1
    refine z_iconst dX7_person_17 ?_
    exact s_iretZ dX7_person_18 rfl ⟨by congr 2; (first | rw [if_pos (by omega)] | (rw [if_neg (by omega)]; congr 1; omega)), by ((repeat (first | rw [if_pos (by omega)] | rw [if_neg (by omega)])); (try rfl))⟩
  · have c_1 := if01_1 c_1
    refine q_aload_n dX7_person_7 rfl rfl ?_
    refine sg7 (kf := 0) (v := .ref 385) dX7_person_8 flX7_7 (show kd 384 = 7 from rfl) (by decide) rfl ?_
    refine z_iconst dX7_person_11 ?_
    refine s_iald (n := 1583) (x := A 0) dX7_person_12 (show kd 385 = 100 + 1583 from rfl) (by omega) (by omega) (by decide) rfl ?_
    refine z_iconst dX7_person_13 ?_
    refine z_icmp_ne (tgt := 19) dX7_person_14 (by decide) (by unfold inR at *; omega) (by unfold inR at *; omega) (fun c_2 => ?_) (fun c_2 => ?_)
    · refine q_aload_n dX7_person_19 rfl rfl ?_
      refine sg7 (kf := 0) (v := .ref 385) dX7_person_20 flX7_7 (show kd 384 = 7 from rfl) (by decide) rfl ?_
      refine z_bipush dX7_person_23 (by decide +kernel) ?_
      refine q_aload_n dX7_person_25 rfl rfl ?_
      refine sg7 (kf := 0) (v := .ref 385) dX7_person_26 flX7_7 (show kd 384 = 7 from rfl) (by decide) rfl ?_
      refine z_iconst dX7_person_29 ?_
      refine s_iald (n := 1583) (x := A 0) dX7_person_30 (show kd 385 = 100 + 1583 from rfl) (by omega) (by omega) (by decide) rfl ?_
      refine z_iadd dX7_person_31 ?_
      refine q_iload_n dX7_person_32 rfl rfl ?_
      refine ma_st dX7_person_33 (by omega) (by omega) ?_
      refine q_aload_n dX7_person_34 rfl rfl ?_
      refine sg7 (kf := 0) (v := .ref 385) dX7_person_35 flX7_7 (show kd 384 = 7 from rfl) (by decide) rfl ?_
      refine z_bipush dX7_person_38 (by decide +kernel) ?_
      refine q_aload_n dX7_person_40 rfl rfl ?_
      refine sg7 (kf := 0) (v := .ref 385) dX7_person_41 flX7_7 (show kd 384 = 7 from rfl) (by decide) rfl ?_
      refine z_iconst dX7_person_44 ?_
      refine s_iald (n := 1583) (x := A 0) dX7_person_45 (show kd 385 = 100 + 1583 from rfl) (by omega) (by omega) (by decide) (by show (va_up A ((24 + (A 0)).toNat) h) 0 = _; rw [va_up_ne _ _ (by omega)]) ?_
      refine z_iadd dX7_person_46 ?_
      refine q_iload_n dX7_person_47 rfl rfl ?_
      refine ma_st dX7_person_48 (by omega) (by omega) ?_
      refine q_aload_n dX7_person_49 rfl rfl ?_
      refine sg7 (kf := 0) (v := .ref 385) dX7_person_50 flX7_7 (show kd 384 = 7 from rfl) (by decide) rfl ?_
      refine z_iconst dX7_person_53 ?_
      refine q_dup2 dX7_person_54 rfl rfl ?_
      refine s_iald (n := 1583) (x := A 0) dX7_person_55 (show kd 385 = 100 + 1583 from rfl) (by omega) (by omega) (by decide) (by show (va_up (va_up A ((24 + (A 0)).toNat) h) ((19 + (A 0)).toNat) h) 0 = _; rw [va_up_ne _ _ (by omega), va_up_ne _ _ (by omega)]) ?_
      refine z_iconst dX7_person_56 ?_
      refine z_iadd dX7_person_57 ?_
      refine ma_st dX7_person_58 (by omega) (by omega) ?_
      refine q_aload_n dX7_person_59 rfl rfl ?_
      refine sg7 (kf := 0) (v := .ref 385) dX7_person_60 flX7_7 (show kd 384 = 7 from rfl) (by decide) rfl ?_
      refine z_iconst dX7_person_63 ?_
      refine s_iald (n := 1583) (x := (A 0) + 1) dX7_person_64 (show kd 385 = 100 + 1583 from rfl) (by omega) (by omega) (by decide) rfl ?_
      refine z_iconst dX7_person_65 ?_
      refine z_isub dX7_person_66 ?_
      exact s_iretZ dX7_person_67 rfl ⟨by congr 2; (first | rw [if_pos (by omega)] | (rw [if_neg (by omega)]; congr 1; omega)), by ((repeat (first | rw [if_pos (by omega)] | rw [if_neg (by omega)])); (try rfl))⟩
    · refine z_iconst dX7_person_17 ?_
      exact s_iretZ dX7_person_18 rfl ⟨by congr 2; (first | rw [if_pos (by omega)] | (rw [if_neg (by omega)]; congr 1; omega)), by ((repeat (first | rw [if_pos (by omega)] | rw [if_neg (by omega)])); (try rfl))⟩
set_option maxHeartbeats 4000000 in
set_option maxRecDepth 100000 in
theorem m_need {d : Nat} (hd : 2 ≤ d) {h u : Int} (hh : inR h) (hu : inR u) (σ : gS) (A F : Nat → Int) : sC mX7_need d [.ref 384, .int (iZ h), .int (iZ u)] (ms σ A F) (fun r σ' => r = some (.int (iZ (if (0 ≤ h ∧ h < 8) ∧ -1 ≤ u ∧ u ≤ 30 then 1 else 0))) ∧ σ' = ms σ (if (0 ≤ h ∧ h < 8) ∧ -1 ≤ u ∧ u ≤ 30 then va_up A (29 + h).toNat (u + 1) else A) F) := by
  refine sC_of rfl (Nat.le_of_ble_eq_true rfl) ?_
  show sE g_tt _ _ _ 0 [some (.ref 384), some (.int (iZ h)), some (.int (iZ u))] [] (ms σ A F)
  refine q_iload_n dX7_need_0 rfl rfl ?_
  refine s_callS (As := [.int (iZ h)]) (S := []) dX7_need_1 okX7_isHouse mlX7_70 rfl (by omega) rfl (Nat.le_of_ble_eq_true rfl) (m_isHouse (d := d - 1) (by omega) (h := h) (by unfold inR at *; omega) (ms σ A F)) (fun v_ σ_ hq => ?_)
  obtain ⟨rfl, e9⟩ := hq
  have e9 := e9.symm
  subst e9
  show sE g_tt _ _ _ 4 [some (.ref 384), some (.int (iZ h)), some (.int (iZ u))] [.int (iZ (if 0 ≤ h ∧ h < 8 then 1 else 0))] (ms σ A F)
  refine z_if_eq (tgt := 17) dX7_need_4 (by decide) inR_01 (fun c_1 => ?_) (fun c_1 => ?_)
  · have c_1 := if01_0 c_1
    refine z_iconst dX7_need_17 ?_
    exact s_zret dX7_need_18 rfl (by omega) ⟨by first | (congr 3; (repeat (first | rw [if_pos (by omega)] | rw [if_neg (by omega)])); done) | (exfalso; omega), by (first | rfl | ((repeat (first | rw [if_pos (by omega)] | rw [if_neg (by omega)])); (try rfl)))⟩
  · have c_1 := if01_1 c_1
    refine q_iload_n dX7_need_7 rfl rfl ?_
    refine z_iconst dX7_need_8 ?_
    refine z_bipush dX7_need_9 (by decide +kernel) ?_
    refine s_callS (As := [.int (iZ u), .int (iZ (-1)), .int (iZ 30)]) (S := []) dX7_need_11 okX7_isIn mlX7_66 rfl (by omega) rfl (Nat.le_of_ble_eq_true rfl) (m_isIn (d := d - 1) (v := u) (a := (-1)) (b := 30) (by unfold inR at *; omega) (by unfold inR at *; omega) (by unfold inR at *; omega) (ms σ A F)) (fun v_ σ_ hq => ?_)
    obtain ⟨rfl, e9⟩ := hq
    have e9 := e9.symm
    subst e9
    show sE g_tt _ _ _ 14 [some (.ref 384), some (.int (iZ h)), some (.int (iZ u))] [.int (iZ (if (-1) ≤ u ∧ u ≤ 30 then 1 else 0))] (ms σ A F)
    refine z_if_ne (tgt := 19) dX7_need_14 (by decide) inR_01 (fun c_2 => ?_) (fun c_2 => ?_)
    · have c_2 := if01_1 c_2
      refine q_aload_n dX7_need_19 rfl rfl ?_
      refine sg7 (kf := 0) (v := .ref 385) dX7_need_20 flX7_7 (show kd 384 = 7 from rfl) (by decide) rfl ?_
      refine z_bipush dX7_need_23 (by decide +kernel) ?_
      refine q_iload_n dX7_need_25 rfl rfl ?_
      refine z_iadd dX7_need_26 ?_
      refine q_iload_n dX7_need_27 rfl rfl ?_
      refine z_iconst dX7_need_28 ?_
      refine z_iadd dX7_need_29 ?_
      refine ma_st dX7_need_30 (by omega) (by omega) ?_
      refine z_iconst dX7_need_31 ?_
      exact s_zret dX7_need_32 rfl (by omega) ⟨by first | (congr 3; (repeat (first | rw [if_pos (by omega)] | rw [if_neg (by omega)])); done) | (exfalso; omega), by (first | rfl | ((repeat (first | rw [if_pos (by omega)] | rw [if_neg (by omega)])); (try rfl)))⟩
    · have c_2 := if01_0 c_2
      refine z_iconst dX7_need_17 ?_
      exact s_zret dX7_need_18 rfl (by omega) ⟨by first | (congr 3; (repeat (first | rw [if_pos (by omega)] | rw [if_neg (by omega)])); done) | (exfalso; omega), by (first | rfl | ((repeat (first | rw [if_pos (by omega)] | rw [if_neg (by omega)])); (try rfl)))⟩
set_option maxHeartbeats 4000000 in
set_option maxRecDepth 100000 in
theorem m_end {d : Nat} (hd : 1 ≤ d) {n : Int} (hn : inR n) (σ : gS) (A F : Nat → Int) (ht : inR (F 4)) : sC mX7_end d [.ref 384, .int (iZ n)] (ms σ A F) (fun r σ' => r = some (.int (iZ (if 0 ≤ n ∧ n ≤ F 4 then n else -1))) ∧ σ' = ms σ A (if 0 ≤ n ∧ n ≤ F 4 then va_up F 4 n else F)) := by
  refine sC_of rfl (Nat.le_of_ble_eq_true rfl) ?_
  show sE g_tt _ _ _ 0 [some (.ref 384), some (.int (iZ n))] [] (ms σ A F)
  refine q_iload_n dX7_end_0 rfl rfl ?_
  refine z_iconst dX7_end_1 ?_
  refine q_aload_n dX7_end_2 rfl rfl ?_
  refine sg7 (kf := 4) (v := .int (iZ (F 4))) dX7_end_3 flX7_74 (show kd 384 = 7 from rfl) (by decide) rfl ?_
  refine s_callS (As := [.int (iZ n), .int (iZ 0), .int (iZ (F 4))]) (S := []) dX7_end_6 okX7_isIn mlX7_66 rfl (by omega) rfl (Nat.le_of_ble_eq_true rfl) (m_isIn (d := d - 1) (v := n) (a := 0) (b := F 4) (by unfold inR at *; omega) (by unfold inR at *; omega) (by unfold inR at *; omega) (ms σ A F)) (fun v_ σ_ hq => ?_)
  obtain ⟨rfl, e9⟩ := hq
  have e9 := e9.symm
  subst e9
  show sE g_tt _ _ _ 9 [some (.ref 384), some (.int (iZ n))] [.int (iZ (if 0 ≤ n ∧ n ≤ F 4 then 1 else 0))] (ms σ A F)
  refine z_if_ne (tgt := 14) dX7_end_9 (by decide) inR_01 (fun c_1 => ?_) (fun c_1 => ?_)
  · have c_1 := if01_1 c_1
    refine q_aload_n dX7_end_14 rfl rfl ?_
    refine q_iload_n dX7_end_15 rfl rfl ?_
    refine mp (kf := 4) dX7_end_16 flX7_74 (by decide) ?_
    refine q_iload_n dX7_end_19 rfl rfl ?_
    exact s_iretZ dX7_end_20 rfl ⟨by first | (congr 3; (repeat (first | rw [if_pos (by omega)] | rw [if_neg (by omega)])); done) | (exfalso; omega), by (first | rfl | ((repeat (first | rw [if_pos (by omega)] | rw [if_neg (by omega)])); (try rfl)))⟩
  · have c_1 := if01_0 c_1
    refine z_iconst dX7_end_12 ?_
    exact s_iretZ dX7_end_13 rfl ⟨by first | (congr 3; (repeat (first | rw [if_pos (by omega)] | rw [if_neg (by omega)])); done) | (exfalso; omega), by (first | rfl | ((repeat (first | rw [if_pos (by omega)] | rw [if_neg (by omega)])); (try rfl)))⟩
set_option maxHeartbeats 4000000 in
set_option maxRecDepth 100000 in
theorem m_fault {d : Nat} {n : Int} (hn : inR n) (σ : gS) (A F : Nat → Int) : sC mX7_fault d [.ref 384, .int (iZ n)] (ms σ A F) (fun r σ' => r = some (.int (iZ (if n = 0 then F 5 else if n = 1 then F 6 else -1))) ∧ σ' = ms σ A F) := by
  refine sC_of rfl (Nat.le_of_ble_eq_true rfl) ?_
  show sE g_tt _ _ _ 0 [some (.ref 384), some (.int (iZ n))] [] (ms σ A F)
  refine q_iload_n dX7_fault_0 rfl rfl ?_
  refine z_if_ne (tgt := 11) dX7_fault_1 (by decide) (by unfold inR at *; omega) (fun c_1 => ?_) (fun c_1 => ?_)
  · refine q_iload_n dX7_fault_11 rfl rfl ?_
    refine z_iconst dX7_fault_12 ?_
    refine z_icmp_ne (tgt := 23) dX7_fault_13 (by decide) (by unfold inR at *; omega) (by unfold inR at *; omega) (fun c_2 => ?_) (fun c_2 => ?_)
    · refine z_iconst dX7_fault_23 ?_
      exact s_iretZ dX7_fault_24 rfl ⟨by first | (congr 3; (repeat (first | rw [if_pos (by omega)] | rw [if_neg (by omega)])); done) | (exfalso; omega), by (first | rfl | ((repeat (first | rw [if_pos (by omega)] | rw [if_neg (by omega)])); (try rfl)))⟩
    · refine q_aload_n dX7_fault_16 rfl rfl ?_
      refine sg7 (kf := 6) (v := .int (iZ (F 6))) dX7_fault_17 flX7_26 (show kd 384 = 7 from rfl) (by decide) rfl ?_
      refine q_goto (tgt := 24) dX7_fault_20 (by decide) ?_
      exact s_iretZ dX7_fault_24 rfl ⟨by first | (congr 3; (repeat (first | rw [if_pos (by omega)] | rw [if_neg (by omega)])); done) | (exfalso; omega), by (first | rfl | ((repeat (first | rw [if_pos (by omega)] | rw [if_neg (by omega)])); (try rfl)))⟩
  · refine q_aload_n dX7_fault_4 rfl rfl ?_
    refine sg7 (kf := 5) (v := .int (iZ (F 5))) dX7_fault_5 flX7_22 (show kd 384 = 7 from rfl) (by decide) rfl ?_
    refine q_goto (tgt := 24) dX7_fault_8 (by decide) ?_
    exact s_iretZ dX7_fault_24 rfl ⟨by first | (congr 3; (repeat (first | rw [if_pos (by omega)] | rw [if_neg (by omega)])); done) | (exfalso; omega), by (first | rfl | ((repeat (first | rw [if_pos (by omega)] | rw [if_neg (by omega)])); (try rfl)))⟩
set_option maxHeartbeats 4000000 in
set_option maxRecDepth 100000 in
theorem m_by {d : Nat} (hd : 1 ≤ d) {n : Int} (hn : inR n) (σ : gS) (A F : Nat → Int) (h1 : 0 ≤ A 1) (h4 : A 1 ≤ 4) : sC mX7_by d [.ref 384, .int (iZ n)] (ms σ A F) (fun r σ' => r = some (.int (iZ (if -1 ≤ n ∧ n ≤ A 1 - 1 then 1 else 0))) ∧ σ' = ms σ (if -1 ≤ n ∧ n ≤ A 1 - 1 then va_up A 2 n else A) F) := by
  refine sC_of rfl (Nat.le_of_ble_eq_true rfl) ?_
  show sE g_tt _ _ _ 0 [some (.ref 384), some (.int (iZ n))] [] (ms σ A F)
  refine q_iload_n dX7_by_0 rfl rfl ?_
  refine z_iconst dX7_by_1 ?_
  refine q_aload_n dX7_by_2 rfl rfl ?_
  refine sg7 (kf := 0) (v := .ref 385) dX7_by_3 flX7_7 (show kd 384 = 7 from rfl) (by decide) rfl ?_
  refine z_iconst dX7_by_6 ?_
  refine s_iald (n := 1583) (x := A 1) dX7_by_7 (show kd 385 = 100 + 1583 from rfl) (by omega) (by omega) (by decide) rfl ?_
  refine z_iconst dX7_by_8 ?_
  refine z_isub dX7_by_9 ?_
  refine s_callS (As := [.int (iZ n), .int (iZ (-1)), .int (iZ ((A 1) - 1))]) (S := []) dX7_by_10 okX7_isIn mlX7_66 rfl (by omega) rfl (Nat.le_of_ble_eq_true rfl) (m_isIn (d := d - 1) (v := n) (a := (-1)) (b := (A 1) - 1) (by unfold inR at *; omega) (by unfold inR at *; omega) (by unfold inR at *; omega) (ms σ A F)) (fun v_ σ_ hq => ?_)
  obtain ⟨rfl, e9⟩ := hq
  have e9 := e9.symm
  subst e9
  show sE g_tt _ _ _ 13 [some (.ref 384), some (.int (iZ n))] [.int (iZ (if (-1) ≤ n ∧ n ≤ (A 1) - 1 then 1 else 0))] (ms σ A F)
  refine z_if_ne (tgt := 18) dX7_by_13 (by decide) inR_01 (fun c_1 => ?_) (fun c_1 => ?_)
  · have c_1 := if01_1 c_1
    refine q_aload_n dX7_by_18 rfl rfl ?_
    refine sg7 (kf := 0) (v := .ref 385) dX7_by_19 flX7_7 (show kd 384 = 7 from rfl) (by decide) rfl ?_
    refine z_iconst dX7_by_22 ?_
    refine q_iload_n dX7_by_23 rfl rfl ?_
    refine ma_st dX7_by_24 (by omega) (by omega) ?_
    refine z_iconst dX7_by_25 ?_
    exact s_zret dX7_by_26 rfl (by omega) ⟨by first | (congr 3; (repeat (first | rw [if_pos (by omega)] | rw [if_neg (by omega)])); done) | (exfalso; omega), by (first | rfl | ((repeat (first | rw [if_pos (by omega)] | rw [if_neg (by omega)])); (try rfl)))⟩
  · have c_1 := if01_0 c_1
    refine z_iconst dX7_by_16 ?_
    exact s_zret dX7_by_17 rfl (by omega) ⟨by first | (congr 3; (repeat (first | rw [if_pos (by omega)] | rw [if_neg (by omega)])); done) | (exfalso; omega), by (first | rfl | ((repeat (first | rw [if_pos (by omega)] | rw [if_neg (by omega)])); (try rfl)))⟩
set_option maxHeartbeats 4000000 in
set_option maxRecDepth 100000 in
theorem m_byteAt {d : Nat} {n : Int} (hn : 0 ≤ n) (hn2 : inR n) (σ : gS) (A F : Nat → Int) (ht : F 4 ≤ 300) (ht2 : inR (F 4)) : sC mX7_byteAt d [.ref 384, .int (iZ n)] (ms σ A F) (fun r σ' => r = some (.int (iZ (if n < F 4 then σ.2.1 388 n.toNat else -1))) ∧ σ' = ms σ A F) := by
  refine sC_of rfl (Nat.le_of_ble_eq_true rfl) ?_
  show sE g_tt _ _ _ 0 [some (.ref 384), some (.int (iZ n))] [] (ms σ A F)
  refine q_iload_n dX7_byteAt_0 rfl rfl ?_
  refine q_aload_n dX7_byteAt_1 rfl rfl ?_
  refine sg7 (kf := 4) (v := .int (iZ (F 4))) dX7_byteAt_2 flX7_74 (show kd 384 = 7 from rfl) (by decide) rfl ?_
  refine z_icmp_ge (tgt := 17) dX7_byteAt_5 (by decide) (by unfold inR at *; omega) (by unfold inR at *; omega) (fun c_1 => ?_) (fun c_1 => ?_)
  · refine z_iconst dX7_byteAt_17 ?_
    exact s_iretZ dX7_byteAt_18 rfl ⟨by first | (congr 3; (repeat (first | rw [if_pos (by omega)] | rw [if_neg (by omega)])); done) | (exfalso; omega), by (first | rfl | ((repeat (first | rw [if_pos (by omega)] | rw [if_neg (by omega)])); (try rfl)))⟩
  · refine q_aload_n dX7_byteAt_8 rfl rfl ?_
    refine sg7 (kf := 3) (v := .ref 388) dX7_byteAt_9 flX7_19 (show kd 384 = 7 from rfl) (by decide) rfl ?_
    refine q_iload_n dX7_byteAt_12 rfl rfl ?_
    refine s_iald (n := 300) (x := σ.2.1 388 n.toNat) dX7_byteAt_13 (show kd 388 = 100 + 300 from rfl) (by omega) (by omega) (by decide) rfl ?_
    refine q_goto (tgt := 18) dX7_byteAt_14 (by decide) ?_
    exact s_iretZ dX7_byteAt_18 rfl ⟨by first | (congr 3; (repeat (first | rw [if_pos (by omega)] | rw [if_neg (by omega)])); done) | (exfalso; omega), by (first | rfl | ((repeat (first | rw [if_pos (by omega)] | rw [if_neg (by omega)])); (try rfl)))⟩
set_option maxHeartbeats 4000000 in
set_option maxRecDepth 100000 in
theorem m_isLetterByte {d : Nat} {c : Int} (hc : inR c) (σ : gS) : sC mX7_isLetterByte d [.int (iZ c)] σ (fun r σ' => r = some (.int (iZ (if (97 ≤ c ∧ c ≤ 122) ∨ (65 ≤ c ∧ c ≤ 90) then 1 else 0))) ∧ σ' = σ) := by
  refine sC_of rfl (Nat.le_of_ble_eq_true rfl) ?_
  show sE g_tt _ _ _ 0 [some (.int (iZ c))] [] σ
  refine q_iload_n dX7_isLetterByte_0 rfl rfl ?_
  refine z_bipush dX7_isLetterByte_1 (by decide +kernel) ?_
  refine z_icmp_lt (tgt := 12) dX7_isLetterByte_3 (by decide) (by unfold inR at *; omega) (by unfold inR at *; omega) (fun c_1 => ?_) (fun c_1 => ?_)
  · refine q_iload_n dX7_isLetterByte_12 rfl rfl ?_
    refine z_bipush dX7_isLetterByte_13 (by decide +kernel) ?_
    refine z_icmp_lt (tgt := 28) dX7_isLetterByte_15 (by decide) (by unfold inR at *; omega) (by unfold inR at *; omega) (fun c_2 => ?_) (fun c_2 => ?_)
    · refine z_iconst dX7_isLetterByte_28 ?_
      exact s_zret dX7_isLetterByte_29 rfl (by omega) ⟨by first | (congr 3; (repeat (first | rw [if_pos (by omega)] | rw [if_neg (by omega)])); done) | (exfalso; omega), by (first | rfl | ((repeat (first | rw [if_pos (by omega)] | rw [if_neg (by omega)])); (try rfl)))⟩
    · refine q_iload_n dX7_isLetterByte_18 rfl rfl ?_
      refine z_bipush dX7_isLetterByte_19 (by decide +kernel) ?_
      refine z_icmp_gt (tgt := 28) dX7_isLetterByte_21 (by decide) (by unfold inR at *; omega) (by unfold inR at *; omega) (fun c_3 => ?_) (fun c_3 => ?_)
      · refine z_iconst dX7_isLetterByte_28 ?_
        exact s_zret dX7_isLetterByte_29 rfl (by omega) ⟨by first | (congr 3; (repeat (first | rw [if_pos (by omega)] | rw [if_neg (by omega)])); done) | (exfalso; omega), by (first | rfl | ((repeat (first | rw [if_pos (by omega)] | rw [if_neg (by omega)])); (try rfl)))⟩
      · refine z_iconst dX7_isLetterByte_24 ?_
        refine q_goto (tgt := 29) dX7_isLetterByte_25 (by decide) ?_
        exact s_zret dX7_isLetterByte_29 rfl (by omega) ⟨by first | (congr 3; (repeat (first | rw [if_pos (by omega)] | rw [if_neg (by omega)])); done) | (exfalso; omega), by (first | rfl | ((repeat (first | rw [if_pos (by omega)] | rw [if_neg (by omega)])); (try rfl)))⟩
  · refine q_iload_n dX7_isLetterByte_6 rfl rfl ?_
    refine z_bipush dX7_isLetterByte_7 (by decide +kernel) ?_
    refine z_icmp_le (tgt := 24) dX7_isLetterByte_9 (by decide) (by unfold inR at *; omega) (by unfold inR at *; omega) (fun c_4 => ?_) (fun c_4 => ?_)
    · refine z_iconst dX7_isLetterByte_24 ?_
      refine q_goto (tgt := 29) dX7_isLetterByte_25 (by decide) ?_
      exact s_zret dX7_isLetterByte_29 rfl (by omega) ⟨by first | (congr 3; (repeat (first | rw [if_pos (by omega)] | rw [if_neg (by omega)])); done) | (exfalso; omega), by (first | rfl | ((repeat (first | rw [if_pos (by omega)] | rw [if_neg (by omega)])); (try rfl)))⟩
    · refine q_iload_n dX7_isLetterByte_12 rfl rfl ?_
      refine z_bipush dX7_isLetterByte_13 (by decide +kernel) ?_
      refine z_icmp_lt (tgt := 28) dX7_isLetterByte_15 (by decide) (by unfold inR at *; omega) (by unfold inR at *; omega) (fun c_5 => ?_) (fun c_5 => ?_)
      · refine z_iconst dX7_isLetterByte_28 ?_
        exact s_zret dX7_isLetterByte_29 rfl (by omega) ⟨by first | (congr 3; (repeat (first | rw [if_pos (by omega)] | rw [if_neg (by omega)])); done) | (exfalso; omega), by (first | rfl | ((repeat (first | rw [if_pos (by omega)] | rw [if_neg (by omega)])); (try rfl)))⟩
      · refine q_iload_n dX7_isLetterByte_18 rfl rfl ?_
        refine z_bipush dX7_isLetterByte_19 (by decide +kernel) ?_
        refine z_icmp_gt (tgt := 28) dX7_isLetterByte_21 (by decide) (by unfold inR at *; omega) (by unfold inR at *; omega) (fun c_6 => ?_) (fun c_6 => ?_)
        · refine z_iconst dX7_isLetterByte_28 ?_
          exact s_zret dX7_isLetterByte_29 rfl (by omega) ⟨by first | (congr 3; (repeat (first | rw [if_pos (by omega)] | rw [if_neg (by omega)])); done) | (exfalso; omega), by (first | rfl | ((repeat (first | rw [if_pos (by omega)] | rw [if_neg (by omega)])); (try rfl)))⟩
        · refine z_iconst dX7_isLetterByte_24 ?_
          refine q_goto (tgt := 29) dX7_isLetterByte_25 (by decide) ?_
          exact s_zret dX7_isLetterByte_29 rfl (by omega) ⟨by first | (congr 3; (repeat (first | rw [if_pos (by omega)] | rw [if_neg (by omega)])); done) | (exfalso; omega), by (first | rfl | ((repeat (first | rw [if_pos (by omega)] | rw [if_neg (by omega)])); (try rfl)))⟩
set_option maxHeartbeats 4000000 in
set_option maxRecDepth 100000 in
theorem m_isFigure {d : Nat} {c : Int} (hc : inR c) (σ : gS) : sC mX7_isFigure d [.int (iZ c)] σ (fun r σ' => r = some (.int (iZ (if 48 ≤ c ∧ c ≤ 57 then 1 else 0))) ∧ σ' = σ) := by
  refine sC_of rfl (Nat.le_of_ble_eq_true rfl) ?_
  show sE g_tt _ _ _ 0 [some (.int (iZ c))] [] σ
  refine q_iload_n dX7_isFigure_0 rfl rfl ?_
  refine z_bipush dX7_isFigure_1 (by decide +kernel) ?_
  refine z_icmp_lt (tgt := 16) dX7_isFigure_3 (by decide) (by unfold inR at *; omega) (by unfold inR at *; omega) (fun c_1 => ?_) (fun c_1 => ?_)
  · refine z_iconst dX7_isFigure_16 ?_
    exact s_zret dX7_isFigure_17 rfl (by omega) ⟨by first | (congr 3; (repeat (first | rw [if_pos (by omega)] | rw [if_neg (by omega)])); done) | (exfalso; omega), by (first | rfl | ((repeat (first | rw [if_pos (by omega)] | rw [if_neg (by omega)])); (try rfl)))⟩
  · refine q_iload_n dX7_isFigure_6 rfl rfl ?_
    refine z_bipush dX7_isFigure_7 (by decide +kernel) ?_
    refine z_icmp_gt (tgt := 16) dX7_isFigure_9 (by decide) (by unfold inR at *; omega) (by unfold inR at *; omega) (fun c_2 => ?_) (fun c_2 => ?_)
    · refine z_iconst dX7_isFigure_16 ?_
      exact s_zret dX7_isFigure_17 rfl (by omega) ⟨by first | (congr 3; (repeat (first | rw [if_pos (by omega)] | rw [if_neg (by omega)])); done) | (exfalso; omega), by (first | rfl | ((repeat (first | rw [if_pos (by omega)] | rw [if_neg (by omega)])); (try rfl)))⟩
    · refine z_iconst dX7_isFigure_12 ?_
      refine q_goto (tgt := 17) dX7_isFigure_13 (by decide) ?_
      exact s_zret dX7_isFigure_17 rfl (by omega) ⟨by first | (congr 3; (repeat (first | rw [if_pos (by omega)] | rw [if_neg (by omega)])); done) | (exfalso; omega), by (first | rfl | ((repeat (first | rw [if_pos (by omega)] | rw [if_neg (by omega)])); (try rfl)))⟩
set_option maxHeartbeats 4000000 in
set_option maxRecDepth 100000 in
theorem m_ofPerson {d : Nat} (hd : 2 ≤ d) {p : Int} (hp : inR p) (σ : gS) (A F : Nat → Int) (h0 : 0 ≤ A 0) (h5 : A 0 ≤ 5) : sC mX7_ofPerson d [.ref 384, .int (iZ p)] (ms σ A F) (fun r σ' => r = some (.int (iZ (if 0 ≤ p ∧ p < A 0 then A (19 + p).toNat else -2))) ∧ σ' = ms σ A F) := by
  refine sC_of rfl (Nat.le_of_ble_eq_true rfl) ?_
  show sE g_tt _ _ _ 0 [some (.ref 384), some (.int (iZ p))] [] (ms σ A F)
  refine q_aload_n dX7_ofPerson_0 rfl rfl ?_
  refine q_iload_n dX7_ofPerson_1 rfl rfl ?_
  refine s_callV (ci := 7) (a := 384) (As := [.int (iZ p)]) (S := []) dX7_ofPerson_2 okX7_isPerson mlX7_367 rfl (by omega) rfl (Nat.le_of_ble_eq_true rfl) (show kd 384 = 7 from rfl) (by decide) rfl (m_isPerson (d := d - 1) (by omega) (p := p) (by unfold inR at *; omega) σ A F (by omega) (by omega)) (fun v_ σ_ hq => ?_)
  obtain ⟨rfl, e9⟩ := hq
  have e9 := e9.symm
  subst e9
  show sE g_tt _ _ _ 5 [some (.ref 384), some (.int (iZ p))] [.int (iZ (if 0 ≤ p ∧ p < A 0 then 1 else 0))] (ms σ A F)
  refine z_if_eq (tgt := 20) dX7_ofPerson_5 (by decide) inR_01 (fun c_1 => ?_) (fun c_1 => ?_)
  · have c_1 := if01_0 c_1
    refine z_bipush dX7_ofPerson_20 (by decide +kernel) ?_
    exact s_iretZ dX7_ofPerson_22 rfl ⟨by first | (congr 3; (repeat (first | rw [if_pos (by omega)] | rw [if_neg (by omega)])); done) | (exfalso; omega), by (first | rfl | ((repeat (first | rw [if_pos (by omega)] | rw [if_neg (by omega)])); (try rfl)))⟩
  · have c_1 := if01_1 c_1
    refine q_aload_n dX7_ofPerson_8 rfl rfl ?_
    refine sg7 (kf := 0) (v := .ref 385) dX7_ofPerson_9 flX7_7 (show kd 384 = 7 from rfl) (by decide) rfl ?_
    refine z_bipush dX7_ofPerson_12 (by decide +kernel) ?_
    refine q_iload_n dX7_ofPerson_14 rfl rfl ?_
    refine z_iadd dX7_ofPerson_15 ?_
    refine s_iald (n := 1583) (x := A ((19 + p).toNat)) dX7_ofPerson_16 (show kd 385 = 100 + 1583 from rfl) (by omega) (by omega) (by decide) rfl ?_
    refine q_goto (tgt := 22) dX7_ofPerson_17 (by decide) ?_
    exact s_iretZ dX7_ofPerson_22 rfl ⟨by first | (congr 3; (repeat (first | rw [if_pos (by omega)] | rw [if_neg (by omega)])); done) | (exfalso; omega), by (first | rfl | ((repeat (first | rw [if_pos (by omega)] | rw [if_neg (by omega)])); (try rfl)))⟩
set_option maxHeartbeats 4000000 in
set_option maxRecDepth 100000 in
theorem m_is {d : Nat} (hd : 1 ≤ d) {n : Int} (hn : inR n) (σ : gS) (A F : Nat → Int) : sC mX7_is d [.ref 384, .int (iZ n)] (ms σ A F) (fun r σ' => r = some (.int (iZ (if 0 ≤ n ∧ n ≤ 4 then A (5 + n).toNat else if n = 5 then mSum A 8 else -2))) ∧ σ' = ms σ A F) := by
  refine sC_of rfl (Nat.le_of_ble_eq_true rfl) ?_
  show sE g_tt _ _ _ 0 [some (.ref 384), some (.int (iZ n))] [] (ms σ A F)
  refine q_iload_n dX7_is_0 rfl rfl ?_
  refine z_iconst dX7_is_1 ?_
  refine z_iconst dX7_is_2 ?_
  refine s_callS (As := [.int (iZ n), .int (iZ 0), .int (iZ 4)]) (S := []) dX7_is_3 okX7_isIn mlX7_66 rfl (by omega) rfl (Nat.le_of_ble_eq_true rfl) (m_isIn (d := d - 1) (v := n) (a := 0) (b := 4) (by unfold inR at *; omega) (by unfold inR at *; omega) (by unfold inR at *; omega) (ms σ A F)) (fun v_ σ_ hq => ?_)
  obtain ⟨rfl, e9⟩ := hq
  have e9 := e9.symm
  subst e9
  show sE g_tt _ _ _ 6 [some (.ref 384), some (.int (iZ n))] [.int (iZ (if 0 ≤ n ∧ n ≤ 4 then 1 else 0))] (ms σ A F)
  refine z_if_eq (tgt := 20) dX7_is_6 (by decide) inR_01 (fun c_1 => ?_) (fun c_1 => ?_)
  · have c_1 := if01_0 c_1
    refine q_iload_n dX7_is_20 rfl rfl ?_
    refine z_iconst dX7_is_21 ?_
    refine z_icmp_ne (tgt := 32) dX7_is_22 (by decide) (by unfold inR at *; omega) (by unfold inR at *; omega) (fun c_2 => ?_) (fun c_2 => ?_)
    · refine z_bipush dX7_is_32 (by decide +kernel) ?_
      exact s_iretZ dX7_is_34 rfl ⟨by first | (congr 3; (repeat (first | rw [if_pos (by omega)] | rw [if_neg (by omega)])); done) | (exfalso; omega), by (first | rfl | ((repeat (first | rw [if_pos (by omega)] | rw [if_neg (by omega)])); (try rfl)))⟩
    · refine q_aload_n dX7_is_25 rfl rfl ?_
      refine s_callV (ci := 7) (a := 384) (As := []) (S := []) dX7_is_26 okX7_allKind mlX7_370 rfl (by omega) rfl (Nat.le_of_ble_eq_true rfl) (show kd 384 = 7 from rfl) (by decide) rfl (m_allKind (d := d - 1) σ A F) (fun v_ σ_ hq => ?_)
      obtain ⟨rfl, e9⟩ := hq
      have e9 := e9.symm
      subst e9
      show sE g_tt _ _ _ 29 [some (.ref 384), some (.int (iZ n))] [.int (iZ (mSum A 8))] (ms σ A F)
      refine q_goto (tgt := 34) dX7_is_29 (by decide) ?_
      exact s_iretZ dX7_is_34 rfl ⟨by first | (congr 3; (repeat (first | rw [if_pos (by omega)] | rw [if_neg (by omega)])); done) | (exfalso; omega), by (first | rfl | ((repeat (first | rw [if_pos (by omega)] | rw [if_neg (by omega)])); (try rfl)))⟩
  · have c_1 := if01_1 c_1
    refine q_aload_n dX7_is_9 rfl rfl ?_
    refine sg7 (kf := 0) (v := .ref 385) dX7_is_10 flX7_7 (show kd 384 = 7 from rfl) (by decide) rfl ?_
    refine z_iconst dX7_is_13 ?_
    refine q_iload_n dX7_is_14 rfl rfl ?_
    refine z_iadd dX7_is_15 ?_
    refine s_iald (n := 1583) (x := A ((5 + n).toNat)) dX7_is_16 (show kd 385 = 100 + 1583 from rfl) (by omega) (by omega) (by decide) rfl ?_
    refine q_goto (tgt := 34) dX7_is_17 (by decide) ?_
    exact s_iretZ dX7_is_34 rfl ⟨by first | (congr 3; (repeat (first | rw [if_pos (by omega)] | rw [if_neg (by omega)])); done) | (exfalso; omega), by (first | rfl | ((repeat (first | rw [if_pos (by omega)] | rw [if_neg (by omega)])); (try rfl)))⟩
/-- the set of the first n houses with a need -/
def mSick (A : Nat → Int) : Nat → Nat
  | 0 => 0
  | n + 1 => mSick A n ||| (if 0 < A (29 + n) then 2 ^ n else 0)
set_option maxHeartbeats 4000000 in
set_option maxRecDepth 100000 in
theorem lp_sick {d : Nat} (σ : gS) (A F : Nat → Int) (hdu : ∀ k, k < 8 → inR (A (29 + k))) : ∀ (n : Nat) (k : Nat), k ≤ 8 → 8 - (k : Int) < (n : Int) → sE g_tt mX7_sick d (fun r σ' => r = some (.int (iZ (((mSick A 8 : Nat) : Int)))) ∧ σ' = ms σ A F) 4 [some (.ref 384), some (.int (iZ ((mSick A k : Nat) : Int))), some (.int (iZ (k : Int)))] [] (ms σ A F) := by
  intro n
  induction n with
  | zero =>
    intro k hk hn
    exact absurd hn (by omega)
  | succ n ih =>
    intro k hk hn
    refine q_iload_n dX7_sick_4 rfl rfl ?_
    refine z_bipush dX7_sick_5 (by decide +kernel) ?_
    refine z_icmp_ge (tgt := 38) dX7_sick_7 (by decide) (by unfold inR at *; omega) (by unfold inR at *; omega) (fun c_1 => ?_) (fun c_1 => ?_)
    · refine q_iload_n dX7_sick_38 rfl rfl ?_
      exact s_iretZ dX7_sick_39 rfl ⟨by rw [show k = 8 by omega], rfl⟩
    · refine q_iload_n dX7_sick_10 rfl rfl ?_
      refine q_aload_n dX7_sick_11 rfl rfl ?_
      refine sg7 (kf := 0) (v := .ref 385) dX7_sick_12 flX7_7 (show kd 384 = 7 from rfl) (by decide) rfl ?_
      refine z_bipush dX7_sick_15 (by decide +kernel) ?_
      refine q_iload_n dX7_sick_17 rfl rfl ?_
      refine z_iadd dX7_sick_18 ?_
      refine s_iald (n := 1583) (x := A (29 + k)) dX7_sick_19 (show kd 385 = 100 + 1583 from rfl) (by omega) (by omega) (by decide) rfl ?_
      refine z_if_le (tgt := 29) dX7_sick_20 (by decide) (hdu _ (by omega)) (fun c_2 => ?_) (fun c_2 => ?_)
      · refine z_iconst dX7_sick_29 ?_
        refine z_ior (m := mSick A k) (k := 0) dX7_sick_30 ?_
        refine q_istore_n dX7_sick_31 rfl (by decide) ?_
        show sE g_tt _ _ _ 32 [some (.ref 384), some (.int (iZ (((mSick A k) ||| 0 : Nat) : Int))), some (.int (iZ (k : Int)))] [] (ms σ A F)
        refine z_iinc dX7_sick_32 rfl (by decide) ?_
        show sE g_tt _ _ _ 35 [some (.ref 384), some (.int (iZ (((mSick A k) ||| 0 : Nat) : Int))), some (.int (iZ ((k : Int) + 1)))] [] (ms σ A F)
        refine q_goto (tgt := 4) dX7_sick_35 (by decide) ?_
        have k9 := ih (k + 1) (by omega) (by omega)
        rw [show mSick A (k + 1) = mSick A k ||| 0 by simp only [mSick, if_neg (show ¬ 0 < A (29 + k) by omega)]] at k9
        exact k9
      · refine z_iconst dX7_sick_23 ?_
        refine q_iload_n dX7_sick_24 rfl rfl ?_
        refine z_ishl (x := 1) (k := k) dX7_sick_25 (by omega) ?_
        refine z_top (y := ((2 ^ k : Nat) : Int)) (by simp) ?_
        refine q_goto (tgt := 30) dX7_sick_26 (by decide) ?_
        refine z_ior (m := mSick A k) (k := 2 ^ k) dX7_sick_30 ?_
        refine q_istore_n dX7_sick_31 rfl (by decide) ?_
        show sE g_tt _ _ _ 32 [some (.ref 384), some (.int (iZ (((mSick A k) ||| (2 ^ k) : Nat) : Int))), some (.int (iZ (k : Int)))] [] (ms σ A F)
        refine z_iinc dX7_sick_32 rfl (by decide) ?_
        show sE g_tt _ _ _ 35 [some (.ref 384), some (.int (iZ (((mSick A k) ||| (2 ^ k) : Nat) : Int))), some (.int (iZ ((k : Int) + 1)))] [] (ms σ A F)
        refine q_goto (tgt := 4) dX7_sick_35 (by decide) ?_
        have k9 := ih (k + 1) (by omega) (by omega)
        rw [show mSick A (k + 1) = mSick A k ||| 2 ^ k by simp only [mSick, if_pos (show 0 < A (29 + k) by omega)]] at k9
        exact k9
set_option maxHeartbeats 4000000 in
set_option maxRecDepth 100000 in
theorem m_sick {d : Nat} (σ : gS) (A F : Nat → Int) (hdu : ∀ k, k < 8 → inR (A (29 + k))) : sC mX7_sick d [.ref 384] (ms σ A F) (fun r σ' => r = some (.int (iZ (((mSick A 8 : Nat) : Int)))) ∧ σ' = ms σ A F) := by
  refine sC_of rfl (Nat.le_of_ble_eq_true rfl) ?_
  show sE g_tt _ _ _ 0 [some (.ref 384), none, none] [] (ms σ A F)
  refine z_iconst dX7_sick_0 ?_
  refine q_istore_n dX7_sick_1 rfl (by decide) ?_
  show sE g_tt _ _ _ 2 [some (.ref 384), some (.int (iZ 0)), none] [] (ms σ A F)
  refine z_iconst dX7_sick_2 ?_
  refine q_istore_n dX7_sick_3 rfl (by decide) ?_
  show sE g_tt _ _ _ 4 [some (.ref 384), some (.int (iZ 0)), some (.int (iZ 0))] [] (ms σ A F)
  exact lp_sick σ A F hdu 9 0 (by omega) (by omega)
def mBal (A : Nat → Int) : Nat → Int
  | 0 => 0
  | n + 1 => mBal A n + (if n < 4 then A (11 + n) else -(A (11 + n)))
set_option maxHeartbeats 4000000 in
set_option maxRecDepth 100000 in
theorem lp_balance {d : Nat} (σ : gS) (A F : Nat → Int) : ∀ (n : Nat) (k : Nat), k ≤ 8 → 8 - (k : Int) < (n : Int) → sE g_tt mX7_balance d (fun r σ' => r = some (.int (iZ (mBal A 8))) ∧ σ' = ms σ A F) 4 [some (.ref 384), some (.int (iZ (mBal A k))), some (.int (iZ (k : Int)))] [] (ms σ A F) := by
  intro n
  induction n with
  | zero =>
    intro k hk hn
    exact absurd hn (by omega)
  | succ n ih =>
    intro k hk hn
    refine q_iload_n dX7_balance_4 rfl rfl ?_
    refine z_bipush dX7_balance_5 (by decide +kernel) ?_
    refine z_icmp_ge (tgt := 46) dX7_balance_7 (by decide) (by unfold inR at *; omega) (by unfold inR at *; omega) (fun c_1 => ?_) (fun c_1 => ?_)
    · refine q_iload_n dX7_balance_46 rfl rfl ?_
      exact s_iretZ dX7_balance_47 rfl ⟨by rw [show k = 8 by omega], rfl⟩
    · refine q_iload_n dX7_balance_10 rfl rfl ?_
      refine q_iload_n dX7_balance_11 rfl rfl ?_
      refine z_iconst dX7_balance_12 ?_
      refine z_icmp_ge (tgt := 28) dX7_balance_13 (by decide) (by unfold inR at *; omega) (by unfold inR at *; omega) (fun c_2 => ?_) (fun c_2 => ?_)
      · refine q_aload_n dX7_balance_28 rfl rfl ?_
        refine sg7 (kf := 0) (v := .ref 385) dX7_balance_29 flX7_7 (show kd 384 = 7 from rfl) (by decide) rfl ?_
        refine z_bipush dX7_balance_32 (by decide +kernel) ?_
        refine q_iload_n dX7_balance_34 rfl rfl ?_
        refine z_iadd dX7_balance_35 ?_
        refine s_iald (n := 1583) (x := A (11 + k)) dX7_balance_36 (show kd 385 = 100 + 1583 from rfl) (by omega) (by omega) (by decide) rfl ?_
        refine z_ineg dX7_balance_37 ?_
        refine z_iadd dX7_balance_38 ?_
        refine q_istore_n dX7_balance_39 rfl (by decide) ?_
        show sE g_tt _ _ _ 40 [some (.ref 384), some (.int (iZ ((mBal A k) + (-(A (11 + k)))))), some (.int (iZ (k : Int)))] [] (ms σ A F)
        refine z_iinc dX7_balance_40 rfl (by decide) ?_
        show sE g_tt _ _ _ 43 [some (.ref 384), some (.int (iZ ((mBal A k) + (-(A (11 + k)))))), some (.int (iZ ((k : Int) + 1)))] [] (ms σ A F)
        refine q_goto (tgt := 4) dX7_balance_43 (by decide) ?_
        have k9 := ih (k + 1) (by omega) (by omega)
        rw [show mBal A (k + 1) = mBal A k + -(A (11 + k)) by simp only [mBal, if_neg (show ¬ k < 4 by omega)]] at k9
        exact k9
      · refine q_aload_n dX7_balance_16 rfl rfl ?_
        refine sg7 (kf := 0) (v := .ref 385) dX7_balance_17 flX7_7 (show kd 384 = 7 from rfl) (by decide) rfl ?_
        refine z_bipush dX7_balance_20 (by decide +kernel) ?_
        refine q_iload_n dX7_balance_22 rfl rfl ?_
        refine z_iadd dX7_balance_23 ?_
        refine s_iald (n := 1583) (x := A (11 + k)) dX7_balance_24 (show kd 385 = 100 + 1583 from rfl) (by omega) (by omega) (by decide) rfl ?_
        refine q_goto (tgt := 38) dX7_balance_25 (by decide) ?_
        refine z_iadd dX7_balance_38 ?_
        refine q_istore_n dX7_balance_39 rfl (by decide) ?_
        show sE g_tt _ _ _ 40 [some (.ref 384), some (.int (iZ ((mBal A k) + (A (11 + k))))), some (.int (iZ (k : Int)))] [] (ms σ A F)
        refine z_iinc dX7_balance_40 rfl (by decide) ?_
        show sE g_tt _ _ _ 43 [some (.ref 384), some (.int (iZ ((mBal A k) + (A (11 + k))))), some (.int (iZ ((k : Int) + 1)))] [] (ms σ A F)
        refine q_goto (tgt := 4) dX7_balance_43 (by decide) ?_
        have k9 := ih (k + 1) (by omega) (by omega)
        rw [show mBal A (k + 1) = mBal A k + A (11 + k) by simp only [mBal, if_pos (show k < 4 by omega)]] at k9
        exact k9
set_option maxHeartbeats 4000000 in
set_option maxRecDepth 100000 in
theorem m_balance {d : Nat} (σ : gS) (A F : Nat → Int) : sC mX7_balance d [.ref 384] (ms σ A F) (fun r σ' => r = some (.int (iZ (mBal A 8))) ∧ σ' = ms σ A F) := by
  refine sC_of rfl (Nat.le_of_ble_eq_true rfl) ?_
  show sE g_tt _ _ _ 0 [some (.ref 384), none, none] [] (ms σ A F)
  refine z_iconst dX7_balance_0 ?_
  refine q_istore_n dX7_balance_1 rfl (by decide) ?_
  show sE g_tt _ _ _ 2 [some (.ref 384), some (.int (iZ 0)), none] [] (ms σ A F)
  refine z_iconst dX7_balance_2 ?_
  refine q_istore_n dX7_balance_3 rfl (by decide) ?_
  show sE g_tt _ _ _ 4 [some (.ref 384), some (.int (iZ 0)), some (.int (iZ 0))] [] (ms σ A F)
  exact lp_balance σ A F 9 0 (by omega) (by omega)
set_option maxHeartbeats 4000000 in
set_option maxRecDepth 100000 in
theorem m_isWord {d : Nat} {x : Int} (hx : inL x) (σ : gS) (A F : Nat → Int) (hw : inL σ.2.2.2.1) (ht : inR (F 9)) : sC mX7_isWord d [.ref 384, .long (lZ x)] (ms σ A F) (fun r σ' => r = some (.int (iZ (if F 9 = 2 ∧ σ.2.2.2.1 = x then 1 else 0))) ∧ σ' = ms σ A F) := by
  refine sC_of rfl (Nat.le_of_ble_eq_true rfl) ?_
  show sE g_tt _ _ _ 0 [some (.ref 384), some (.long (lZ x)), none] [] (ms σ A F)
  refine q_aload_n dX7_isWord_0 rfl rfl ?_
  refine sg7 (kf := 9) (v := .int (iZ (F 9))) dX7_isWord_1 flX7_91 (show kd 384 = 7 from rfl) (by decide) rfl ?_
  refine z_iconst dX7_isWord_4 ?_
  refine z_icmp_ne (tgt := 21) dX7_isWord_5 (by decide) (by unfold inR at *; omega) (by unfold inR at *; omega) (fun c_1 => ?_) (fun c_1 => ?_)
  · refine z_iconst dX7_isWord_21 ?_
    exact s_zret dX7_isWord_22 rfl (by omega) ⟨by first | (congr 3; (repeat (first | rw [if_pos (by omega)] | rw [if_neg (by omega)])); done) | (exfalso; omega), by (first | rfl | ((repeat (first | rw [if_pos (by omega)] | rw [if_neg (by omega)])); (try rfl)))⟩
  · refine q_aload_n dX7_isWord_8 rfl rfl ?_
    refine sg7 (kf := 11) (v := .long (lZ σ.2.2.2.1)) dX7_isWord_9 flX7_104 (show kd 384 = 7 from rfl) (by decide) rfl ?_
    refine q_lload_n dX7_isWord_12 rfl rfl ?_
    refine z_lif_ne (tgt := 21) dX7_isWord_13 dX7_isWord_14 (by decide) (by assumption) (by assumption) (fun c_2 => ?_) (fun c_2 => ?_)
    · refine z_iconst dX7_isWord_21 ?_
      exact s_zret dX7_isWord_22 rfl (by omega) ⟨by first | (congr 3; (repeat (first | rw [if_pos (by omega)] | rw [if_neg (by omega)])); done) | (exfalso; omega), by (first | rfl | ((repeat (first | rw [if_pos (by omega)] | rw [if_neg (by omega)])); (try rfl)))⟩
    · refine z_iconst dX7_isWord_17 ?_
      refine q_goto (tgt := 22) dX7_isWord_18 (by decide) ?_
      exact s_zret dX7_isWord_22 rfl (by omega) ⟨by first | (congr 3; (repeat (first | rw [if_pos (by omega)] | rw [if_neg (by omega)])); done) | (exfalso; omega), by (first | rfl | ((repeat (first | rw [if_pos (by omega)] | rw [if_neg (by omega)])); (try rfl)))⟩
set_option maxHeartbeats 4000000 in
set_option maxRecDepth 100000 in
theorem m_rank {d : Nat} {n : Int} (hn : inR n) (σ : gS) : sC mX7_rank d [.int (iZ n)] σ (fun r σ' => r = some (.int (iZ (if 40 ≤ n then 0 else if n = 22 then 1 else if n = 21 then 2 else if n = 20 then 3 else if 10 ≤ n then 4 else if n = 5 ∨ n = 2 ∨ n = 4 then 7 else if 8 ≤ n then 6 else 5))) ∧ σ' = σ) := by
  refine sC_of rfl (Nat.le_of_ble_eq_true rfl) ?_
  show sE g_tt _ _ _ 0 [some (.int (iZ n))] [] σ
  refine q_iload_n dX7_rank_0 rfl rfl ?_
  refine z_bipush dX7_rank_1 (by decide +kernel) ?_
  refine z_icmp_lt (tgt := 10) dX7_rank_3 (by decide) (by unfold inR at *; omega) (by unfold inR at *; omega) (fun c_1 => ?_) (fun c_1 => ?_)
  · refine q_iload_n dX7_rank_10 rfl rfl ?_
    refine z_bipush dX7_rank_11 (by decide +kernel) ?_
    refine z_icmp_ne (tgt := 20) dX7_rank_13 (by decide) (by unfold inR at *; omega) (by unfold inR at *; omega) (fun c_2 => ?_) (fun c_2 => ?_)
    · refine q_iload_n dX7_rank_20 rfl rfl ?_
      refine z_bipush dX7_rank_21 (by decide +kernel) ?_
      refine z_icmp_ne (tgt := 30) dX7_rank_23 (by decide) (by unfold inR at *; omega) (by unfold inR at *; omega) (fun c_3 => ?_) (fun c_3 => ?_)
      · refine q_iload_n dX7_rank_30 rfl rfl ?_
        refine z_bipush dX7_rank_31 (by decide +kernel) ?_
        refine z_icmp_ne (tgt := 40) dX7_rank_33 (by decide) (by unfold inR at *; omega) (by unfold inR at *; omega) (fun c_4 => ?_) (fun c_4 => ?_)
        · refine q_iload_n dX7_rank_40 rfl rfl ?_
          refine z_bipush dX7_rank_41 (by decide +kernel) ?_
          refine z_icmp_lt (tgt := 50) dX7_rank_43 (by decide) (by unfold inR at *; omega) (by unfold inR at *; omega) (fun c_5 => ?_) (fun c_5 => ?_)
          · refine q_iload_n dX7_rank_50 rfl rfl ?_
            refine z_iconst dX7_rank_51 ?_
            refine z_icmp_eq (tgt := 65) dX7_rank_52 (by decide) (by unfold inR at *; omega) (by unfold inR at *; omega) (fun c_6 => ?_) (fun c_6 => ?_)
            · refine z_bipush dX7_rank_65 (by decide +kernel) ?_
              refine q_goto (tgt := 82) dX7_rank_67 (by decide) ?_
              exact s_iretZ dX7_rank_82 rfl ⟨by first | (congr 3; (repeat (first | rw [if_pos (by omega)] | rw [if_neg (by omega)])); done) | (exfalso; omega), by (first | rfl | ((repeat (first | rw [if_pos (by omega)] | rw [if_neg (by omega)])); (try rfl)))⟩
            · refine q_iload_n dX7_rank_55 rfl rfl ?_
              refine z_iconst dX7_rank_56 ?_
              refine z_icmp_eq (tgt := 65) dX7_rank_57 (by decide) (by unfold inR at *; omega) (by unfold inR at *; omega) (fun c_7 => ?_) (fun c_7 => ?_)
              · refine z_bipush dX7_rank_65 (by decide +kernel) ?_
                refine q_goto (tgt := 82) dX7_rank_67 (by decide) ?_
                exact s_iretZ dX7_rank_82 rfl ⟨by first | (congr 3; (repeat (first | rw [if_pos (by omega)] | rw [if_neg (by omega)])); done) | (exfalso; omega), by (first | rfl | ((repeat (first | rw [if_pos (by omega)] | rw [if_neg (by omega)])); (try rfl)))⟩
              · refine q_iload_n dX7_rank_60 rfl rfl ?_
                refine z_iconst dX7_rank_61 ?_
                refine z_icmp_ne (tgt := 70) dX7_rank_62 (by decide) (by unfold inR at *; omega) (by unfold inR at *; omega) (fun c_8 => ?_) (fun c_8 => ?_)
                · refine q_iload_n dX7_rank_70 rfl rfl ?_
                  refine z_bipush dX7_rank_71 (by decide +kernel) ?_
                  refine z_icmp_lt (tgt := 81) dX7_rank_73 (by decide) (by unfold inR at *; omega) (by unfold inR at *; omega) (fun c_9 => ?_) (fun c_9 => ?_)
                  · refine z_iconst dX7_rank_81 ?_
                    exact s_iretZ dX7_rank_82 rfl ⟨by first | (congr 3; (repeat (first | rw [if_pos (by omega)] | rw [if_neg (by omega)])); done) | (exfalso; omega), by (first | rfl | ((repeat (first | rw [if_pos (by omega)] | rw [if_neg (by omega)])); (try rfl)))⟩
                  · refine z_bipush dX7_rank_76 (by decide +kernel) ?_
                    refine q_goto (tgt := 82) dX7_rank_78 (by decide) ?_
                    exact s_iretZ dX7_rank_82 rfl ⟨by first | (congr 3; (repeat (first | rw [if_pos (by omega)] | rw [if_neg (by omega)])); done) | (exfalso; omega), by (first | rfl | ((repeat (first | rw [if_pos (by omega)] | rw [if_neg (by omega)])); (try rfl)))⟩
                · refine z_bipush dX7_rank_65 (by decide +kernel) ?_
                  refine q_goto (tgt := 82) dX7_rank_67 (by decide) ?_
                  exact s_iretZ dX7_rank_82 rfl ⟨by first | (congr 3; (repeat (first | rw [if_pos (by omega)] | rw [if_neg (by omega)])); done) | (exfalso; omega), by (first | rfl | ((repeat (first | rw [if_pos (by omega)] | rw [if_neg (by omega)])); (try rfl)))⟩
          · refine z_iconst dX7_rank_46 ?_
            refine q_goto (tgt := 82) dX7_rank_47 (by decide) ?_
            exact s_iretZ dX7_rank_82 rfl ⟨by first | (congr 3; (repeat (first | rw [if_pos (by omega)] | rw [if_neg (by omega)])); done) | (exfalso; omega), by (first | rfl | ((repeat (first | rw [if_pos (by omega)] | rw [if_neg (by omega)])); (try rfl)))⟩
        · refine z_iconst dX7_rank_36 ?_
          refine q_goto (tgt := 82) dX7_rank_37 (by decide) ?_
          exact s_iretZ dX7_rank_82 rfl ⟨by first | (congr 3; (repeat (first | rw [if_pos (by omega)] | rw [if_neg (by omega)])); done) | (exfalso; omega), by (first | rfl | ((repeat (first | rw [if_pos (by omega)] | rw [if_neg (by omega)])); (try rfl)))⟩
      · refine z_iconst dX7_rank_26 ?_
        refine q_goto (tgt := 82) dX7_rank_27 (by decide) ?_
        exact s_iretZ dX7_rank_82 rfl ⟨by first | (congr 3; (repeat (first | rw [if_pos (by omega)] | rw [if_neg (by omega)])); done) | (exfalso; omega), by (first | rfl | ((repeat (first | rw [if_pos (by omega)] | rw [if_neg (by omega)])); (try rfl)))⟩
    · refine z_iconst dX7_rank_16 ?_
      refine q_goto (tgt := 82) dX7_rank_17 (by decide) ?_
      exact s_iretZ dX7_rank_82 rfl ⟨by first | (congr 3; (repeat (first | rw [if_pos (by omega)] | rw [if_neg (by omega)])); done) | (exfalso; omega), by (first | rfl | ((repeat (first | rw [if_pos (by omega)] | rw [if_neg (by omega)])); (try rfl)))⟩
  · refine z_iconst dX7_rank_6 ?_
    refine q_goto (tgt := 82) dX7_rank_7 (by decide) ?_
    exact s_iretZ dX7_rank_82 rfl ⟨by first | (congr 3; (repeat (first | rw [if_pos (by omega)] | rw [if_neg (by omega)])); done) | (exfalso; omega), by (first | rfl | ((repeat (first | rw [if_pos (by omega)] | rw [if_neg (by omega)])); (try rfl)))⟩
set_option maxHeartbeats 4000000 in
set_option maxRecDepth 100000 in
theorem m_isOf {d : Nat} {n : Int} (hn : inR n) (σ : gS) (A F : Nat → Int) (hs : inR (F 14)) : sC mX7_isOf d [.ref 384, .int (iZ n)] (ms σ A F) (fun r σ' => r = some (.int (iZ (if n < 5 ∨ (n = 7 ∧ F 14 = 1) ∨ (¬ n = 7 ∧ F 14 = 0) then 1 else 0))) ∧ σ' = ms σ A F) := by
  refine sC_of rfl (Nat.le_of_ble_eq_true rfl) ?_
  show sE g_tt _ _ _ 0 [some (.ref 384), some (.int (iZ n))] [] (ms σ A F)
  refine q_iload_n dX7_isOf_0 rfl rfl ?_
  refine z_iconst dX7_isOf_1 ?_
  refine z_icmp_lt (tgt := 29) dX7_isOf_2 (by decide) (by unfold inR at *; omega) (by unfold inR at *; omega) (fun c_1 => ?_) (fun c_1 => ?_)
  · refine z_iconst dX7_isOf_29 ?_
    refine q_goto (tgt := 34) dX7_isOf_30 (by decide) ?_
    exact s_zret dX7_isOf_34 rfl (by omega) ⟨by first | (congr 3; (repeat (first | rw [if_pos (by omega)] | rw [if_neg (by omega)])); done) | (exfalso; omega), by (first | rfl | ((repeat (first | rw [if_pos (by omega)] | rw [if_neg (by omega)])); (try rfl)))⟩
  · refine q_iload_n dX7_isOf_5 rfl rfl ?_
    refine z_bipush dX7_isOf_6 (by decide +kernel) ?_
    refine z_icmp_ne (tgt := 22) dX7_isOf_8 (by decide) (by unfold inR at *; omega) (by unfold inR at *; omega) (fun c_2 => ?_) (fun c_2 => ?_)
    · refine q_aload_n dX7_isOf_22 rfl rfl ?_
      refine sg7 (kf := 14) (v := .int (iZ (F 14))) dX7_isOf_23 flX7_139 (show kd 384 = 7 from rfl) (by decide) rfl ?_
      refine z_if_ne (tgt := 33) dX7_isOf_26 (by decide) (by unfold inR at *; omega) (fun c_3 => ?_) (fun c_3 => ?_)
      · refine z_iconst dX7_isOf_33 ?_
        exact s_zret dX7_isOf_34 rfl (by omega) ⟨by first | (congr 3; (repeat (first | rw [if_pos (by omega)] | rw [if_neg (by omega)])); done) | (exfalso; omega), by (first | rfl | ((repeat (first | rw [if_pos (by omega)] | rw [if_neg (by omega)])); (try rfl)))⟩
      · refine z_iconst dX7_isOf_29 ?_
        refine q_goto (tgt := 34) dX7_isOf_30 (by decide) ?_
        exact s_zret dX7_isOf_34 rfl (by omega) ⟨by first | (congr 3; (repeat (first | rw [if_pos (by omega)] | rw [if_neg (by omega)])); done) | (exfalso; omega), by (first | rfl | ((repeat (first | rw [if_pos (by omega)] | rw [if_neg (by omega)])); (try rfl)))⟩
    · refine q_aload_n dX7_isOf_11 rfl rfl ?_
      refine sg7 (kf := 14) (v := .int (iZ (F 14))) dX7_isOf_12 flX7_139 (show kd 384 = 7 from rfl) (by decide) rfl ?_
      refine z_iconst dX7_isOf_15 ?_
      refine z_icmp_ne (tgt := 33) dX7_isOf_16 (by decide) (by unfold inR at *; omega) (by unfold inR at *; omega) (fun c_4 => ?_) (fun c_4 => ?_)
      · refine z_iconst dX7_isOf_33 ?_
        exact s_zret dX7_isOf_34 rfl (by omega) ⟨by first | (congr 3; (repeat (first | rw [if_pos (by omega)] | rw [if_neg (by omega)])); done) | (exfalso; omega), by (first | rfl | ((repeat (first | rw [if_pos (by omega)] | rw [if_neg (by omega)])); (try rfl)))⟩
      · refine q_goto (tgt := 29) dX7_isOf_19 (by decide) ?_
        refine z_iconst dX7_isOf_29 ?_
        refine q_goto (tgt := 34) dX7_isOf_30 (by decide) ?_
        exact s_zret dX7_isOf_34 rfl (by omega) ⟨by first | (congr 3; (repeat (first | rw [if_pos (by omega)] | rw [if_neg (by omega)])); done) | (exfalso; omega), by (first | rfl | ((repeat (first | rw [if_pos (by omega)] | rw [if_neg (by omega)])); (try rfl)))⟩
set_option maxHeartbeats 4000000 in
set_option maxRecDepth 100000 in
theorem m_about {d : Nat} (hd : 1 ≤ d) {n : Int} (hn : inR n) (σ : gS) (A F : Nat → Int) (hdu : ∀ k, k < 8 → inR (A (29 + k))) : sC mX7_about d [.ref 384, .int (iZ n)] (ms σ A F) (fun r σ' => r = some (.int (iZ (if n = 4 then ((mSick A 8 : Nat) : Int) else if n = 5 then A 4 else if 0 ≤ n ∧ n ≤ 3 then A n.toNat else if n = 6 then F 4 else -2))) ∧ σ' = ms σ A F) := by
  refine sC_of rfl (Nat.le_of_ble_eq_true rfl) ?_
  show sE g_tt _ _ _ 0 [some (.ref 384), some (.int (iZ n))] [] (ms σ A F)
  refine q_iload_n dX7_about_0 rfl rfl ?_
  refine z_iconst dX7_about_1 ?_
  refine z_icmp_ne (tgt := 12) dX7_about_2 (by decide) (by unfold inR at *; omega) (by unfold inR at *; omega) (fun c_1 => ?_) (fun c_1 => ?_)
  · refine q_iload_n dX7_about_12 rfl rfl ?_
    refine z_iconst dX7_about_13 ?_
    refine z_icmp_ne (tgt := 26) dX7_about_14 (by decide) (by unfold inR at *; omega) (by unfold inR at *; omega) (fun c_2 => ?_) (fun c_2 => ?_)
    · refine q_iload_n dX7_about_26 rfl rfl ?_
      refine z_iconst dX7_about_27 ?_
      refine z_iconst dX7_about_28 ?_
      refine s_callS (As := [.int (iZ n), .int (iZ 0), .int (iZ 3)]) (S := []) dX7_about_29 okX7_isIn mlX7_66 rfl (by omega) rfl (Nat.le_of_ble_eq_true rfl) (m_isIn (d := d - 1) (v := n) (a := 0) (b := 3) (by unfold inR at *; omega) (by unfold inR at *; omega) (by unfold inR at *; omega) (ms σ A F)) (fun v_ σ_ hq => ?_)
      obtain ⟨rfl, e9⟩ := hq
      have e9 := e9.symm
      subst e9
      show sE g_tt _ _ _ 32 [some (.ref 384), some (.int (iZ n))] [.int (iZ (if 0 ≤ n ∧ n ≤ 3 then 1 else 0))] (ms σ A F)
      refine z_if_eq (tgt := 44) dX7_about_32 (by decide) inR_01 (fun c_3 => ?_) (fun c_3 => ?_)
      · have c_3 := if01_0 c_3
        refine q_iload_n dX7_about_44 rfl rfl ?_
        refine z_bipush dX7_about_45 (by decide +kernel) ?_
        refine z_icmp_ne (tgt := 57) dX7_about_47 (by decide) (by unfold inR at *; omega) (by unfold inR at *; omega) (fun c_4 => ?_) (fun c_4 => ?_)
        · refine z_bipush dX7_about_57 (by decide +kernel) ?_
          exact s_iretZ dX7_about_59 rfl ⟨by first | (congr 3; (repeat (first | rw [if_pos (by omega)] | rw [if_neg (by omega)])); done) | (exfalso; omega), by (first | rfl | ((repeat (first | rw [if_pos (by omega)] | rw [if_neg (by omega)])); (try rfl)))⟩
        · refine q_aload_n dX7_about_50 rfl rfl ?_
          refine sg7 (kf := 4) (v := .int (iZ (F 4))) dX7_about_51 flX7_74 (show kd 384 = 7 from rfl) (by decide) rfl ?_
          refine q_goto (tgt := 59) dX7_about_54 (by decide) ?_
          exact s_iretZ dX7_about_59 rfl ⟨by first | (congr 3; (repeat (first | rw [if_pos (by omega)] | rw [if_neg (by omega)])); done) | (exfalso; omega), by (first | rfl | ((repeat (first | rw [if_pos (by omega)] | rw [if_neg (by omega)])); (try rfl)))⟩
      · have c_3 := if01_1 c_3
        refine q_aload_n dX7_about_35 rfl rfl ?_
        refine sg7 (kf := 0) (v := .ref 385) dX7_about_36 flX7_7 (show kd 384 = 7 from rfl) (by decide) rfl ?_
        refine q_iload_n dX7_about_39 rfl rfl ?_
        refine s_iald (n := 1583) (x := A n.toNat) dX7_about_40 (show kd 385 = 100 + 1583 from rfl) (by omega) (by omega) (by decide) rfl ?_
        refine q_goto (tgt := 59) dX7_about_41 (by decide) ?_
        exact s_iretZ dX7_about_59 rfl ⟨by first | (congr 3; (repeat (first | rw [if_pos (by omega)] | rw [if_neg (by omega)])); done) | (exfalso; omega), by (first | rfl | ((repeat (first | rw [if_pos (by omega)] | rw [if_neg (by omega)])); (try rfl)))⟩
    · refine q_aload_n dX7_about_17 rfl rfl ?_
      refine sg7 (kf := 0) (v := .ref 385) dX7_about_18 flX7_7 (show kd 384 = 7 from rfl) (by decide) rfl ?_
      refine z_iconst dX7_about_21 ?_
      refine s_iald (n := 1583) (x := A 4) dX7_about_22 (show kd 385 = 100 + 1583 from rfl) (by omega) (by omega) (by decide) rfl ?_
      refine q_goto (tgt := 59) dX7_about_23 (by decide) ?_
      exact s_iretZ dX7_about_59 rfl ⟨by first | (congr 3; (repeat (first | rw [if_pos (by omega)] | rw [if_neg (by omega)])); done) | (exfalso; omega), by (first | rfl | ((repeat (first | rw [if_pos (by omega)] | rw [if_neg (by omega)])); (try rfl)))⟩
  · refine q_aload_n dX7_about_5 rfl rfl ?_
    refine s_callV (ci := 7) (a := 384) (As := []) (S := []) dX7_about_6 okX7_sick mlX7_439 rfl (by omega) rfl (Nat.le_of_ble_eq_true rfl) (show kd 384 = 7 from rfl) (by decide) rfl (m_sick (d := d - 1) σ A F hdu) (fun v_ σ_ hq => ?_)
    obtain ⟨rfl, e9⟩ := hq
    have e9 := e9.symm
    subst e9
    show sE g_tt _ _ _ 9 [some (.ref 384), some (.int (iZ n))] [.int (iZ ((mSick A 8 : Nat) : Int))] (ms σ A F)
    refine q_goto (tgt := 59) dX7_about_9 (by decide) ?_
    exact s_iretZ dX7_about_59 rfl ⟨by first | (congr 3; (repeat (first | rw [if_pos (by omega)] | rw [if_neg (by omega)])); done) | (exfalso; omega), by (first | rfl | ((repeat (first | rw [if_pos (by omega)] | rw [if_neg (by omega)])); (try rfl)))⟩
