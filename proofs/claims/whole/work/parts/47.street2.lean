/-! ===== streets: small methods ===== -/
set_option maxHeartbeats 4000000 in
set_option maxRecDepth 100000 in
theorem c_giveOne {d s : Nat} (hd : 1 ≤ d) (hs : kd s = 2) (σ : gS) (K H E N f : Nat → Int) {z : Int} (hz : inR z) : sC mX2_giveOne d [.ref s, .int (iZ z)] (st σ s K H E N f) (fun r σ' => r = none ∧ σ' = st σ s (if 0 ≤ z ∧ z < 8 then va_up K z.toNat (K z.toNat + 1) else K) H E N (if 0 ≤ z ∧ z < 8 then f else va_up f 3 (f 3 + 1))) := by
  refine sC_of rfl (Nat.le_of_ble_eq_true rfl) ?_
  show sE g_tt _ _ _ 0 [some (.ref s), some (.int (iZ z))] [] (st σ s K H E N f)
  refine q_iload_n dX2_giveOne_0 rfl rfl ?_
  refine s_callSN (host := RX6) (As := [.int (iZ z)]) (S := []) dX2_giveOne_1 okX6_isHouse (by decide) rfl (by omega) rfl (Nat.le_of_ble_eq_true rfl) (c_isHouse (d := d - 1) (z := z) (by unfold inR at *; omega) (st σ s K H E N f)) (fun v_ σ_ hq => ?_)
  obtain ⟨rfl, e9⟩ := hq
  have e9 := e9.symm
  subst e9
  show sE g_tt _ _ _ 4 [some (.ref s), some (.int (iZ z))] [.int (iZ (if 0 ≤ z ∧ z < 8 then 1 else 0))] (st σ s K H E N f)
  refine z_if_eq (tgt := 20) dX2_giveOne_4 (by decide) inR_01 (fun c_1 => ?_) (fun c_1 => ?_)
  · have c_1 := if01_0 c_1
    refine q_aload_n dX2_giveOne_20 rfl rfl ?_
    refine q_dup dX2_giveOne_21 rfl ?_
    refine tg (kf := 3) (x := f 3) dX2_giveOne_22 flX2_22 hs (by decide) rfl ?_
    refine z_iconst dX2_giveOne_25 ?_
    refine z_iadd dX2_giveOne_26 ?_
    refine tp (kf := 3) dX2_giveOne_27 flX2_22 hs (by decide) ?_
    exact s_vret dX2_giveOne_30 rfl ⟨rfl, by (repeat (first | rw [if_pos (by omega)] | rw [if_neg (by omega)]))⟩
  · have c_1 := if01_1 c_1
    refine q_aload_n dX2_giveOne_7 rfl rfl ?_
    refine sg2 (kf := 0) (v := .ref (s + 1)) dX2_giveOne_8 flX2_9 hs (by decide) rfl ?_
    refine q_iload_n dX2_giveOne_11 rfl rfl ?_
    refine q_dup2 dX2_giveOne_12 rfl rfl ?_
    refine tl1 (x := K z.toNat) dX2_giveOne_13 hs (by omega) (by omega) rfl ?_
    refine z_iconst dX2_giveOne_14 ?_
    refine z_iadd dX2_giveOne_15 ?_
    refine ts1 dX2_giveOne_16 hs (by omega) (by omega) ?_
    refine q_goto (tgt := 30) dX2_giveOne_17 (by decide) ?_
    exact s_vret dX2_giveOne_30 rfl ⟨rfl, by (repeat (first | rw [if_pos (by omega)] | rw [if_neg (by omega)]))⟩
/-- a line written down: the rows -/
def cWrE (E f : Nat → Int) (p h : Int) : Nat → Int := if 30 ≤ f 9 then va_up (va_cpy E E 1 0 29) 29 ((f 6 * 8 + p) * 16 + h + 1) else va_up E (f 9).toNat ((f 6 * 8 + p) * 16 + h + 1)
def cWrF (f : Nat → Int) : Nat → Int := if 30 ≤ f 9 then va_up (va_up f 9 29) 9 30 else va_up f 9 (f 9 + 1)
set_option maxHeartbeats 4000000 in
set_option maxRecDepth 100000 in
theorem c_writeDown {d s : Nat} (hd : 1 ≤ d) (hs : kd s = 2) (σ : gS) (K H E N f : Nat → Int) {p h : Int} (h0 : 0 ≤ f 9) (h30 : f 9 ≤ 30) : sC mX2_writeDown d [.ref s, .int (iZ p), .int (iZ h)] (st σ s K H E N f) (fun r σ' => r = none ∧ σ' = st σ s K H (cWrE E f p h) N (cWrF f)) := by
  refine sC_of rfl (Nat.le_of_ble_eq_true rfl) ?_
  show sE g_tt _ _ _ 0 [some (.ref s), some (.int (iZ p)), some (.int (iZ h))] [] (st σ s K H E N f)
  refine q_aload_n dX2_writeDown_0 rfl rfl ?_
  refine tg (kf := 9) (x := f 9) dX2_writeDown_1 flX2_40 hs (by decide) rfl ?_
  refine z_bipush dX2_writeDown_4 (by decide +kernel) ?_
  refine z_icmp_lt (tgt := 30) dX2_writeDown_6 (by decide) (by unfold inR at *; omega) (by unfold inR at *; omega) (fun c_1 => ?_) (fun c_1 => ?_)
  · refine q_aload_n dX2_writeDown_30 rfl rfl ?_
    refine sg2 (kf := 8) (v := .ref (s + 3)) dX2_writeDown_31 flX2_37 hs (by decide) rfl ?_
    refine q_aload_n dX2_writeDown_34 rfl rfl ?_
    refine tg (kf := 9) (x := f 9) dX2_writeDown_35 flX2_40 hs (by decide) rfl ?_
    refine q_aload_n dX2_writeDown_38 rfl rfl ?_
    refine tg (kf := 6) (x := f 6) dX2_writeDown_39 flX2_31 hs (by decide) rfl ?_
    refine z_bipush dX2_writeDown_42 (by decide +kernel) ?_
    refine z_imul dX2_writeDown_44 ?_
    refine q_iload_n dX2_writeDown_45 rfl rfl ?_
    refine z_iadd dX2_writeDown_46 ?_
    refine z_bipush dX2_writeDown_47 (by decide +kernel) ?_
    refine z_imul dX2_writeDown_49 ?_
    refine q_iload_n dX2_writeDown_50 rfl rfl ?_
    refine z_iadd dX2_writeDown_51 ?_
    refine z_iconst dX2_writeDown_52 ?_
    refine z_iadd dX2_writeDown_53 ?_
    refine ts3 dX2_writeDown_54 hs (by omega) (by omega) ?_
    refine q_aload_n dX2_writeDown_55 rfl rfl ?_
    refine q_dup dX2_writeDown_56 rfl ?_
    refine tg (kf := 9) (x := f 9) dX2_writeDown_57 flX2_40 hs (by decide) rfl ?_
    refine z_iconst dX2_writeDown_60 ?_
    refine z_iadd dX2_writeDown_61 ?_
    refine tp (kf := 9) dX2_writeDown_62 flX2_40 hs (by decide) ?_
    exact s_vret dX2_writeDown_65 rfl ⟨rfl, by unfold cWrE cWrF; (repeat (first | rw [if_pos (by omega)] | rw [if_neg (by omega)])); (try rfl)⟩
  · refine q_aload_n dX2_writeDown_9 rfl rfl ?_
    refine sg2 (kf := 8) (v := .ref (s + 3)) dX2_writeDown_10 flX2_37 hs (by decide) rfl ?_
    refine z_iconst dX2_writeDown_13 ?_
    refine q_aload_n dX2_writeDown_14 rfl rfl ?_
    refine sg2 (kf := 8) (v := .ref (s + 3)) dX2_writeDown_15 flX2_37 hs (by decide) rfl ?_
    refine z_iconst dX2_writeDown_18 ?_
    refine z_bipush dX2_writeDown_19 (by decide +kernel) ?_
    refine s_copy (n0 := 30) (n1 := 30) dX2_writeDown_21 mlX2_49 (by omega) (Nat.le_of_ble_eq_true rfl) (kd_st hs).2.2.1 (kd_st hs).2.2.1 (by decide) (by decide) (by omega) (by omega) (by omega) (by omega) (by omega) ?_
    rw [st_E, st_wE]
    show sE g_tt _ _ _ 24 [some (.ref s), some (.int (iZ p)), some (.int (iZ h))] [] (st σ s K H (va_cpy E E 1 0 29) N f)
    refine q_aload_n dX2_writeDown_24 rfl rfl ?_
    refine z_bipush dX2_writeDown_25 (by decide +kernel) ?_
    refine tp (kf := 9) dX2_writeDown_27 flX2_40 hs (by decide) ?_
    refine q_aload_n dX2_writeDown_30 rfl rfl ?_
    refine sg2 (kf := 8) (v := .ref (s + 3)) dX2_writeDown_31 flX2_37 hs (by decide) rfl ?_
    refine q_aload_n dX2_writeDown_34 rfl rfl ?_
    refine tg (kf := 9) (x := 29) dX2_writeDown_35 flX2_40 hs (by decide) rfl ?_
    refine q_aload_n dX2_writeDown_38 rfl rfl ?_
    refine tg (kf := 6) (x := f 6) dX2_writeDown_39 flX2_31 hs (by decide) rfl ?_
    refine z_bipush dX2_writeDown_42 (by decide +kernel) ?_
    refine z_imul dX2_writeDown_44 ?_
    refine q_iload_n dX2_writeDown_45 rfl rfl ?_
    refine z_iadd dX2_writeDown_46 ?_
    refine z_bipush dX2_writeDown_47 (by decide +kernel) ?_
    refine z_imul dX2_writeDown_49 ?_
    refine q_iload_n dX2_writeDown_50 rfl rfl ?_
    refine z_iadd dX2_writeDown_51 ?_
    refine z_iconst dX2_writeDown_52 ?_
    refine z_iadd dX2_writeDown_53 ?_
    refine ts3 dX2_writeDown_54 hs (by omega) (by omega) ?_
    refine q_aload_n dX2_writeDown_55 rfl rfl ?_
    refine q_dup dX2_writeDown_56 rfl ?_
    refine tg (kf := 9) (x := 29) dX2_writeDown_57 flX2_40 hs (by decide) rfl ?_
    refine z_iconst dX2_writeDown_60 ?_
    refine z_iadd dX2_writeDown_61 ?_
    refine tp (kf := 9) dX2_writeDown_62 flX2_40 hs (by decide) ?_
    exact s_vret dX2_writeDown_65 rfl ⟨rfl, by unfold cWrE cWrF; (repeat (first | rw [if_pos (by omega)] | rw [if_neg (by omega)])); (try rfl)⟩
set_option maxHeartbeats 4000000 in
set_option maxRecDepth 100000 in
theorem c_drawn {d s : Nat} (hs : kd s = 2) (σ : gS) (K H E N f : Nat → Int) (h0 : 0 ≤ f 7) (h4 : f 7 ≤ 40000) : sC mX2_drawn d [.ref s] (st σ s K H E N f) (fun r σ' => r = some (.int (iZ (f 7))) ∧ σ' = st σ s K H E N (va_up f 7 (mNew (f 7)))) := by
  refine sC_of rfl (Nat.le_of_ble_eq_true rfl) ?_
  show sE g_tt _ _ _ 0 [some (.ref s), none] [] (st σ s K H E N f)
  refine q_aload_n dX2_drawn_0 rfl rfl ?_
  refine tg (kf := 7) (x := f 7) dX2_drawn_1 flX2_34 hs (by decide) rfl ?_
  refine q_istore_n dX2_drawn_4 rfl (by decide) ?_
  show sE g_tt _ _ _ 5 [some (.ref s), some (.int (iZ (f 7)))] [] (st σ s K H E N f)
  refine q_aload_n dX2_drawn_5 rfl rfl ?_
  refine q_aload_n dX2_drawn_6 rfl rfl ?_
  refine tg (kf := 7) (x := f 7) dX2_drawn_7 flX2_34 hs (by decide) rfl ?_
  refine z_sipush dX2_drawn_10 (by decide +kernel) ?_
  refine z_imul dX2_drawn_13 ?_
  refine z_sipush dX2_drawn_14 (by decide +kernel) ?_
  refine z_iadd dX2_drawn_17 ?_
  refine z_sipush dX2_drawn_18 (by decide +kernel) ?_
  refine z_irem dX2_drawn_21 (by unfold inR at *; omega) (by unfold inR at *; omega) (by decide) ?_
  refine tp (kf := 7) dX2_drawn_22 flX2_34 hs (by decide) ?_
  refine q_iload_n dX2_drawn_25 rfl rfl ?_
  exact s_iretZ dX2_drawn_26 rfl ⟨rfl, rfl⟩
