/-! ===== the class's text: clear, addClause ===== -/
theorem kd_tx3 {x : Nat} (h : kd x = 4) : kd (x + 2) = 100 + 24 ∧ kd (x + 3) = 100 + 24 ∧ kd (x + 4) = 100 + 24 := by
  have := (kd_tx h).2.2
  rcases this with rfl | rfl | rfl | rfl | rfl <;> decide +kernel
abbrev clS (σ : gS) (x : Nat) : gS := sI (sI (sI (sI (sI σ x 1 0) x 9 0) x 10 0) x 2 (-1)) x 4 (-1)
abbrev acS (σ : gS) (x N : Nat) (a b c : Int) : gS := sI (sR (sR (sR σ (x + 2) N a) (x + 3) N b) (x + 4) N c) x 9 ((N : Int) + 1)
set_option maxHeartbeats 4000000 in
set_option maxRecDepth 100000 in
theorem x_clear {d x : Nat} (hx : kd x = 4) (σ : gS) : sC mX4_clear d [.ref x] σ (fun r σ' => r = none ∧ σ' = clS σ x) := by
  refine sC_of rfl (Nat.le_of_ble_eq_true rfl) ?_
  show sE g_tt _ _ _ 0 [some (.ref x)] [] σ
  refine q_aload_n dX4_clear_0 rfl rfl ?_
  refine z_iconst dX4_clear_1 ?_
  refine sp4 (kf := 1) dX4_clear_2 flX4_15 hx (by decide) ?_
  refine q_aload_n dX4_clear_5 rfl rfl ?_
  refine z_iconst dX4_clear_6 ?_
  refine sp4 (kf := 9) dX4_clear_7 flX4_40 hx (by decide) ?_
  refine q_aload_n dX4_clear_10 rfl rfl ?_
  refine z_iconst dX4_clear_11 ?_
  refine sz4_10 dX4_clear_12 flX4_43 hx (by omega) ?_
  refine q_aload_n dX4_clear_15 rfl rfl ?_
  refine z_iconst dX4_clear_16 ?_
  refine sp4 (kf := 2) dX4_clear_17 flX4_19 hx (by decide) ?_
  refine q_aload_n dX4_clear_20 rfl rfl ?_
  refine z_iconst dX4_clear_21 ?_
  refine sp4 (kf := 4) dX4_clear_22 flX4_25 hx (by decide) ?_
  exact s_vret dX4_clear_25 rfl ⟨rfl, rfl⟩
set_option maxHeartbeats 4000000 in
set_option maxRecDepth 100000 in
theorem x_addClause {d x N : Nat} (hx : kd x = 4) (σ : gS) (h9 : σ.1 x 9 = (N : Int)) (hN : N ≤ 24) {a b c : Int} : sC mX4_addClause d [.ref x, .int (iZ a), .int (iZ b), .int (iZ c)] σ (fun r σ' => r = none ∧ σ' = if N < 24 then acS σ x N a b c else σ) := by
  refine sC_of rfl (Nat.le_of_ble_eq_true rfl) ?_
  show sE g_tt _ _ _ 0 [some (.ref x), some (.int (iZ a)), some (.int (iZ b)), some (.int (iZ c))] [] σ
  refine q_aload_n dX4_addClause_0 rfl rfl ?_
  refine sg4 (kf := 9) (v := .int (iZ (N : Int))) dX4_addClause_1 flX4_40 hx (by decide) (by show some (Value.int (iZ ((σ).1 x 9))) = _; rw [show (σ).1 x 9 = (N : Int) from h9]) ?_
  refine z_bipush dX4_addClause_4 (by decide +kernel) ?_
  refine z_icmp_ge (tgt := 49) dX4_addClause_6 (by decide) (by unfold inR at *; omega) (by unfold inR at *; omega) (fun c_1 => ?_) (fun c_1 => ?_)
  · exact s_vret dX4_addClause_49 rfl ⟨rfl, by rw [if_neg (by omega)]⟩
  · refine q_aload_n dX4_addClause_9 rfl rfl ?_
    refine sg4 (kf := 6) (v := .ref (x + 2)) dX4_addClause_10 flX4_31 hx (by decide) rfl ?_
    refine q_aload_n dX4_addClause_13 rfl rfl ?_
    refine sg4 (kf := 9) (v := .int (iZ (N : Int))) dX4_addClause_14 flX4_40 hx (by decide) (by show some (Value.int (iZ ((σ).1 x 9))) = _; rw [show (σ).1 x 9 = (N : Int) from h9]) ?_
    refine q_iload_n dX4_addClause_17 rfl rfl ?_
    refine s_iast (n := 24) dX4_addClause_18 (kd_tx3 hx).1 (by omega) (by omega) (by decide) ?_
    refine q_aload_n dX4_addClause_19 rfl rfl ?_
    refine sg4 (kf := 7) (v := .ref (x + 3)) dX4_addClause_20 flX4_34 hx (by decide) rfl ?_
    refine q_aload_n dX4_addClause_23 rfl rfl ?_
    refine sg4 (kf := 9) (v := .int (iZ (N : Int))) dX4_addClause_24 flX4_40 hx (by decide) (by show some (Value.int (iZ ((sR σ (x + 2) N a).1 x 9))) = _; rw [show (sR σ (x + 2) N a).1 x 9 = (N : Int) from h9]) ?_
    refine q_iload_n dX4_addClause_27 rfl rfl ?_
    refine s_iast (n := 24) dX4_addClause_28 (kd_tx3 hx).2.1 (by omega) (by omega) (by decide) ?_
    refine q_aload_n dX4_addClause_29 rfl rfl ?_
    refine sg4 (kf := 8) (v := .ref (x + 4)) dX4_addClause_30 flX4_37 hx (by decide) rfl ?_
    refine q_aload_n dX4_addClause_33 rfl rfl ?_
    refine sg4 (kf := 9) (v := .int (iZ (N : Int))) dX4_addClause_34 flX4_40 hx (by decide) (by show some (Value.int (iZ ((sR (sR σ (x + 2) N a) (x + 3) N b).1 x 9))) = _; rw [show (sR (sR σ (x + 2) N a) (x + 3) N b).1 x 9 = (N : Int) from h9]) ?_
    refine q_iload_n dX4_addClause_37 rfl rfl ?_
    refine s_iast (n := 24) dX4_addClause_38 (kd_tx3 hx).2.2 (by omega) (by omega) (by decide) ?_
    refine q_aload_n dX4_addClause_39 rfl rfl ?_
    refine q_dup dX4_addClause_40 rfl ?_
    refine sg4 (kf := 9) (v := .int (iZ (N : Int))) dX4_addClause_41 flX4_40 hx (by decide) (by show some (Value.int (iZ ((sR (sR (sR σ (x + 2) N a) (x + 3) N b) (x + 4) N c).1 x 9))) = _; rw [show (sR (sR (sR σ (x + 2) N a) (x + 3) N b) (x + 4) N c).1 x 9 = (N : Int) from h9]) ?_
    refine z_iconst dX4_addClause_44 ?_
    refine z_iadd dX4_addClause_45 ?_
    refine sp4 (kf := 9) dX4_addClause_46 flX4_40 hx (by decide) ?_
    exact s_vret dX4_addClause_49 rfl ⟨rfl, by rw [if_pos (by omega)]; rfl⟩
