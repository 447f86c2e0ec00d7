theorem kd_st {s : Nat} (h : kd s = 2) : kd (s + 1) = 100 + 8 ∧ kd (s + 2) = 100 + 5 ∧ kd (s + 3) = 100 + 30 ∧ kd (s + 4) = 100 + 8 := by
  have q : ∀ x, x < 398 → kd x = 2 → kd (x + 1) = 100 + 8 ∧ kd (x + 2) = 100 + 5 ∧ kd (x + 3) = 100 + 30 ∧ kd (x + 4) = 100 + 8 := by decide +kernel
  exact q s (kd_lt h (by decide)) h
set_option maxHeartbeats 4000000 in
set_option maxRecDepth 100000 in
theorem c_isHouse {d : Nat} {z : Int} (hz : inR z) (σ : gS) : sC mX6_isHouse d [.int (iZ z)] σ (fun v σ' => v = some (.int (iZ (if 0 ≤ z ∧ z < 8 then 1 else 0))) ∧ σ' = σ) := by
  refine sC_of rfl (Nat.le_of_ble_eq_true rfl) ?_
  show sE g_tt _ _ _ 0 [some (.int (iZ z))] [] σ
  refine q_iload_n dX6_isHouse_0 rfl rfl ?_
  refine z_if_lt (tgt := 14) dX6_isHouse_1 (by decide) (by unfold inR at *; omega) (fun c_1 => ?_) (fun c_1 => ?_)
  · refine z_iconst dX6_isHouse_14 ?_
    exact s_zret dX6_isHouse_15 rfl (by omega) ⟨by congr 3; (first | rw [if_pos (by omega)] | rw [if_neg (by omega)]), rfl⟩
  · refine q_iload_n dX6_isHouse_4 rfl rfl ?_
    refine z_bipush dX6_isHouse_5 (by decide +kernel) ?_
    refine z_icmp_ge (tgt := 14) dX6_isHouse_7 (by decide) (by unfold inR at *; omega) (by unfold inR at *; omega) (fun c_2 => ?_) (fun c_2 => ?_)
    · refine z_iconst dX6_isHouse_14 ?_
      exact s_zret dX6_isHouse_15 rfl (by omega) ⟨by congr 3; (first | rw [if_pos (by omega)] | rw [if_neg (by omega)]), rfl⟩
    · refine z_iconst dX6_isHouse_10 ?_
      refine q_goto (tgt := 15) dX6_isHouse_11 (by decide) ?_
      exact s_zret dX6_isHouse_15 rfl (by omega) ⟨by congr 3; (first | rw [if_pos (by omega)] | rw [if_neg (by omega)]), rfl⟩
set_option maxHeartbeats 4000000 in
set_option maxRecDepth 100000 in
theorem c_takesGood {d s : Nat} {z n : Int} (hs : kd s = 2) (σ : gS) (h0 : 0 ≤ z) (h8 : z < 8) (hr : inR (σ.2.1 (s + 1) z.toNat + n)) : sC mX2_takesGood d [.ref s, .int (iZ z), .int (iZ n)] σ (fun v σ' => v = some (.int (iZ (if σ.2.1 (s + 1) z.toNat + n ≤ 99 then 1 else 0))) ∧ σ' = σ) := by
  refine sC_of rfl (Nat.le_of_ble_eq_true rfl) ?_
  show sE g_tt _ _ _ 0 [some (.ref s), some (.int (iZ z)), some (.int (iZ n))] [] σ
  refine q_aload_n dX2_takesGood_0 rfl rfl ?_
  refine sg2 (kf := 0) (v := .ref (s + 1)) dX2_takesGood_1 flX2_9 hs (by decide) rfl ?_
  refine q_iload_n dX2_takesGood_4 rfl rfl ?_
  refine s_iald (n := 8) (x := σ.2.1 (s + 1) z.toNat) dX2_takesGood_5 (kd_st hs).1 (by omega) (by omega) (by decide) rfl ?_
  refine q_iload_n dX2_takesGood_6 rfl rfl ?_
  refine z_iadd dX2_takesGood_7 ?_
  refine z_bipush dX2_takesGood_8 (by decide +kernel) ?_
  refine z_icmp_gt (tgt := 17) dX2_takesGood_10 (by decide) (by unfold inR at *; omega) (by unfold inR at *; omega) (fun c_1 => ?_) (fun c_1 => ?_)
  · refine z_iconst dX2_takesGood_17 ?_
    exact s_zret dX2_takesGood_18 rfl (by omega) ⟨by congr 3; (first | rw [if_pos (by omega)] | rw [if_neg (by omega)]), rfl⟩
  · refine z_iconst dX2_takesGood_13 ?_
    refine q_goto (tgt := 18) dX2_takesGood_14 (by decide) ?_
    exact s_zret dX2_takesGood_18 rfl (by omega) ⟨by congr 3; (first | rw [if_pos (by omega)] | rw [if_neg (by omega)]), rfl⟩
set_option maxHeartbeats 4000000 in
set_option maxRecDepth 100000 in
theorem c_kindnessOf {d s : Nat} {z : Int} (hs : kd s = 2) (σ : gS) (hz : inR z) : sC mX2_kindnessOf d [.ref s, .int (iZ z)] σ (fun v σ' => v = some (.int (iZ (if 0 ≤ z ∧ z < 8 then σ.2.1 (s + 1) z.toNat else 0))) ∧ σ' = σ) := by
  refine sC_of rfl (Nat.le_of_ble_eq_true rfl) ?_
  show sE g_tt _ _ _ 0 [some (.ref s), some (.int (iZ z))] [] σ
  refine q_iload_n dX2_kindnessOf_0 rfl rfl ?_
  refine z_if_lt (tgt := 19) dX2_kindnessOf_1 (by decide) (by unfold inR at *; omega) (fun c_1 => ?_) (fun c_1 => ?_)
  · refine z_iconst dX2_kindnessOf_19 ?_
    exact s_iretZ dX2_kindnessOf_20 rfl ⟨by congr 3; (first | rw [if_pos (by omega)] | rw [if_neg (by omega)]), rfl⟩
  · refine q_iload_n dX2_kindnessOf_4 rfl rfl ?_
    refine z_bipush dX2_kindnessOf_5 (by decide +kernel) ?_
    refine z_icmp_ge (tgt := 19) dX2_kindnessOf_7 (by decide) (by unfold inR at *; omega) (by unfold inR at *; omega) (fun c_2 => ?_) (fun c_2 => ?_)
    · refine z_iconst dX2_kindnessOf_19 ?_
      exact s_iretZ dX2_kindnessOf_20 rfl ⟨by congr 3; (first | rw [if_pos (by omega)] | rw [if_neg (by omega)]), rfl⟩
    · refine q_aload_n dX2_kindnessOf_10 rfl rfl ?_
      refine sg2 (kf := 0) (v := .ref (s + 1)) dX2_kindnessOf_11 flX2_9 hs (by decide) rfl ?_
      refine q_iload_n dX2_kindnessOf_14 rfl rfl ?_
      refine s_iald (n := 8) (x := σ.2.1 (s + 1) z.toNat) dX2_kindnessOf_15 (kd_st hs).1 (by omega) (by omega) (by decide) rfl ?_
      refine q_goto (tgt := 20) dX2_kindnessOf_16 (by decide) ?_
      exact s_iretZ dX2_kindnessOf_20 rfl ⟨by congr 3; (first | rw [if_pos (by omega)] | rw [if_neg (by omega)]), rfl⟩
