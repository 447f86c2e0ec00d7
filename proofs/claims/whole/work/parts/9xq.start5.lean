/-! ===== the constructor of ThankedMoves, its head ===== -/
theorem ty_d5 : ∀ j, j < 9 → defaultValue (tyX5 j) = vp_V [.null, .null, .int (iZ 0), .null, .null, .null, .int (iZ 0), .int (iZ 0), .int (iZ 0)] j := by decide +kernel
theorem ty_d3 : ∀ j, j < 7 → defaultValue (tyX3 j) = vp_V [.null, .int (iZ 0), .null, .null, .null, .int (iZ 0), .int (iZ 0)] j := by decide +kernel
theorem ty_d1 : ∀ j, j < 7 → defaultValue (tyX1 j) = vp_V [.int (iZ 0), .int (iZ 0), .null, .null, .int (iZ 0), .int (iZ 0), .int (iZ 0)] j := by decide +kernel
theorem ty_d0 : ∀ j, j < 5 → defaultValue (tyX0 j) = vp_V [.null, .int (iZ 0), .int (iZ 0), .null, .int (iZ 0)] j := by decide +kernel
theorem ce_tw {g : Nat → va_E} {p : Nat} (hp : tpl p) (hg : ∀ a, p ≤ a → a < p + 160 → g a = F0c a) : ∀ i, p ≤ i → i < p + 160 → g_ce (p + 160) (g i) := by
  intro i a b
  rw [hg i a b]
  have kk := tpl_k hp
  have tr := F0_tr hp
  have st : ∀ s, kd s = 2 → p < s → s + 5 ≤ p + 160 → s ≤ i → i < s + 5 → g_ce (p + 160) (F0c i) := fun s ks x y z w => g_ce_m (ce_2 (g := F0c) ks (fun _ _ _ => rfl) i z w) y
  by_cases e0 : i = p
  · rw [e0, F0_5 kk.1]
    intro v hv
    simp only [List.mem_cons, List.not_mem_nil, or_false] at hv
    rcases hv with rfl | rfl | rfl | rfl | rfl | rfl | rfl | rfl | rfl
    all_goals first | trivial | exact Or.inl (show (p + 1 : Nat) < p + 160 by omega) | exact Or.inl (show (p + 6 : Nat) < p + 160 by omega) | exact Or.inl (show (p + 7 : Nat) < p + 160 by omega) | exact Or.inl (show (p + 8 : Nat) < p + 160 by omega) | exact Or.inl (show (p + 9 : Nat) < p + 160 by omega)
  by_cases e1 : i < p + 6
  · exact st (p + 1) kk.2.1 (by omega) (by omega) (by omega) (by omega)
  by_cases e6 : i = p + 6
  · rw [e6, F0_sTr hp]; exact ce_sTr (by omega)
  by_cases e7 : i = p + 7
  · rw [e7, F0_dUr hp]; trivial
  by_cases e8 : i = p + 8
  · rw [e8, tr.1]; trivial
  by_cases e9 : i = p + 9
  · rw [e9, tr.2]; trivial
  · have q : p + 10 + 5 * ((i - p - 10) / 5) ≤ i ∧ i < p + 10 + 5 * ((i - p - 10) / 5) + 5 := by omega
    exact st (p + 10 + 5 * ((i - p - 10) / 5)) (kk.2.2.2.2.2.2 _ (by omega)) (by omega) (by omega) q.1 q.2
set_option maxHeartbeats 4000000 in
set_option maxRecDepth 100000 in
theorem k_X6_init {d : Nat} (hd : 4 ≤ d) (K : cls (va_up F0c 0 (.inr (6, [.null, .null, .null, .null, .null, .null, .null, .null, .null, .null])), 1, 10)) : gC mX6_init d (1, 10, 384, 7884) [.ref 0] (va_up F0c 0 (.inr (6, [.null, .null, .null, .null, .null, .null, .null, .null, .null, .null])), 1, 10) (fun v h' => v = none ∧ h' = (F0c, 384, 7884) ∧ cls h') := by
  refine gC_of (h := (va_up F0c 0 (.inr (6, [.null, .null, .null, .null, .null, .null, .null, .null, .null, .null])), 1, 10)) rfl (Nat.le_of_ble_eq_true rfl) (by show 1 ≤ 384; decide) (by show 10 ≤ 7884; decide) ?_
  show gE g_tt _ _ _ _ 0 [some (.ref 0), none] [] (va_up F0c 0 (.inr (6, [.null, .null, .null, .null, .null, .null, .null, .null, .null, .null])), 1, 10)
  refine q_aload_n dX6_init_0 rfl rfl ?_
  refine q_obj dX6_init_1 mlX6_1 wi_obj wc_obj (by omega) (by decide) ?_
  refine q_aload_n dX6_init_4 rfl rfl ?_
  refine q_new (h := (va_up (F0c) 0 (.inr (6, [.null, .null, .null, .null, .null, .null, .null, .null, .null, .null])), 1, 10)) (C := RX5) (T := TX5) (N := 9) (ci := 5) (fs := [.null, .null, .int (iZ 0), .null, .null, .null, .int (iZ 0), .int (iZ 0), .int (iZ 0)]) dX6_init_5 clX6_7 niX5 inRX5 uwX5 tyX5 tyX5_ok rfl ty_d5 (fun _ => rfl) (ce_null rfl) (by show 1 < 1000000; decide) (by show 1 + 1 ≤ 384 ∧ 10 + 9 ≤ 7884; decide) K (lt_one (by show 0 < 1; decide)) (ltu (by show 0 < 1; decide)) tt_Y ?_
  refine q_dup dX6_init_8 rfl ?_
  have K1 : cls (va_up (va_up (F0c) 0 (.inr (6, [.null, .null, .null, .null, .null, .null, .null, .null, .null, .null]))) 1 (.inr (5, [.null, .null, .int (iZ 0), .null, .null, .null, .int (iZ 0), .int (iZ 0), .int (iZ 0)])), 1 + 1, 10 + 9) := cls_newx K (ce_null rfl)
  have hgs : ∀ a, 1 ≤ a → a < 1 + 160 → va_up (F0c) 0 (.inr (6, [.null, .null, .null, .null, .null, .null, .null, .null, .null, .null])) a = F0c a := fun a x y => (va_up_ne _ _ (by omega))
  refine q_callI (h := (va_up (va_up (F0c) 0 (.inr (6, [.null, .null, .null, .null, .null, .null, .null, .null, .null, .null]))) 1 (.inr (5, [.null, .null, .int (iZ 0), .null, .null, .null, .int (iZ 0), .int (iZ 0), .int (iZ 0)])), 1 + 1, 10 + 9)) (M' := mX5_init) (d' := d - 1) (a := 1) (As := []) (S := [.ref 1, .ref 0]) (B1 := 1 + 160) (B2 := 10 + 9 + 2007)  dX6_init_9 okX5_init mlX6_9 rfl (by omega) rfl (Nat.le_of_ble_eq_true rfl) ⟨by show 1 + 1 ≤ 1 + 160; decide, by show 10 + 9 ≤ 10 + 9 + 2007; decide, by show 1 + 160 ≤ 384; decide, by show 10 + 9 + 2007 ≤ 7884; decide⟩ (lt2s (Or.inl (show (1 : Nat) < 1 + 1 by decide)) (Or.inl (show (0 : Nat) < 1 + 1 by decide))) (ltu (by show 0 < 1 + 1; decide)) tt_Y (k_X5_init (p := 1) (z := 10 + 9) (by omega) (Or.inl rfl) hgs K1) (fun v h' hq e1 e2 => ?_)
  obtain ⟨rfl, rfl⟩ := hq
  have K : cls (va_up (F0c) 0 (.inr (6, [.null, .null, .null, .null, .null, .null, .null, .null, .null, .null])), 161, 2026) := cls_blk (m := 1 + 160) K (ce_tw (Or.inl rfl) hgs) (by decide)
  show gE g_tt _ _ _ _ 12 [some (.ref 0), none] [.ref 1, .ref 0] (va_up (F0c) 0 (.inr (6, [.null, .null, .null, .null, .null, .null, .null, .null, .null, .null])), 161, 2026)
  refine r_putF (s := 0) (n := 161) (z := 2026) (C := RX6) (T := TX6) (N := 10) (ci := 6) (kf := 0) (ty := tyX6 0) (fs' := [.ref 1, .null, .null, .null, .null, .null, .null, .null, .null, .null]) dX6_init_12 flX6_10 uwX6 tyX6 tyX6_ok nmX6 rfl (by decide) rfl rfl rfl rfl (by decide) (show 0 < 10 by decide) (fun _ => rfl) (fun _ => rfl) rfl K (Or.inl (show (1 : Nat) < 161 by decide)) (fun K => ?_)
  refine q_aload_n dX6_init_15 rfl rfl ?_
  refine q_new (h := (va_up (F0c) 0 (.inr (6, [.ref 1, .null, .null, .null, .null, .null, .null, .null, .null, .null])), 161, 2026)) (C := RX5) (T := TX5) (N := 9) (ci := 5) (fs := [.null, .null, .int (iZ 0), .null, .null, .null, .int (iZ 0), .int (iZ 0), .int (iZ 0)]) dX6_init_16 clX6_7 niX5 inRX5 uwX5 tyX5 tyX5_ok rfl ty_d5 (fun _ => rfl) (ce_null rfl) (by show 161 < 1000000; decide) (by show 161 + 1 ≤ 384 ∧ 2026 + 9 ≤ 7884; decide) K (lt_one (by show 0 < 161; decide)) (ltu (by show 0 < 161; decide)) tt_Y ?_
  refine q_dup dX6_init_19 rfl ?_
  have K1 : cls (va_up (va_up (F0c) 0 (.inr (6, [.ref 1, .null, .null, .null, .null, .null, .null, .null, .null, .null]))) 161 (.inr (5, [.null, .null, .int (iZ 0), .null, .null, .null, .int (iZ 0), .int (iZ 0), .int (iZ 0)])), 161 + 1, 2026 + 9) := cls_newx K (ce_null rfl)
  have hgs : ∀ a, 161 ≤ a → a < 161 + 160 → va_up (F0c) 0 (.inr (6, [.ref 1, .null, .null, .null, .null, .null, .null, .null, .null, .null])) a = F0c a := fun a x y => (va_up_ne _ _ (by omega))
  refine q_callI (h := (va_up (va_up (F0c) 0 (.inr (6, [.ref 1, .null, .null, .null, .null, .null, .null, .null, .null, .null]))) 161 (.inr (5, [.null, .null, .int (iZ 0), .null, .null, .null, .int (iZ 0), .int (iZ 0), .int (iZ 0)])), 161 + 1, 2026 + 9)) (M' := mX5_init) (d' := d - 1) (a := 161) (As := []) (S := [.ref 161, .ref 0]) (B1 := 161 + 160) (B2 := 2026 + 9 + 2007)  dX6_init_20 okX5_init mlX6_9 rfl (by omega) rfl (Nat.le_of_ble_eq_true rfl) ⟨by show 161 + 1 ≤ 161 + 160; decide, by show 2026 + 9 ≤ 2026 + 9 + 2007; decide, by show 161 + 160 ≤ 384; decide, by show 2026 + 9 + 2007 ≤ 7884; decide⟩ (lt2s (Or.inl (show (161 : Nat) < 161 + 1 by decide)) (Or.inl (show (0 : Nat) < 161 + 1 by decide))) (ltu (by show 0 < 161 + 1; decide)) tt_Y (k_X5_init (p := 161) (z := 2026 + 9) (by omega) (Or.inr rfl) hgs K1) (fun v h' hq e1 e2 => ?_)
  obtain ⟨rfl, rfl⟩ := hq
  have K : cls (va_up (F0c) 0 (.inr (6, [.ref 1, .null, .null, .null, .null, .null, .null, .null, .null, .null])), 321, 4042) := cls_blk (m := 161 + 160) K (ce_tw (Or.inr rfl) hgs) (by decide)
  show gE g_tt _ _ _ _ 23 [some (.ref 0), none] [.ref 161, .ref 0] (va_up (F0c) 0 (.inr (6, [.ref 1, .null, .null, .null, .null, .null, .null, .null, .null, .null])), 321, 4042)
  refine r_putF (s := 0) (n := 321) (z := 4042) (C := RX6) (T := TX6) (N := 10) (ci := 6) (kf := 1) (ty := tyX6 1) (fs' := [.ref 1, .ref 161, .null, .null, .null, .null, .null, .null, .null, .null]) dX6_init_23 flX6_16 uwX6 tyX6 tyX6_ok nmX6 rfl (by decide) rfl rfl rfl rfl (by decide) (show 1 < 10 by decide) (fun _ => rfl) (fun _ => rfl) rfl K (Or.inl (show (161 : Nat) < 321 by decide)) (fun K => ?_)
  refine q_aload_n dX6_init_26 rfl rfl ?_
  refine z_iconst dX6_init_27 ?_
  refine q_newR (h := (va_up (F0c) 0 (.inr (6, [.ref 1, .ref 161, .null, .null, .null, .null, .null, .null, .null, .null])), 321, 4042)) (t := 4) (C := RX4) (N := 4) dX6_init_28 (Or.inr ⟨rfl, rfl⟩) clX6_19 (by decide) (by decide +kernel) (by decide) (by show 321 < 1000000; decide) (by show 321 + 1 ≤ 384 ∧ 4042 + 4 ≤ 7884; decide) K (lt_one (by show 0 < 321; decide)) (ltu (by show 0 < 321; decide)) tt_Y ?_
  have e1 : va_up (va_up (F0c) 0 (.inr (6, [.ref 1, .ref 161, .null, .null, .null, .null, .null, .null, .null, .null]))) 321 (.inl (4, 4, .inr (.inr (.inr (.inr (fun _ => none)))))) = va_up (va_up (F0c) 321 (tTr 0)) 0 (.inr (6, [.ref 1, .ref 161, .null, .null, .null, .null, .null, .null, .null, .null])) := by rw [va_cm (by decide), ← tTr_0]
  have K : cls (va_up (va_up (F0c) 321 (tTr 0)) 0 (.inr (6, [.ref 1, .ref 161, .null, .null, .null, .null, .null, .null, .null, .null])), 322, 4046) := by rw [← e1]; exact cls_newx (N := 4) K (by intro j a e; cases e)
  show gE g_tt _ _ _ _ 31 [some (.ref 0), none] [.ref 321, .ref 0] (va_up (va_up (F0c) 0 (.inr (6, [.ref 1, .ref 161, .null, .null, .null, .null, .null, .null, .null, .null]))) 321 (.inl (4, 4, .inr (.inr (.inr (.inr (fun _ => none)))))), 322, 4046)
  rw [e1]
  refine r_putF (s := 0) (n := 322) (z := 4046) (C := RX6) (T := TX6) (N := 10) (ci := 6) (kf := 2) (ty := tyX6 2) (fs' := [.ref 1, .ref 161, .ref 321, .null, .null, .null, .null, .null, .null, .null]) dX6_init_31 flX6_21 uwX6 tyX6 tyX6_ok nmX6 rfl (by decide) rfl rfl rfl rfl (by decide) (show 2 < 10 by decide) (fun _ => rfl) (fun _ => rfl) rfl K (Or.inl (show (321 : Nat) < 322 by decide)) (fun K => ?_)
  refine q_aload_n dX6_init_34 rfl rfl ?_
  refine q_new (h := (va_up (va_up (F0c) 321 (tTr 0)) 0 (.inr (6, [.ref 1, .ref 161, .ref 321, .null, .null, .null, .null, .null, .null, .null])), 322, 4046)) (C := RX4) (T := TX4) (N := 12) (ci := 4) (fs := d4) dX6_init_35 clX6_19 niX4 inRX4 uwX4 tyX4 tyX4_ok rfl ty_d4 (fun _ => rfl) (ce_null rfl) (by show 322 < 1000000; decide) (by show 322 + 1 ≤ 384 ∧ 4046 + 12 ≤ 7884; decide) K (lt_one (by show 0 < 322; decide)) (ltu (by show 0 < 322; decide)) tt_Y ?_
  refine q_dup dX6_init_38 rfl ?_
  have K1 : cls (va_up (va_up (va_up (F0c) 321 (tTr 0)) 0 (.inr (6, [.ref 1, .ref 161, .ref 321, .null, .null, .null, .null, .null, .null, .null]))) 322 (.inr (4, d4)), 322 + 1, 4046 + 12) := cls_newx K (ce_null rfl)
  have hgs : ∀ a, 322 ≤ a → a < 322 + 6 → va_up (va_up (F0c) 321 (tTr 0)) 0 (.inr (6, [.ref 1, .ref 161, .ref 321, .null, .null, .null, .null, .null, .null, .null])) a = F0c a := fun a x y => ((va_up_ne _ _ (by omega))).trans ((va_up_ne _ _ (by omega)))
  refine q_callIN (h := (va_up (va_up (va_up (F0c) 321 (tTr 0)) 0 (.inr (6, [.ref 1, .ref 161, .ref 321, .null, .null, .null, .null, .null, .null, .null]))) 322 (.inr (4, d4)), 322 + 1, 4046 + 12)) (M' := mX4_init) (d' := d - 1) (a := 322) (As := []) (S := [.ref 322, .ref 0]) (B1 := 322 + 6) (B2 := 4046 + 12 + 436) (host := RX6) dX6_init_39 okX4_init (by decide +kernel) rfl (by omega) rfl (Nat.le_of_ble_eq_true rfl) ⟨by show 322 + 1 ≤ 322 + 6; decide, by show 4046 + 12 ≤ 4046 + 12 + 436; decide, by show 322 + 6 ≤ 384; decide, by show 4046 + 12 + 436 ≤ 7884; decide⟩ (lt2s (Or.inl (show (322 : Nat) < 322 + 1 by decide)) (Or.inl (show (0 : Nat) < 322 + 1 by decide))) (ltu (by show 0 < 322 + 1; decide)) tt_Y (k_tx (s := 322) (by omega) rfl hgs K1) (fun v h' hq e1 e2 => ?_)
  obtain ⟨rfl, rfl⟩ := hq
  have K : cls (va_up (va_up (F0c) 321 (tTr 0)) 0 (.inr (6, [.ref 1, .ref 161, .ref 321, .null, .null, .null, .null, .null, .null, .null])), 328, 4494) := cls_blk (m := 322 + 6) K (ce_4 (s := 322) rfl hgs) (by decide)
  show gE g_tt _ _ _ _ 42 [some (.ref 0), none] [.ref 322, .ref 0] (va_up (va_up (F0c) 321 (tTr 0)) 0 (.inr (6, [.ref 1, .ref 161, .ref 321, .null, .null, .null, .null, .null, .null, .null])), 328, 4494)
  refine r_putF (s := 0) (n := 328) (z := 4494) (C := RX6) (T := TX6) (N := 10) (ci := 6) (kf := 3) (ty := tyX6 3) (fs' := [.ref 1, .ref 161, .ref 321, .ref 322, .null, .null, .null, .null, .null, .null]) dX6_init_42 flX6_26 uwX6 tyX6 tyX6_ok nmX6 rfl (by decide) rfl rfl rfl rfl (by decide) (show 3 < 10 by decide) (fun _ => rfl) (fun _ => rfl) rfl K (Or.inl (show (322 : Nat) < 328 by decide)) (fun K => ?_)
  refine q_aload_n dX6_init_45 rfl rfl ?_
  refine q_new (h := (va_up (va_up (F0c) 321 (tTr 0)) 0 (.inr (6, [.ref 1, .ref 161, .ref 321, .ref 322, .null, .null, .null, .null, .null, .null])), 328, 4494)) (C := RX3) (T := TX3) (N := 7) (ci := 3) (fs := [.null, .int (iZ 0), .null, .null, .null, .int (iZ 0), .int (iZ 0)]) dX6_init_46 clX6_30 niX3 inRX3 uwX3 tyX3 tyX3_ok rfl ty_d3 (fun _ => rfl) (ce_null rfl) (by show 328 < 1000000; decide) (by show 328 + 1 ≤ 384 ∧ 4494 + 7 ≤ 7884; decide) K (lt_one (by show 0 < 328; decide)) (ltu (by show 0 < 328; decide)) tt_Y ?_
  refine q_dup dX6_init_49 rfl ?_
  have K1 : cls (va_up (va_up (va_up (F0c) 321 (tTr 0)) 0 (.inr (6, [.ref 1, .ref 161, .ref 321, .ref 322, .null, .null, .null, .null, .null, .null]))) 328 (.inr (3, [.null, .int (iZ 0), .null, .null, .null, .int (iZ 0), .int (iZ 0)])), 328 + 1, 4494 + 7) := cls_newx K (ce_null rfl)
  have hgs : ∀ a, 328 ≤ a → a < 328 + 5 → va_up (va_up (F0c) 321 (tTr 0)) 0 (.inr (6, [.ref 1, .ref 161, .ref 321, .ref 322, .null, .null, .null, .null, .null, .null])) a = F0c a := fun a x y => ((va_up_ne _ _ (by omega))).trans ((va_up_ne _ _ (by omega)))
  refine q_callIN (h := (va_up (va_up (va_up (F0c) 321 (tTr 0)) 0 (.inr (6, [.ref 1, .ref 161, .ref 321, .ref 322, .null, .null, .null, .null, .null, .null]))) 328 (.inr (3, [.null, .int (iZ 0), .null, .null, .null, .int (iZ 0), .int (iZ 0)])), 328 + 1, 4494 + 7)) (M' := mX3_init) (d' := d - 1) (a := 328) (As := []) (S := [.ref 328, .ref 0]) (B1 := 328 + 5) (B2 := 4494 + 7 + 1203) (host := RX6) dX6_init_50 okX3_init (by decide +kernel) rfl (by omega) rfl (Nat.le_of_ble_eq_true rfl) ⟨by show 328 + 1 ≤ 328 + 5; decide, by show 4494 + 7 ≤ 4494 + 7 + 1203; decide, by show 328 + 5 ≤ 384; decide, by show 4494 + 7 + 1203 ≤ 7884; decide⟩ (lt2s (Or.inl (show (328 : Nat) < 328 + 1 by decide)) (Or.inl (show (0 : Nat) < 328 + 1 by decide))) (ltu (by show 0 < 328 + 1; decide)) tt_Y (k_X3_init (s := 328) (by omega) (by decide) ((hgs _ (by decide) (by decide)).trans F0_3) ((hgs _ (by decide) (by decide)).trans (F0_r (show kd 329 = 100 + 300 from rfl) (by decide) (by decide))) ((hgs _ (by decide) (by decide)).trans (F0_r (show kd 330 = 100 + 301 from rfl) (by decide) (by decide))) ((hgs _ (by decide) (by decide)).trans (F0_r (show kd 331 = 100 + 301 from rfl) (by decide) (by decide))) ((hgs _ (by decide) (by decide)).trans (F0_r (show kd 332 = 100 + 301 from rfl) (by decide) (by decide))) K1) (fun v h' hq e1 e2 => ?_)
  obtain ⟨rfl, rfl⟩ := hq
  have K : cls (va_up (va_up (F0c) 321 (tTr 0)) 0 (.inr (6, [.ref 1, .ref 161, .ref 321, .ref 322, .null, .null, .null, .null, .null, .null])), 333, 5704) := cls_blk (m := 328 + 5) K (fun i x y => by
    rw [hgs i x y]
    rcases (by omega : i = 328 ∨ i = 329 ∨ i = 330 ∨ i = 331 ∨ i = 332) with e | e | e | e | e
    · rw [e, F0_3]
      intro v hv
      simp only [List.mem_cons, List.not_mem_nil, or_false] at hv
      rcases hv with rfl | rfl | rfl | rfl | rfl | rfl | rfl
      all_goals first | trivial | exact Or.inl (show (328 + 1 : Nat) < 328 + 5 by decide) | exact Or.inl (show (328 + 2 : Nat) < 328 + 5 by decide) | exact Or.inl (show (328 + 3 : Nat) < 328 + 5 by decide) | exact Or.inl (show (328 + 4 : Nat) < 328 + 5 by decide)
    · rw [e, F0_r (show kd 329 = 100 + 300 from rfl) (by decide) (by decide)]; trivial
    · rw [e, F0_r (show kd 330 = 100 + 301 from rfl) (by decide) (by decide)]; trivial
    · rw [e, F0_r (show kd 331 = 100 + 301 from rfl) (by decide) (by decide)]; trivial
    · rw [e, F0_r (show kd 332 = 100 + 301 from rfl) (by decide) (by decide)]; trivial) (by decide)
  show gE g_tt _ _ _ _ 53 [some (.ref 0), none] [.ref 328, .ref 0] (va_up (va_up (F0c) 321 (tTr 0)) 0 (.inr (6, [.ref 1, .ref 161, .ref 321, .ref 322, .null, .null, .null, .null, .null, .null])), 333, 5704)
  refine r_putF (s := 0) (n := 333) (z := 5704) (C := RX6) (T := TX6) (N := 10) (ci := 6) (kf := 4) (ty := tyX6 4) (fs' := [.ref 1, .ref 161, .ref 321, .ref 322, .ref 328, .null, .null, .null, .null, .null]) dX6_init_53 flX6_33 uwX6 tyX6 tyX6_ok nmX6 rfl (by decide) rfl rfl rfl rfl (by decide) (show 4 < 10 by decide) (fun _ => rfl) (fun _ => rfl) rfl K (Or.inl (show (328 : Nat) < 333 by decide)) (fun K => ?_)
  refine q_aload_n dX6_init_56 rfl rfl ?_
  refine q_new (h := (va_up (va_up (F0c) 321 (tTr 0)) 0 (.inr (6, [.ref 1, .ref 161, .ref 321, .ref 322, .ref 328, .null, .null, .null, .null, .null])), 333, 5704)) (C := RX1) (T := TX1) (N := 7) (ci := 1) (fs := [.int (iZ 0), .int (iZ 0), .null, .null, .int (iZ 0), .int (iZ 0), .int (iZ 0)]) dX6_init_57 clX6_37 niX1 inRX1 uwX1 tyX1 tyX1_ok rfl ty_d1 (fun _ => rfl) (ce_null rfl) (by show 333 < 1000000; decide) (by show 333 + 1 ≤ 384 ∧ 5704 + 7 ≤ 7884; decide) K (lt_one (by show 0 < 333; decide)) (ltu (by show 0 < 333; decide)) tt_Y ?_
  refine q_dup dX6_init_60 rfl ?_
  have K1 : cls (va_up (va_up (va_up (F0c) 321 (tTr 0)) 0 (.inr (6, [.ref 1, .ref 161, .ref 321, .ref 322, .ref 328, .null, .null, .null, .null, .null]))) 333 (.inr (1, [.int (iZ 0), .int (iZ 0), .null, .null, .int (iZ 0), .int (iZ 0), .int (iZ 0)])), 333 + 1, 5704 + 7) := cls_newx K (ce_null rfl)
  have hgs : ∀ a, 333 ≤ a → a < 333 + 1 → va_up (va_up (F0c) 321 (tTr 0)) 0 (.inr (6, [.ref 1, .ref 161, .ref 321, .ref 322, .ref 328, .null, .null, .null, .null, .null])) a = F0c a := fun a x y => ((va_up_ne _ _ (by omega))).trans ((va_up_ne _ _ (by omega)))
  have at0 : (va_up (va_up (va_up (F0c) 321 (tTr 0)) 0 (.inr (6, [.ref 1, .ref 161, .ref 321, .ref 322, .ref 328, .null, .null, .null, .null, .null]))) 333 (.inr (1, [.int (iZ 0), .int (iZ 0), .null, .null, .int (iZ 0), .int (iZ 0), .int (iZ 0)]))) 0 = .inr (6, [.ref 1, .ref 161, .ref 321, .ref 322, .ref 328, .null, .null, .null, .null, .null]) := (va_up_ne _ _ (by decide)).trans (va_up_self _ _ _)
  show gE g_tt _ _ _ _ 61 [some (.ref 0), none] [.ref 333, .ref 333, .ref 0] (va_up (va_up (va_up (F0c) 321 (tTr 0)) 0 (.inr (6, [.ref 1, .ref 161, .ref 321, .ref 322, .ref 328, .null, .null, .null, .null, .null]))) 333 (.inr (1, [.int (iZ 0), .int (iZ 0), .null, .null, .int (iZ 0), .int (iZ 0), .int (iZ 0)])), 333 + 1, 5704 + 7)
  refine q_aload_n dX6_init_61 rfl rfl ?_
  refine q_get (h := (va_up (va_up (va_up (F0c) 321 (tTr 0)) 0 (.inr (6, [.ref 1, .ref 161, .ref 321, .ref 322, .ref 328, .null, .null, .null, .null, .null]))) 333 (.inr (1, [.int (iZ 0), .int (iZ 0), .null, .null, .int (iZ 0), .int (iZ 0), .int (iZ 0)])), 333 + 1, 5704 + 7)) (C := RX6) (T := TX6) (N := 10) (ci := 6) (kf := 4) (fs := [.ref 1, .ref 161, .ref 321, .ref 322, .ref 328, .null, .null, .null, .null, .null]) (v := .ref 328) dX6_init_62 flX6_33 uwX6 rfl (by decide) (by show 0 < 333 + 1; decide) at0 rfl ?_
  refine q_aload_n dX6_init_65 rfl rfl ?_
  refine q_get (h := (va_up (va_up (va_up (F0c) 321 (tTr 0)) 0 (.inr (6, [.ref 1, .ref 161, .ref 321, .ref 322, .ref 328, .null, .null, .null, .null, .null]))) 333 (.inr (1, [.int (iZ 0), .int (iZ 0), .null, .null, .int (iZ 0), .int (iZ 0), .int (iZ 0)])), 333 + 1, 5704 + 7)) (C := RX6) (T := TX6) (N := 10) (ci := 6) (kf := 3) (fs := [.ref 1, .ref 161, .ref 321, .ref 322, .ref 328, .null, .null, .null, .null, .null]) (v := .ref 322) dX6_init_66 flX6_26 uwX6 rfl (by decide) (by show 0 < 333 + 1; decide) at0 rfl ?_
  refine q_callI (h := (va_up (va_up (va_up (F0c) 321 (tTr 0)) 0 (.inr (6, [.ref 1, .ref 161, .ref 321, .ref 322, .ref 328, .null, .null, .null, .null, .null]))) 333 (.inr (1, [.int (iZ 0), .int (iZ 0), .null, .null, .int (iZ 0), .int (iZ 0), .int (iZ 0)])), 333 + 1, 5704 + 7)) (M' := mX1_init) (d' := d - 1) (a := 333) (As := [.ref 328, .ref 322]) (S := [.ref 333, .ref 0]) (B1 := 333 + 1) (B2 := 5704 + 7 + 0) dX6_init_69 okX1_init mlX6_39 rfl (by omega) rfl (Nat.le_of_ble_eq_true rfl) ⟨by show 333 + 1 ≤ 333 + 1; decide, by show 5704 + 7 ≤ 5704 + 7 + 0; decide, by show 333 + 1 ≤ 384; decide, by show 5704 + 7 + 0 ≤ 7884; decide⟩ (lt2s (Or.inl (show (333 : Nat) < 333 + 1 by decide)) (Or.inl (show (0 : Nat) < 333 + 1 by decide))) (ltu (by show 0 < 333 + 1; decide)) tt_Y (k_X1_init (s := 333) (t := 328) (x := 322) (by omega) (by decide) (by decide) (by decide) ((hgs _ (by decide) (by decide)).trans F0_1) K1) (fun v h' hq e1 e2 => ?_)
  obtain ⟨rfl, rfl⟩ := hq
  have K : cls (va_up (va_up (F0c) 321 (tTr 0)) 0 (.inr (6, [.ref 1, .ref 161, .ref 321, .ref 322, .ref 328, .null, .null, .null, .null, .null])), 334, 5711) := cls_blk (m := 333 + 1) K (fun i x y => by
    rw [hgs i x y, show i = 333 by omega, F0_1]
    intro v hv
    simp only [List.mem_cons, List.not_mem_nil, or_false] at hv
    rcases hv with rfl | rfl | rfl | rfl | rfl | rfl | rfl
    all_goals first | trivial | exact Or.inl (show (328 : Nat) < 333 + 1 by decide) | exact Or.inl (show (322 : Nat) < 333 + 1 by decide)) (by decide)
  show gE g_tt _ _ _ _ 72 [some (.ref 0), none] [.ref 333, .ref 0] (va_up (va_up (F0c) 321 (tTr 0)) 0 (.inr (6, [.ref 1, .ref 161, .ref 321, .ref 322, .ref 328, .null, .null, .null, .null, .null])), 334, 5711)
  refine r_putF (s := 0) (n := 334) (z := 5711) (C := RX6) (T := TX6) (N := 10) (ci := 6) (kf := 5) (ty := tyX6 5) (fs' := [.ref 1, .ref 161, .ref 321, .ref 322, .ref 328, .ref 333, .null, .null, .null, .null]) dX6_init_72 flX6_42 uwX6 tyX6 tyX6_ok nmX6 rfl (by decide) rfl rfl rfl rfl (by decide) (show 5 < 10 by decide) (fun _ => rfl) (fun _ => rfl) rfl K (Or.inl (show (333 : Nat) < 334 by decide)) (fun K => ?_)
  refine q_aload_n dX6_init_75 rfl rfl ?_
  refine z_iconst dX6_init_76 ?_
  refine q_newR (h := (va_up (va_up (F0c) 321 (tTr 0)) 0 (.inr (6, [.ref 1, .ref 161, .ref 321, .ref 322, .ref 328, .ref 333, .null, .null, .null, .null])), 334, 5711)) (t := 3) (C := RX2) (N := 4) dX6_init_77 (Or.inl ⟨rfl, rfl⟩) clX6_46 (by decide) (by decide +kernel) (by decide) (by show 334 < 1000000; decide) (by show 334 + 1 ≤ 384 ∧ 5711 + 4 ≤ 7884; decide) K (lt_one (by show 0 < 334; decide)) (ltu (by show 0 < 334; decide)) tt_Y ?_
  have e1 : va_up (va_up (va_up (F0c) 321 (tTr 0)) 0 (.inr (6, [.ref 1, .ref 161, .ref 321, .ref 322, .ref 328, .ref 333, .null, .null, .null, .null]))) 334 (.inl (3, 4, .inr (.inr (.inr (.inr (fun _ => none)))))) = va_up (va_up (va_up (F0c) 321 (tTr 0)) 334 (lTr 0)) 0 (.inr (6, [.ref 1, .ref 161, .ref 321, .ref 322, .ref 328, .ref 333, .null, .null, .null, .null])) := by rw [va_cm (by decide), ← lTr_0]
  have K : cls (va_up (va_up (va_up (F0c) 321 (tTr 0)) 334 (lTr 0)) 0 (.inr (6, [.ref 1, .ref 161, .ref 321, .ref 322, .ref 328, .ref 333, .null, .null, .null, .null])), 335, 5715) := by rw [← e1]; exact cls_newx (N := 4) K (by intro j a e; cases e)
  show gE g_tt _ _ _ _ 80 [some (.ref 0), none] [.ref 334, .ref 0] (va_up (va_up (va_up (F0c) 321 (tTr 0)) 0 (.inr (6, [.ref 1, .ref 161, .ref 321, .ref 322, .ref 328, .ref 333, .null, .null, .null, .null]))) 334 (.inl (3, 4, .inr (.inr (.inr (.inr (fun _ => none)))))), 335, 5715)
  rw [e1]
  refine r_putF (s := 0) (n := 335) (z := 5715) (C := RX6) (T := TX6) (N := 10) (ci := 6) (kf := 6) (ty := tyX6 6) (fs' := [.ref 1, .ref 161, .ref 321, .ref 322, .ref 328, .ref 333, .ref 334, .null, .null, .null]) dX6_init_80 flX6_48 uwX6 tyX6 tyX6_ok nmX6 rfl (by decide) rfl rfl rfl rfl (by decide) (show 6 < 10 by decide) (fun _ => rfl) (fun _ => rfl) rfl K (Or.inl (show (334 : Nat) < 335 by decide)) (fun K => ?_)
  refine q_aload_n dX6_init_83 rfl rfl ?_
  refine z_iconst dX6_init_84 ?_
  refine r_newI (n := 335) (z := 5715) (N := 3) dX6_init_85 ac_int (by decide) (by decide +kernel) (by decide) ((va_up_ne _ _ (by decide)).trans ((va_up_ne _ _ (by decide)).trans ((va_up_ne _ _ (by decide)).trans (F0_r (show kd 335 = 100 + 3 from rfl) (by decide) (by decide))))) (by decide) (by show 335 + 1 ≤ 384 ∧ 5715 + 3 ≤ 7884; decide) K (lt_one (by decide)) (ltu (by decide)) tt_Y (fun K => ?_)
  have K : cls (va_up (va_up (va_up (F0c) 321 (tTr 0)) 334 (lTr 0)) 0 (.inr (6, [.ref 1, .ref 161, .ref 321, .ref 322, .ref 328, .ref 333, .ref 334, .null, .null, .null])), 336, 5718) := K
  show gE g_tt _ _ _ _ 87 [some (.ref 0), none] [.ref 335, .ref 0] (va_up (va_up (va_up (F0c) 321 (tTr 0)) 334 (lTr 0)) 0 (.inr (6, [.ref 1, .ref 161, .ref 321, .ref 322, .ref 328, .ref 333, .ref 334, .null, .null, .null])), 336, 5718)
  refine r_putF (s := 0) (n := 336) (z := 5718) (C := RX6) (T := TX6) (N := 10) (ci := 6) (kf := 7) (ty := tyX6 7) (fs' := [.ref 1, .ref 161, .ref 321, .ref 322, .ref 328, .ref 333, .ref 334, .ref 335, .null, .null]) dX6_init_87 flX6_52 uwX6 tyX6 tyX6_ok nmX6 rfl (by decide) rfl rfl rfl rfl (by decide) (show 7 < 10 by decide) (fun _ => rfl) (fun _ => rfl) rfl K (Or.inl (show (335 : Nat) < 336 by decide)) (fun K => ?_)
  refine q_aload_n dX6_init_90 rfl rfl ?_
  refine z_bipush dX6_init_91 (by decide +kernel) ?_
  refine r_newJ (n := 336) (z := 5718) (N := 101) dX6_init_93 ac_long (by decide) (by decide +kernel) (by decide) ((va_up_ne _ _ (by decide)).trans ((va_up_ne _ _ (by decide)).trans ((va_up_ne _ _ (by decide)).trans (F0_336)))) (by decide) (by show 336 + 1 ≤ 384 ∧ 5718 + 101 ≤ 7884; decide) K (lt_one (by decide)) (ltu (by decide)) tt_Y (fun K => ?_)
  have K : cls (va_up (va_up (va_up (F0c) 321 (tTr 0)) 334 (lTr 0)) 0 (.inr (6, [.ref 1, .ref 161, .ref 321, .ref 322, .ref 328, .ref 333, .ref 334, .ref 335, .null, .null])), 337, 5819) := K
  show gE g_tt _ _ _ _ 95 [some (.ref 0), none] [.ref 336, .ref 0] (va_up (va_up (va_up (F0c) 321 (tTr 0)) 334 (lTr 0)) 0 (.inr (6, [.ref 1, .ref 161, .ref 321, .ref 322, .ref 328, .ref 333, .ref 334, .ref 335, .null, .null])), 337, 5819)
  refine r_putF (s := 0) (n := 337) (z := 5819) (C := RX6) (T := TX6) (N := 10) (ci := 6) (kf := 8) (ty := tyX6 8) (fs' := [.ref 1, .ref 161, .ref 321, .ref 322, .ref 328, .ref 333, .ref 334, .ref 335, .ref 336, .null]) dX6_init_95 flX6_56 uwX6 tyX6 tyX6_ok nmX6 rfl (by decide) rfl rfl rfl rfl (by decide) (show 8 < 10 by decide) (fun _ => rfl) (fun _ => rfl) rfl K (Or.inl (show (336 : Nat) < 337 by decide)) (fun K => ?_)
  refine q_aload_n dX6_init_98 rfl rfl ?_
  refine q_new (h := (va_up (va_up (va_up (F0c) 321 (tTr 0)) 334 (lTr 0)) 0 (.inr (6, [.ref 1, .ref 161, .ref 321, .ref 322, .ref 328, .ref 333, .ref 334, .ref 335, .ref 336, .null])), 337, 5819)) (C := RX0) (T := TX0) (N := 5) (ci := 0) (fs := [.null, .int (iZ 0), .int (iZ 0), .null, .int (iZ 0)]) dX6_init_99 clX6_60 niX0 inRX0 uwX0 tyX0 tyX0_ok rfl ty_d0 (fun _ => rfl) (ce_null rfl) (by show 337 < 1000000; decide) (by show 337 + 1 ≤ 384 ∧ 5819 + 5 ≤ 7884; decide) K (lt_one (by show 0 < 337; decide)) (ltu (by show 0 < 337; decide)) tt_Y ?_
  refine q_dup dX6_init_102 rfl ?_
  have K1 : cls (va_up (va_up (va_up (va_up (F0c) 321 (tTr 0)) 334 (lTr 0)) 0 (.inr (6, [.ref 1, .ref 161, .ref 321, .ref 322, .ref 328, .ref 333, .ref 334, .ref 335, .ref 336, .null]))) 337 (.inr (0, [.null, .int (iZ 0), .int (iZ 0), .null, .int (iZ 0)])), 337 + 1, 5819 + 5) := cls_newx K (ce_null rfl)
  have hgs : ∀ a, 337 ≤ a → a < 337 + 3 → va_up (va_up (va_up (F0c) 321 (tTr 0)) 334 (lTr 0)) 0 (.inr (6, [.ref 1, .ref 161, .ref 321, .ref 322, .ref 328, .ref 333, .ref 334, .ref 335, .ref 336, .null])) a = F0c a := fun a x y => ((va_up_ne _ _ (by omega))).trans (((va_up_ne _ _ (by omega))).trans ((va_up_ne _ _ (by omega))))
  refine q_callIN (h := (va_up (va_up (va_up (va_up (F0c) 321 (tTr 0)) 334 (lTr 0)) 0 (.inr (6, [.ref 1, .ref 161, .ref 321, .ref 322, .ref 328, .ref 333, .ref 334, .ref 335, .ref 336, .null]))) 337 (.inr (0, [.null, .int (iZ 0), .int (iZ 0), .null, .int (iZ 0)])), 337 + 1, 5819 + 5)) (M' := mX0_init) (d' := d - 1) (a := 337) (As := []) (S := [.ref 337, .ref 0]) (B1 := 337 + 3) (B2 := 5819 + 5 + 16) (host := RX6) dX6_init_103 okX0_init (by decide +kernel) rfl (by omega) rfl (Nat.le_of_ble_eq_true rfl) ⟨by show 337 + 1 ≤ 337 + 3; decide, by show 5819 + 5 ≤ 5819 + 5 + 16; decide, by show 337 + 3 ≤ 384; decide, by show 5819 + 5 + 16 ≤ 7884; decide⟩ (lt2s (Or.inl (show (337 : Nat) < 337 + 1 by decide)) (Or.inl (show (0 : Nat) < 337 + 1 by decide))) (ltu (by show 0 < 337 + 1; decide)) tt_Y (k_X0_init (s := 337) (by omega) (by decide) ((hgs _ (by decide) (by decide)).trans F0_0) ((hgs _ (by decide) (by decide)).trans (F0_r (show kd 338 = 100 + 8 from rfl) (by decide) (by decide))) ((hgs _ (by decide) (by decide)).trans (F0_r (show kd 339 = 100 + 8 from rfl) (by decide) (by decide))) K1) (fun v h' hq e1 e2 => ?_)
  obtain ⟨rfl, rfl⟩ := hq
  have K : cls (va_up (va_up (va_up (F0c) 321 (tTr 0)) 334 (lTr 0)) 0 (.inr (6, [.ref 1, .ref 161, .ref 321, .ref 322, .ref 328, .ref 333, .ref 334, .ref 335, .ref 336, .null])), 340, 5840) := cls_blk (m := 337 + 3) K (fun i x y => by
    rw [hgs i x y]
    rcases (by omega : i = 337 ∨ i = 338 ∨ i = 339) with e | e | e
    · rw [e, F0_0]
      intro v hv
      simp only [List.mem_cons, List.not_mem_nil, or_false] at hv
      rcases hv with rfl | rfl | rfl | rfl | rfl
      all_goals first | trivial | exact Or.inl (show (337 + 1 : Nat) < 337 + 3 by decide) | exact Or.inl (show (337 + 2 : Nat) < 337 + 3 by decide)
    · rw [e, F0_r (show kd 338 = 100 + 8 from rfl) (by decide) (by decide)]; trivial
    · rw [e, F0_r (show kd 339 = 100 + 8 from rfl) (by decide) (by decide)]; trivial) (by decide)
  show gE g_tt _ _ _ _ 106 [some (.ref 0), none] [.ref 337, .ref 0] (va_up (va_up (va_up (F0c) 321 (tTr 0)) 334 (lTr 0)) 0 (.inr (6, [.ref 1, .ref 161, .ref 321, .ref 322, .ref 328, .ref 333, .ref 334, .ref 335, .ref 336, .null])), 340, 5840)
  refine r_putF (s := 0) (n := 340) (z := 5840) (C := RX6) (T := TX6) (N := 10) (ci := 6) (kf := 9) (ty := tyX6 9) (fs' := [.ref 1, .ref 161, .ref 321, .ref 322, .ref 328, .ref 333, .ref 334, .ref 335, .ref 336, .ref 337]) dX6_init_106 flX6_63 uwX6 tyX6 tyX6_ok nmX6 rfl (by decide) rfl rfl rfl rfl (by decide) (show 9 < 10 by decide) (fun _ => rfl) (fun _ => rfl) rfl K (Or.inl (show (337 : Nat) < 340 by decide)) (fun K => ?_)
  refine z_iconst dX6_init_109 ?_
  refine q_istore_n dX6_init_110 rfl (by decide) ?_
  exact lp_txs (by omega) 5 0 (by omega) (by omega) K
