/-! ===== the law from its start ===== -/
theorem ty_d6 : ∀ j, j < 10 → defaultValue (tyX6 j) = vp_V [.null, .null, .null, .null, .null, .null, .null, .null, .null, .null] j := by decide +kernel
theorem ty_d7 : ∀ j, j < 36 → defaultValue (tyX7 j) = vp_V [.null, .null, .null, .null, .int (iZ 0), .int (iZ 0), .int (iZ 0), .int (iZ 0), .int (iZ 0), .int (iZ 0), .int (iZ 0), .long (lZ 0), .int (iZ 0), .int (iZ 0), .int (iZ 0), .null, .int (iZ 0), .int (iZ 0), .int (iZ 0), .int (iZ 0), .null, .null, .null, .int (iZ 0), .int (iZ 0), .int (iZ 0), .int (iZ 0), .null, .null, .int (iZ 0), .int (iZ 0), .int (iZ 0), .null, .null, .null, .int (iZ 0)] j := by decide +kernel
theorem YL_mv {L : Nat} {xs : Nat → Int32} {n : Nat} : ∀ (r r' : Nat → Nat) (A : Nat → Prop) (s : State), (∀ i, i < n ∨ 1000000 ≤ i → r' i = r i) → gYL L xs r A s → gYL L xs r' A s := fun r r' A s e h => by
  have q : r' 1000002 = r 1000002 := e _ (Or.inr (by decide))
  unfold gYL at *
  rw [q]
  exact h
theorem lt4 {n : Nat} {x : Option Value} (h : ∀ v, x = some v → g_lt n v) : ∀ v, some v ∈ [some (Value.ref 1000002), x, none, none] → g_lt n v := by
  intro v hv
  simp only [List.mem_cons, List.not_mem_nil, or_false, reduceCtorEq] at hv
  rcases hv with e | e
  · have e := Option.some.inj e
    subst e
    exact Or.inr (by decide)
  · exact h v e.symm
theorem lt0 {n : Nat} : ∀ v ∈ ([] : List Value), g_lt n v := fun v h => absurd h (by simp)

set_option maxHeartbeats 4000000 in
set_option maxRecDepth 100000 in
theorem lw_mod {L : Nat} {xs : Nat → Int32} {g : Nat → va_E} {s z : Nat} (hs : s = 384) (hz : z = 7884) (hs0 : g s = (.inr (7, [.ref (s + 1), .ref (s + 2), .ref (s + 3), .ref (s + 4), .int (iZ 0), .int (iZ (-1)), .int (iZ (-1)), .int (iZ 0), .int (iZ 0), .int (iZ 0), .int (iZ 0), .long (lZ 0), .int (iZ 0), .int (iZ 0), .int (iZ 0), .ref (s + 5), .int (iZ 0), .int (iZ 0), .int (iZ 0), .int (iZ 0), .ref (s + 6), .ref (s + 7), .ref (s + 8), .int (iZ 1), .int (iZ 0), .int (iZ 0), .int (iZ 0), .ref (s + 9), .ref (s + 10), .int (iZ 0), .int (iZ 0), .int (iZ 0), .ref (s + 11), .ref (s + 12), .ref (s + 13), .int (iZ 0)]))) (h1 : g (s + 1) = (.inl (0, 1583, .inl (fun j => iZ (va_up (va_up (fun _ => 0) 6 347) 2 (-1) j))))) (h3 : g (s + 3) = .inl (0, 2724, .inl (fun _ => 0))) (h4 : g (s + 4) = .inl (0, 300, .inl (fun _ => 0))) (h5 : g (s + 5) = .inl (0, 160, .inl (fun _ => 0))) (h6 : g (s + 6) = .inl (0, 8, .inl (fun _ => 0))) (h7 : g (s + 7) = .inl (1, 330, .inr (.inl (fun _ => 0)))) (h8 : g (s + 8) = .inl (2, 330, .inl (fun _ => 0))) (h9 : g (s + 9) = .inl (0, 24, .inl (fun _ => 0))) (h10 : g (s + 10) = .inl (0, 8, .inl (fun _ => 0))) (h11 : g (s + 11) = .inl (0, 808, .inl (fun _ => 0))) (h12 : g (s + 12) = .inl (0, 8, .inl (fun _ => 0))) (h13 : g (s + 13) = .inl (0, 8, .inl (fun _ => 0))) (hfin : (va_up g (s + 2) (.inl (0, 1583, .inl (fun _ => 0))), s + 14, z + 36 + 7874) = hE σy) (K : cls (g, s, z)) (k : gE (gYL L xs) mL_law 1000 (0, 0, 398, 15794) lwR1 15 [some (.ref 1000002), some (.ref 0), none, none] [.ref s] (hE σ0)) : gE (gYL L xs) mL_law 1000 (0, 0, 398, 15794) lwR1 8 [some (.ref 1000002), some (.ref 0), none, none] [] (g, s, z) := by
  have l0 : ∀ n, 0 < n → ∀ v, some v ∈ [some (.ref 1000002), some (.ref 0), none, none] → g_lt n v := fun n hn => lt4 (fun v e => by have e := Option.some.inj e; subst e; exact Or.inl hn)
  refine q_new (h := (g, s, z)) (C := RX7) (T := TX7) (N := 36) (ci := 7) (fs := [.null, .null, .null, .null, .int (iZ 0), .int (iZ 0), .int (iZ 0), .int (iZ 0), .int (iZ 0), .int (iZ 0), .int (iZ 0), .long (lZ 0), .int (iZ 0), .int (iZ 0), .int (iZ 0), .null, .int (iZ 0), .int (iZ 0), .int (iZ 0), .int (iZ 0), .null, .null, .null, .int (iZ 0), .int (iZ 0), .int (iZ 0), .int (iZ 0), .null, .null, .int (iZ 0), .int (iZ 0), .int (iZ 0), .null, .null, .null, .int (iZ 0)]) dL_law_8 clL_10 niX7 inRX7 uwX7 tyX7 tyX7_ok rfl ty_d7 (fun _ => rfl) (ce_null rfl) (by show s < 1000000; omega) (by show s + 1 ≤ 398 ∧ z + 36 ≤ 15794; omega) K lt0 (l0 _ (by show 0 < s; omega)) YL_mv ?_
  refine q_dup dL_law_11 rfl ?_
  have K1 : cls (va_up g s (.inr (7, [.null, .null, .null, .null, .int (iZ 0), .int (iZ 0), .int (iZ 0), .int (iZ 0), .int (iZ 0), .int (iZ 0), .int (iZ 0), .long (lZ 0), .int (iZ 0), .int (iZ 0), .int (iZ 0), .null, .int (iZ 0), .int (iZ 0), .int (iZ 0), .int (iZ 0), .null, .null, .null, .int (iZ 0), .int (iZ 0), .int (iZ 0), .int (iZ 0), .null, .null, .int (iZ 0), .int (iZ 0), .int (iZ 0), .null, .null, .null, .int (iZ 0)])), s + 1, z + 36) := cls_newx K (ce_null rfl)
  refine q_callI (h := (va_up g s (.inr (7, [.null, .null, .null, .null, .int (iZ 0), .int (iZ 0), .int (iZ 0), .int (iZ 0), .int (iZ 0), .int (iZ 0), .int (iZ 0), .long (lZ 0), .int (iZ 0), .int (iZ 0), .int (iZ 0), .null, .int (iZ 0), .int (iZ 0), .int (iZ 0), .int (iZ 0), .null, .null, .null, .int (iZ 0), .int (iZ 0), .int (iZ 0), .int (iZ 0), .null, .null, .int (iZ 0), .int (iZ 0), .int (iZ 0), .null, .null, .null, .int (iZ 0)])), s + 1, z + 36)) (M' := mX7_init) (d' := 999) (a := s) (As := []) (S := [.ref s]) (B1 := s + 14) (B2 := z + 36 + 7874) dL_law_12 okX7_init mlL_12 rfl (by decide) rfl (Nat.le_of_ble_eq_true rfl) ⟨by show s + 1 ≤ _; omega, by show z + 36 ≤ _; omega, by show _ ≤ 398; omega, by show _ ≤ 15794; omega⟩ (lt_one (by show s < s + 1; omega)) (l0 _ (by show 0 < s + 1; omega)) YL_mv (k_X7_init (d := 999) (by decide) hs (show z + 36 = 7920 by omega) hs0 h1 h3 h4 h5 h6 h7 h8 h9 h10 h11 h12 h13 hfin K1) (fun v h' hq _ _ => ?_)
  obtain ⟨rfl, rfl⟩ := hq
  exact k
set_option maxHeartbeats 4000000 in
set_option maxRecDepth 100000 in
theorem lw_mod0 {L : Nat} {xs : Nat → Int32} (K : cls (F0c, 384, 7884)) (k : gE (gYL L xs) mL_law 1000 (0, 0, 398, 15794) lwR1 15 [some (.ref 1000002), some (.ref 0), none, none] [.ref 384] (hE σ0)) : gE (gYL L xs) mL_law 1000 (0, 0, 398, 15794) lwR1 8 [some (.ref 1000002), some (.ref 0), none, none] [] (F0c, 384, 7884) := by
  refine lw_mod (g := F0c) (s := 384) (z := 7884) rfl rfl F0_7 F0_385 (F0_r (show kd (384 + 3) = 100 + 2724 from rfl) (by decide) (by decide)) (F0_r (show kd (384 + 4) = 100 + 300 from rfl) (by decide) (by decide)) (F0_r (show kd (384 + 5) = 100 + 160 from rfl) (by decide) (by decide)) (F0_r (show kd (384 + 6) = 100 + 8 from rfl) (by decide) (by decide)) F0_391 F0_392 (F0_r (show kd (384 + 9) = 100 + 24 from rfl) (by decide) (by decide)) (F0_r (show kd (384 + 10) = 100 + 8 from rfl) (by decide) (by decide)) (F0_r (show kd (384 + 11) = 100 + 808 from rfl) (by decide) (by decide)) (F0_r (show kd (384 + 12) = 100 + 8 from rfl) (by decide) (by decide)) (F0_r (show kd (384 + 13) = 100 + 8 from rfl) (by decide) (by decide)) ?_ K k
  exact hE_σy.symm
set_option maxHeartbeats 4000000 in
set_option maxRecDepth 100000 in
theorem law_ok : LawOK := by
  intro L xs hL
  unfold g0
  refine q_new (h := (F0c, 0, 0)) (C := RX6) (T := TX6) (N := 10) (ci := 6) (fs := [.null, .null, .null, .null, .null, .null, .null, .null, .null, .null]) dL_law_0 clL_7 niX6 inRX6 uwX6 tyX6 tyX6_ok rfl ty_d6 (fun _ => rfl) (ce_null rfl) (by show 0 < 1000000; decide) (by show 0 + 1 ≤ 398 ∧ 0 + 10 ≤ 15794; decide) (fun i hi => absurd hi (Nat.not_lt_zero _)) lt0 (lt4 (fun v e => by cases e)) YL_mv ?_
  refine q_dup dL_law_3 rfl ?_
  have K : cls (va_up F0c 0 (.inr (6, [.null, .null, .null, .null, .null, .null, .null, .null, .null, .null])), 1, 10) := cls_newx (g := F0c) (n := 0) (z := 0) (N := 10) (fun i hi => absurd hi (Nat.not_lt_zero _)) (ce_null rfl)
  refine q_callI (h := (va_up F0c 0 (.inr (6, [.null, .null, .null, .null, .null, .null, .null, .null, .null, .null])), 1, 10)) (M' := mX6_init) (d' := 999) (a := 0) (As := []) (S := [.ref 0]) (B1 := 384) (B2 := 7884) dL_law_4 okX6_init mlL_9 rfl (by decide) rfl (Nat.le_of_ble_eq_true rfl) ⟨by show 1 ≤ 384; decide, by show 10 ≤ 7884; decide, by show 384 ≤ 398; decide, by show 7884 ≤ 15794; decide⟩ (lt_one (by show 0 < 1; decide)) (lt4 (fun v e => by cases e)) YL_mv (k_X6_init (d := 999) (by decide) K) (fun v h' hq _ _ => ?_)
  obtain ⟨rfl, rfl, K0⟩ := hq
  refine q_astore_n dL_law_7 rfl (by decide) ?_
  refine lw_mod0 K0 ?_
  refine q_astore_n dL_law_15 rfl (by decide) ?_
  refine z_iconst dL_law_16 ?_
  refine q_istore_n dL_law_17 rfl (by decide) ?_
  exact lp_law hL 521 0 σ0 1000 JJ_0 (by omega) (by omega) (by omega)
