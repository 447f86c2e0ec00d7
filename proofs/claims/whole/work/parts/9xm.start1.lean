/-! ===== the constructors of Street, Text, Tape, Reader, Cart ===== -/
set_option maxHeartbeats 4000000 in
set_option maxRecDepth 100000 in
theorem k_X2_init {d : Nat} (hd : 1 ≤ d) {g : Nat → va_E} {s z : Nat} (hs9 : s < 900000) (hs0 : g s = .inr (2, [.ref (s + 1), .ref (s + 2), .int (iZ 0), .int (iZ 0), .int (iZ 0), .int (iZ 0), .int (iZ 0), .int (iZ 347), .ref (s + 3), .int (iZ 0), .ref (s + 4), .int (iZ 0)])) (h1 : g (s + 1) = .inl (0, 8, .inl (fun _ => 0))) (h2 : g (s + 2) = .inl (0, 5, .inl (fun _ => 0))) (h3 : g (s + 3) = .inl (0, 30, .inl (fun _ => 0))) (h4 : g (s + 4) = .inl (0, 8, .inl (fun _ => 0))) (K : cls (va_up g s (.inr (2, [.null, .null, .int (iZ 0), .int (iZ 0), .int (iZ 0), .int (iZ 0), .int (iZ 0), .int (iZ 0), .null, .int (iZ 0), .null, .int (iZ 0)])), s + 1, z)) : gC mX2_init d (s + 1, z, s + 5, z + 51) [.ref s] (va_up g s (.inr (2, [.null, .null, .int (iZ 0), .int (iZ 0), .int (iZ 0), .int (iZ 0), .int (iZ 0), .int (iZ 0), .null, .int (iZ 0), .null, .int (iZ 0)])), s + 1, z) (fun v h' => v = none ∧ h' = (g, s + 5, z + 51)) := by
  refine gC_of (h := (va_up g s (.inr (2, [.null, .null, .int (iZ 0), .int (iZ 0), .int (iZ 0), .int (iZ 0), .int (iZ 0), .int (iZ 0), .null, .int (iZ 0), .null, .int (iZ 0)])), s + 1, z)) rfl (Nat.le_of_ble_eq_true rfl) (by show s + 1 ≤ s + 5; omega) (by show z ≤ z + 51; omega) ?_
  show gE g_tt _ _ _ _ 0 [some (.ref s)] [] (va_up g s (.inr (2, [.null, .null, .int (iZ 0), .int (iZ 0), .int (iZ 0), .int (iZ 0), .int (iZ 0), .int (iZ 0), .null, .int (iZ 0), .null, .int (iZ 0)])), s + 1, z)
  refine q_aload_n dX2_init_0 rfl rfl ?_
  refine q_obj dX2_init_1 mlX2_3 wi_obj wc_obj hd (by decide) ?_
  refine q_aload_n dX2_init_4 rfl rfl ?_
  refine z_bipush dX2_init_5 (by decide +kernel) ?_
  refine r_newI (n := s + 1) dX2_init_7 ac_int (by decide) (by decide +kernel) (by decide) ((va_up_ne _ _ (by omega)).trans h1) (by omega) (by show s + 1 + 1 ≤ s + 5 ∧ _ ≤ z + 51; omega) K (lt_one (by omega)) (lt_self (by omega)) tt_Y (fun K => ?_)
  refine r_putF (C := RX2) (T := TX2) (N := 12) (ci := 2) (kf := 0) (ty := tyX2 0) (fs' := [.ref (s + 1), .null, .int (iZ 0), .int (iZ 0), .int (iZ 0), .int (iZ 0), .int (iZ 0), .int (iZ 0), .null, .int (iZ 0), .null, .int (iZ 0)]) dX2_init_9 flX2_9 uwX2 tyX2 tyX2_ok nmX2 rfl (by decide) rfl rfl rfl rfl (by omega) (show 0 < 12 by decide) (fun _ => rfl) (fun _ => rfl) rfl K (Or.inl (show (s + 1 : Nat) < s + 2 by omega)) (fun K => ?_)
  refine q_aload_n dX2_init_12 rfl rfl ?_
  refine z_iconst dX2_init_13 ?_
  refine r_newI (n := s + 2) dX2_init_14 ac_int (by decide) (by decide +kernel) (by decide) ((va_up_ne _ _ (by omega)).trans h2) (by omega) (by show s + 2 + 1 ≤ s + 5 ∧ _ ≤ z + 51; omega) K (lt_one (by omega)) (lt_self (by omega)) tt_Y (fun K => ?_)
  refine r_putF (C := RX2) (T := TX2) (N := 12) (ci := 2) (kf := 1) (ty := tyX2 1) (fs' := [.ref (s + 1), .ref (s + 2), .int (iZ 0), .int (iZ 0), .int (iZ 0), .int (iZ 0), .int (iZ 0), .int (iZ 0), .null, .int (iZ 0), .null, .int (iZ 0)]) dX2_init_16 flX2_15 uwX2 tyX2 tyX2_ok nmX2 rfl (by decide) rfl rfl rfl rfl (by omega) (show 1 < 12 by decide) (fun _ => rfl) (fun _ => rfl) rfl K (Or.inl (show (s + 2 : Nat) < s + 3 by omega)) (fun K => ?_)
  refine q_aload_n dX2_init_19 rfl rfl ?_
  refine z_iconst dX2_init_20 ?_
  refine r_put (C := RX2) (T := TX2) (N := 12) (ci := 2) (kf := 2) (ty := tyX2 2) (fs' := [.ref (s + 1), .ref (s + 2), .int (iZ 0), .int (iZ 0), .int (iZ 0), .int (iZ 0), .int (iZ 0), .int (iZ 0), .null, .int (iZ 0), .null, .int (iZ 0)]) dX2_init_21 flX2_18 uwX2 tyX2 tyX2_ok nmX2 rfl (by decide) rfl rfl (by omega) (show 2 < 12 by decide) (fun _ => by first | rfl | decide +kernel) (fun _ => by first | rfl | decide +kernel) rfl K trivial (fun K => ?_)
  refine q_aload_n dX2_init_24 rfl rfl ?_
  refine z_iconst dX2_init_25 ?_
  refine r_put (C := RX2) (T := TX2) (N := 12) (ci := 2) (kf := 3) (ty := tyX2 3) (fs' := [.ref (s + 1), .ref (s + 2), .int (iZ 0), .int (iZ 0), .int (iZ 0), .int (iZ 0), .int (iZ 0), .int (iZ 0), .null, .int (iZ 0), .null, .int (iZ 0)]) dX2_init_26 flX2_22 uwX2 tyX2 tyX2_ok nmX2 rfl (by decide) rfl rfl (by omega) (show 3 < 12 by decide) (fun _ => by first | rfl | decide +kernel) (fun _ => by first | rfl | decide +kernel) rfl K trivial (fun K => ?_)
  refine q_aload_n dX2_init_29 rfl rfl ?_
  refine z_iconst dX2_init_30 ?_
  refine r_put (C := RX2) (T := TX2) (N := 12) (ci := 2) (kf := 4) (ty := tyX2 4) (fs' := [.ref (s + 1), .ref (s + 2), .int (iZ 0), .int (iZ 0), .int (iZ 0), .int (iZ 0), .int (iZ 0), .int (iZ 0), .null, .int (iZ 0), .null, .int (iZ 0)]) dX2_init_31 flX2_25 uwX2 tyX2 tyX2_ok nmX2 rfl (by decide) rfl rfl (by omega) (show 4 < 12 by decide) (fun _ => by first | rfl | decide +kernel) (fun _ => by first | rfl | decide +kernel) rfl K trivial (fun K => ?_)
  refine q_aload_n dX2_init_34 rfl rfl ?_
  refine z_iconst dX2_init_35 ?_
  refine r_put (C := RX2) (T := TX2) (N := 12) (ci := 2) (kf := 5) (ty := tyX2 5) (fs' := [.ref (s + 1), .ref (s + 2), .int (iZ 0), .int (iZ 0), .int (iZ 0), .int (iZ 0), .int (iZ 0), .int (iZ 0), .null, .int (iZ 0), .null, .int (iZ 0)]) dX2_init_36 flX2_28 uwX2 tyX2 tyX2_ok nmX2 rfl (by decide) rfl rfl (by omega) (show 5 < 12 by decide) (fun _ => by first | rfl | decide +kernel) (fun _ => by first | rfl | decide +kernel) rfl K trivial (fun K => ?_)
  refine q_aload_n dX2_init_39 rfl rfl ?_
  refine z_iconst dX2_init_40 ?_
  refine r_put (C := RX2) (T := TX2) (N := 12) (ci := 2) (kf := 6) (ty := tyX2 6) (fs' := [.ref (s + 1), .ref (s + 2), .int (iZ 0), .int (iZ 0), .int (iZ 0), .int (iZ 0), .int (iZ 0), .int (iZ 0), .null, .int (iZ 0), .null, .int (iZ 0)]) dX2_init_41 flX2_31 uwX2 tyX2 tyX2_ok nmX2 rfl (by decide) rfl rfl (by omega) (show 6 < 12 by decide) (fun _ => by first | rfl | decide +kernel) (fun _ => by first | rfl | decide +kernel) rfl K trivial (fun K => ?_)
  refine q_aload_n dX2_init_44 rfl rfl ?_
  refine z_sipush dX2_init_45 (by decide +kernel) ?_
  refine r_put (C := RX2) (T := TX2) (N := 12) (ci := 2) (kf := 7) (ty := tyX2 7) (fs' := [.ref (s + 1), .ref (s + 2), .int (iZ 0), .int (iZ 0), .int (iZ 0), .int (iZ 0), .int (iZ 0), .int (iZ 347), .null, .int (iZ 0), .null, .int (iZ 0)]) dX2_init_48 flX2_34 uwX2 tyX2 tyX2_ok nmX2 rfl (by decide) rfl rfl (by omega) (show 7 < 12 by decide) (fun _ => by first | rfl | decide +kernel) (fun _ => by first | rfl | decide +kernel) rfl K trivial (fun K => ?_)
  refine q_aload_n dX2_init_51 rfl rfl ?_
  refine z_bipush dX2_init_52 (by decide +kernel) ?_
  refine r_newI (n := s + 3) dX2_init_54 ac_int (by decide) (by decide +kernel) (by decide) ((va_up_ne _ _ (by omega)).trans h3) (by omega) (by show s + 3 + 1 ≤ s + 5 ∧ _ ≤ z + 51; omega) K (lt_one (by omega)) (lt_self (by omega)) tt_Y (fun K => ?_)
  refine r_putF (C := RX2) (T := TX2) (N := 12) (ci := 2) (kf := 8) (ty := tyX2 8) (fs' := [.ref (s + 1), .ref (s + 2), .int (iZ 0), .int (iZ 0), .int (iZ 0), .int (iZ 0), .int (iZ 0), .int (iZ 347), .ref (s + 3), .int (iZ 0), .null, .int (iZ 0)]) dX2_init_56 flX2_37 uwX2 tyX2 tyX2_ok nmX2 rfl (by decide) rfl rfl rfl rfl (by omega) (show 8 < 12 by decide) (fun _ => rfl) (fun _ => rfl) rfl K (Or.inl (show (s + 3 : Nat) < s + 4 by omega)) (fun K => ?_)
  refine q_aload_n dX2_init_59 rfl rfl ?_
  refine z_iconst dX2_init_60 ?_
  refine r_put (C := RX2) (T := TX2) (N := 12) (ci := 2) (kf := 9) (ty := tyX2 9) (fs' := [.ref (s + 1), .ref (s + 2), .int (iZ 0), .int (iZ 0), .int (iZ 0), .int (iZ 0), .int (iZ 0), .int (iZ 347), .ref (s + 3), .int (iZ 0), .null, .int (iZ 0)]) dX2_init_61 flX2_40 uwX2 tyX2 tyX2_ok nmX2 rfl (by decide) rfl rfl (by omega) (show 9 < 12 by decide) (fun _ => by first | rfl | decide +kernel) (fun _ => by first | rfl | decide +kernel) rfl K trivial (fun K => ?_)
  refine q_aload_n dX2_init_64 rfl rfl ?_
  refine z_bipush dX2_init_65 (by decide +kernel) ?_
  refine r_newI (n := s + 4) dX2_init_67 ac_int (by decide) (by decide +kernel) (by decide) ((va_up_ne _ _ (by omega)).trans h4) (by omega) (by show s + 4 + 1 ≤ s + 5 ∧ _ ≤ z + 51; omega) K (lt_one (by omega)) (lt_self (by omega)) tt_Y (fun K => ?_)
  refine r_putF (C := RX2) (T := TX2) (N := 12) (ci := 2) (kf := 10) (ty := tyX2 10) (fs' := [.ref (s + 1), .ref (s + 2), .int (iZ 0), .int (iZ 0), .int (iZ 0), .int (iZ 0), .int (iZ 0), .int (iZ 347), .ref (s + 3), .int (iZ 0), .ref (s + 4), .int (iZ 0)]) dX2_init_69 flX2_43 uwX2 tyX2 tyX2_ok nmX2 rfl (by decide) rfl rfl rfl rfl (by omega) (show 10 < 12 by decide) (fun _ => rfl) (fun _ => rfl) rfl K (Or.inl (show (s + 4 : Nat) < s + 5 by omega)) (fun K => ?_)
  refine q_aload_n dX2_init_72 rfl rfl ?_
  refine z_iconst dX2_init_73 ?_
  refine r_put (C := RX2) (T := TX2) (N := 12) (ci := 2) (kf := 11) (ty := tyX2 11) (fs' := [.ref (s + 1), .ref (s + 2), .int (iZ 0), .int (iZ 0), .int (iZ 0), .int (iZ 0), .int (iZ 0), .int (iZ 347), .ref (s + 3), .int (iZ 0), .ref (s + 4), .int (iZ 0)]) dX2_init_74 flX2_46 uwX2 tyX2 tyX2_ok nmX2 rfl (by decide) rfl rfl (by omega) (show 11 < 12 by decide) (fun _ => by first | rfl | decide +kernel) (fun _ => by first | rfl | decide +kernel) rfl K trivial (fun K => ?_)
  exact q_vret dX2_init_77 rfl ⟨rfl, by show z + 8 + 5 + 30 + 8 = z + 51; omega⟩ ⟨rfl, (by rw [va_same (show g s = _ from hs0), show z + 8 + 5 + 30 + 8 = z + 51 by omega] : (va_up g s (.inr (2, [.ref (s + 1), .ref (s + 2), .int (iZ 0), .int (iZ 0), .int (iZ 0), .int (iZ 0), .int (iZ 0), .int (iZ 347), .ref (s + 3), .int (iZ 0), .ref (s + 4), .int (iZ 0)])), s + 5, z + 8 + 5 + 30 + 8) = (g, s + 5, z + 51))⟩
set_option maxHeartbeats 4000000 in
set_option maxRecDepth 100000 in
theorem k_X4_init {d : Nat} (hd : 1 ≤ d) {g : Nat → va_E} {s z : Nat} (hs9 : s < 900000) (hs0 : g s = .inr (4, [.ref (s + 1), .int (iZ 0), .int (iZ (-1)), .int (iZ (-1)), .int (iZ (-1)), .int (iZ (-1)), .ref (s + 2), .ref (s + 3), .ref (s + 4), .int (iZ 0), .int (iZ 0), .ref (s + 5)])) (h1 : g (s + 1) = .inl (0, 300, .inl (fun _ => 0))) (h2 : g (s + 2) = .inl (0, 24, .inl (fun _ => 0))) (h3 : g (s + 3) = .inl (0, 24, .inl (fun _ => 0))) (h4 : g (s + 4) = .inl (0, 24, .inl (fun _ => 0))) (h5 : g (s + 5) = .inl (0, 64, .inl (fun _ => 0))) (K : cls (va_up g s (.inr (4, [.null, .int (iZ 0), .int (iZ 0), .int (iZ 0), .int (iZ 0), .int (iZ 0), .null, .null, .null, .int (iZ 0), .int (iZ 0), .null])), s + 1, z)) : gC mX4_init d (s + 1, z, s + 6, z + 436) [.ref s] (va_up g s (.inr (4, [.null, .int (iZ 0), .int (iZ 0), .int (iZ 0), .int (iZ 0), .int (iZ 0), .null, .null, .null, .int (iZ 0), .int (iZ 0), .null])), s + 1, z) (fun v h' => v = none ∧ h' = (g, s + 6, z + 436)) := by
  refine gC_of (h := (va_up g s (.inr (4, [.null, .int (iZ 0), .int (iZ 0), .int (iZ 0), .int (iZ 0), .int (iZ 0), .null, .null, .null, .int (iZ 0), .int (iZ 0), .null])), s + 1, z)) rfl (Nat.le_of_ble_eq_true rfl) (by show s + 1 ≤ s + 6; omega) (by show z ≤ z + 436; omega) ?_
  show gE g_tt _ _ _ _ 0 [some (.ref s)] [] (va_up g s (.inr (4, [.null, .int (iZ 0), .int (iZ 0), .int (iZ 0), .int (iZ 0), .int (iZ 0), .null, .null, .null, .int (iZ 0), .int (iZ 0), .null])), s + 1, z)
  refine q_aload_n dX4_init_0 rfl rfl ?_
  refine q_obj dX4_init_1 mlX4_3 wi_obj wc_obj hd (by decide) ?_
  refine q_aload_n dX4_init_4 rfl rfl ?_
  refine z_sipush dX4_init_5 (by decide +kernel) ?_
  refine r_newI (n := s + 1) dX4_init_8 ac_int (by decide) (by decide +kernel) (by decide) ((va_up_ne _ _ (by omega)).trans h1) (by omega) (by show s + 1 + 1 ≤ s + 6 ∧ _ ≤ z + 436; omega) K (lt_one (by omega)) (lt_self (by omega)) tt_Y (fun K => ?_)
  refine r_putF (C := RX4) (T := TX4) (N := 12) (ci := 4) (kf := 0) (ty := tyX4 0) (fs' := [.ref (s + 1), .int (iZ 0), .int (iZ 0), .int (iZ 0), .int (iZ 0), .int (iZ 0), .null, .null, .null, .int (iZ 0), .int (iZ 0), .null]) dX4_init_10 flX4_9 uwX4 tyX4 tyX4_ok nmX4 rfl (by decide) rfl rfl rfl rfl (by omega) (show 0 < 12 by decide) (fun _ => rfl) (fun _ => rfl) rfl K (Or.inl (show (s + 1 : Nat) < s + 2 by omega)) (fun K => ?_)
  refine q_aload_n dX4_init_13 rfl rfl ?_
  refine z_iconst dX4_init_14 ?_
  refine r_put (C := RX4) (T := TX4) (N := 12) (ci := 4) (kf := 1) (ty := tyX4 1) (fs' := [.ref (s + 1), .int (iZ 0), .int (iZ 0), .int (iZ 0), .int (iZ 0), .int (iZ 0), .null, .null, .null, .int (iZ 0), .int (iZ 0), .null]) dX4_init_15 flX4_15 uwX4 tyX4 tyX4_ok nmX4 rfl (by decide) rfl rfl (by omega) (show 1 < 12 by decide) (fun _ => by first | rfl | decide +kernel) (fun _ => by first | rfl | decide +kernel) rfl K trivial (fun K => ?_)
  refine q_aload_n dX4_init_18 rfl rfl ?_
  refine z_iconst dX4_init_19 ?_
  refine r_put (C := RX4) (T := TX4) (N := 12) (ci := 4) (kf := 2) (ty := tyX4 2) (fs' := [.ref (s + 1), .int (iZ 0), .int (iZ (-1)), .int (iZ 0), .int (iZ 0), .int (iZ 0), .null, .null, .null, .int (iZ 0), .int (iZ 0), .null]) dX4_init_20 flX4_19 uwX4 tyX4 tyX4_ok nmX4 rfl (by decide) rfl rfl (by omega) (show 2 < 12 by decide) (fun _ => by first | rfl | decide +kernel) (fun _ => by first | rfl | decide +kernel) rfl K trivial (fun K => ?_)
  refine q_aload_n dX4_init_23 rfl rfl ?_
  refine z_iconst dX4_init_24 ?_
  refine r_put (C := RX4) (T := TX4) (N := 12) (ci := 4) (kf := 3) (ty := tyX4 3) (fs' := [.ref (s + 1), .int (iZ 0), .int (iZ (-1)), .int (iZ (-1)), .int (iZ 0), .int (iZ 0), .null, .null, .null, .int (iZ 0), .int (iZ 0), .null]) dX4_init_25 flX4_22 uwX4 tyX4 tyX4_ok nmX4 rfl (by decide) rfl rfl (by omega) (show 3 < 12 by decide) (fun _ => by first | rfl | decide +kernel) (fun _ => by first | rfl | decide +kernel) rfl K trivial (fun K => ?_)
  refine q_aload_n dX4_init_28 rfl rfl ?_
  refine z_iconst dX4_init_29 ?_
  refine r_put (C := RX4) (T := TX4) (N := 12) (ci := 4) (kf := 4) (ty := tyX4 4) (fs' := [.ref (s + 1), .int (iZ 0), .int (iZ (-1)), .int (iZ (-1)), .int (iZ (-1)), .int (iZ 0), .null, .null, .null, .int (iZ 0), .int (iZ 0), .null]) dX4_init_30 flX4_25 uwX4 tyX4 tyX4_ok nmX4 rfl (by decide) rfl rfl (by omega) (show 4 < 12 by decide) (fun _ => by first | rfl | decide +kernel) (fun _ => by first | rfl | decide +kernel) rfl K trivial (fun K => ?_)
  refine q_aload_n dX4_init_33 rfl rfl ?_
  refine z_iconst dX4_init_34 ?_
  refine r_put (C := RX4) (T := TX4) (N := 12) (ci := 4) (kf := 5) (ty := tyX4 5) (fs' := [.ref (s + 1), .int (iZ 0), .int (iZ (-1)), .int (iZ (-1)), .int (iZ (-1)), .int (iZ (-1)), .null, .null, .null, .int (iZ 0), .int (iZ 0), .null]) dX4_init_35 flX4_28 uwX4 tyX4 tyX4_ok nmX4 rfl (by decide) rfl rfl (by omega) (show 5 < 12 by decide) (fun _ => by first | rfl | decide +kernel) (fun _ => by first | rfl | decide +kernel) rfl K trivial (fun K => ?_)
  refine q_aload_n dX4_init_38 rfl rfl ?_
  refine z_bipush dX4_init_39 (by decide +kernel) ?_
  refine r_newI (n := s + 2) dX4_init_41 ac_int (by decide) (by decide +kernel) (by decide) ((va_up_ne _ _ (by omega)).trans h2) (by omega) (by show s + 2 + 1 ≤ s + 6 ∧ _ ≤ z + 436; omega) K (lt_one (by omega)) (lt_self (by omega)) tt_Y (fun K => ?_)
  refine r_putF (C := RX4) (T := TX4) (N := 12) (ci := 4) (kf := 6) (ty := tyX4 6) (fs' := [.ref (s + 1), .int (iZ 0), .int (iZ (-1)), .int (iZ (-1)), .int (iZ (-1)), .int (iZ (-1)), .ref (s + 2), .null, .null, .int (iZ 0), .int (iZ 0), .null]) dX4_init_43 flX4_31 uwX4 tyX4 tyX4_ok nmX4 rfl (by decide) rfl rfl rfl rfl (by omega) (show 6 < 12 by decide) (fun _ => rfl) (fun _ => rfl) rfl K (Or.inl (show (s + 2 : Nat) < s + 3 by omega)) (fun K => ?_)
  refine q_aload_n dX4_init_46 rfl rfl ?_
  refine z_bipush dX4_init_47 (by decide +kernel) ?_
  refine r_newI (n := s + 3) dX4_init_49 ac_int (by decide) (by decide +kernel) (by decide) ((va_up_ne _ _ (by omega)).trans h3) (by omega) (by show s + 3 + 1 ≤ s + 6 ∧ _ ≤ z + 436; omega) K (lt_one (by omega)) (lt_self (by omega)) tt_Y (fun K => ?_)
  refine r_putF (C := RX4) (T := TX4) (N := 12) (ci := 4) (kf := 7) (ty := tyX4 7) (fs' := [.ref (s + 1), .int (iZ 0), .int (iZ (-1)), .int (iZ (-1)), .int (iZ (-1)), .int (iZ (-1)), .ref (s + 2), .ref (s + 3), .null, .int (iZ 0), .int (iZ 0), .null]) dX4_init_51 flX4_34 uwX4 tyX4 tyX4_ok nmX4 rfl (by decide) rfl rfl rfl rfl (by omega) (show 7 < 12 by decide) (fun _ => rfl) (fun _ => rfl) rfl K (Or.inl (show (s + 3 : Nat) < s + 4 by omega)) (fun K => ?_)
  refine q_aload_n dX4_init_54 rfl rfl ?_
  refine z_bipush dX4_init_55 (by decide +kernel) ?_
  refine r_newI (n := s + 4) dX4_init_57 ac_int (by decide) (by decide +kernel) (by decide) ((va_up_ne _ _ (by omega)).trans h4) (by omega) (by show s + 4 + 1 ≤ s + 6 ∧ _ ≤ z + 436; omega) K (lt_one (by omega)) (lt_self (by omega)) tt_Y (fun K => ?_)
  refine r_putF (C := RX4) (T := TX4) (N := 12) (ci := 4) (kf := 8) (ty := tyX4 8) (fs' := [.ref (s + 1), .int (iZ 0), .int (iZ (-1)), .int (iZ (-1)), .int (iZ (-1)), .int (iZ (-1)), .ref (s + 2), .ref (s + 3), .ref (s + 4), .int (iZ 0), .int (iZ 0), .null]) dX4_init_59 flX4_37 uwX4 tyX4 tyX4_ok nmX4 rfl (by decide) rfl rfl rfl rfl (by omega) (show 8 < 12 by decide) (fun _ => rfl) (fun _ => rfl) rfl K (Or.inl (show (s + 4 : Nat) < s + 5 by omega)) (fun K => ?_)
  refine q_aload_n dX4_init_62 rfl rfl ?_
  refine z_iconst dX4_init_63 ?_
  refine r_put (C := RX4) (T := TX4) (N := 12) (ci := 4) (kf := 9) (ty := tyX4 9) (fs' := [.ref (s + 1), .int (iZ 0), .int (iZ (-1)), .int (iZ (-1)), .int (iZ (-1)), .int (iZ (-1)), .ref (s + 2), .ref (s + 3), .ref (s + 4), .int (iZ 0), .int (iZ 0), .null]) dX4_init_64 flX4_40 uwX4 tyX4 tyX4_ok nmX4 rfl (by decide) rfl rfl (by omega) (show 9 < 12 by decide) (fun _ => by first | rfl | decide +kernel) (fun _ => by first | rfl | decide +kernel) rfl K trivial (fun K => ?_)
  refine q_aload_n dX4_init_67 rfl rfl ?_
  refine z_iconst dX4_init_68 ?_
  refine r_put (C := RX4) (T := TX4) (N := 12) (ci := 4) (kf := 10) (ty := tyX4 10) (fs' := [.ref (s + 1), .int (iZ 0), .int (iZ (-1)), .int (iZ (-1)), .int (iZ (-1)), .int (iZ (-1)), .ref (s + 2), .ref (s + 3), .ref (s + 4), .int (iZ 0), .int (iZ 0), .null]) dX4_init_69 flX4_43 uwX4 tyX4 tyX4_ok nmX4 rfl (by decide) rfl rfl (by omega) (show 10 < 12 by decide) (fun _ => by first | rfl | decide +kernel) (fun _ => by first | rfl | decide +kernel) rfl K trivial (fun K => ?_)
  refine q_aload_n dX4_init_72 rfl rfl ?_
  refine z_bipush dX4_init_73 (by decide +kernel) ?_
  refine r_newI (n := s + 5) dX4_init_75 ac_int (by decide) (by decide +kernel) (by decide) ((va_up_ne _ _ (by omega)).trans h5) (by omega) (by show s + 5 + 1 ≤ s + 6 ∧ _ ≤ z + 436; omega) K (lt_one (by omega)) (lt_self (by omega)) tt_Y (fun K => ?_)
  refine r_putF (C := RX4) (T := TX4) (N := 12) (ci := 4) (kf := 11) (ty := tyX4 11) (fs' := [.ref (s + 1), .int (iZ 0), .int (iZ (-1)), .int (iZ (-1)), .int (iZ (-1)), .int (iZ (-1)), .ref (s + 2), .ref (s + 3), .ref (s + 4), .int (iZ 0), .int (iZ 0), .ref (s + 5)]) dX4_init_77 flX4_47 uwX4 tyX4 tyX4_ok nmX4 rfl (by decide) rfl rfl rfl rfl (by omega) (show 11 < 12 by decide) (fun _ => rfl) (fun _ => rfl) rfl K (Or.inl (show (s + 5 : Nat) < s + 6 by omega)) (fun K => ?_)
  exact q_vret dX4_init_80 rfl ⟨rfl, by show z + 300 + 24 + 24 + 24 + 64 = z + 436; omega⟩ ⟨rfl, (by rw [va_same (show g s = _ from hs0), show z + 300 + 24 + 24 + 24 + 64 = z + 436 by omega] : (va_up g s (.inr (4, [.ref (s + 1), .int (iZ 0), .int (iZ (-1)), .int (iZ (-1)), .int (iZ (-1)), .int (iZ (-1)), .ref (s + 2), .ref (s + 3), .ref (s + 4), .int (iZ 0), .int (iZ 0), .ref (s + 5)])), s + 6, z + 300 + 24 + 24 + 24 + 64) = (g, s + 6, z + 436))⟩
set_option maxHeartbeats 4000000 in
set_option maxRecDepth 100000 in
theorem k_X3_init {d : Nat} (hd : 1 ≤ d) {g : Nat → va_E} {s z : Nat} (hs9 : s < 900000) (hs0 : g s = .inr (3, [.ref (s + 1), .int (iZ 0), .ref (s + 2), .ref (s + 3), .ref (s + 4), .int (iZ 0), .int (iZ 0)])) (h1 : g (s + 1) = .inl (0, 300, .inl (fun _ => 0))) (h2 : g (s + 2) = .inl (0, 301, .inl (fun _ => 0))) (h3 : g (s + 3) = .inl (0, 301, .inl (fun _ => 0))) (h4 : g (s + 4) = .inl (0, 301, .inl (fun _ => 0))) (K : cls (va_up g s (.inr (3, [.null, .int (iZ 0), .null, .null, .null, .int (iZ 0), .int (iZ 0)])), s + 1, z)) : gC mX3_init d (s + 1, z, s + 5, z + 1203) [.ref s] (va_up g s (.inr (3, [.null, .int (iZ 0), .null, .null, .null, .int (iZ 0), .int (iZ 0)])), s + 1, z) (fun v h' => v = none ∧ h' = (g, s + 5, z + 1203)) := by
  refine gC_of (h := (va_up g s (.inr (3, [.null, .int (iZ 0), .null, .null, .null, .int (iZ 0), .int (iZ 0)])), s + 1, z)) rfl (Nat.le_of_ble_eq_true rfl) (by show s + 1 ≤ s + 5; omega) (by show z ≤ z + 1203; omega) ?_
  show gE g_tt _ _ _ _ 0 [some (.ref s)] [] (va_up g s (.inr (3, [.null, .int (iZ 0), .null, .null, .null, .int (iZ 0), .int (iZ 0)])), s + 1, z)
  refine q_aload_n dX3_init_0 rfl rfl ?_
  refine q_obj dX3_init_1 mlX3_3 wi_obj wc_obj hd (by decide) ?_
  refine q_aload_n dX3_init_4 rfl rfl ?_
  refine z_sipush dX3_init_5 (by decide +kernel) ?_
  refine r_newI (n := s + 1) dX3_init_8 ac_int (by decide) (by decide +kernel) (by decide) ((va_up_ne _ _ (by omega)).trans h1) (by omega) (by show s + 1 + 1 ≤ s + 5 ∧ _ ≤ z + 1203; omega) K (lt_one (by omega)) (lt_self (by omega)) tt_Y (fun K => ?_)
  refine r_putF (C := RX3) (T := TX3) (N := 7) (ci := 3) (kf := 0) (ty := tyX3 0) (fs' := [.ref (s + 1), .int (iZ 0), .null, .null, .null, .int (iZ 0), .int (iZ 0)]) dX3_init_10 flX3_9 uwX3 tyX3 tyX3_ok nmX3 rfl (by decide) rfl rfl rfl rfl (by omega) (show 0 < 7 by decide) (fun _ => rfl) (fun _ => rfl) rfl K (Or.inl (show (s + 1 : Nat) < s + 2 by omega)) (fun K => ?_)
  refine q_aload_n dX3_init_13 rfl rfl ?_
  refine z_iconst dX3_init_14 ?_
  refine r_put (C := RX3) (T := TX3) (N := 7) (ci := 3) (kf := 1) (ty := tyX3 1) (fs' := [.ref (s + 1), .int (iZ 0), .null, .null, .null, .int (iZ 0), .int (iZ 0)]) dX3_init_15 flX3_15 uwX3 tyX3 tyX3_ok nmX3 rfl (by decide) rfl rfl (by omega) (show 1 < 7 by decide) (fun _ => by first | rfl | decide +kernel) (fun _ => by first | rfl | decide +kernel) rfl K trivial (fun K => ?_)
  refine q_aload_n dX3_init_18 rfl rfl ?_
  refine z_sipush dX3_init_19 (by decide +kernel) ?_
  refine r_newI (n := s + 2) dX3_init_22 ac_int (by decide) (by decide +kernel) (by decide) ((va_up_ne _ _ (by omega)).trans h2) (by omega) (by show s + 2 + 1 ≤ s + 5 ∧ _ ≤ z + 1203; omega) K (lt_one (by omega)) (lt_self (by omega)) tt_Y (fun K => ?_)
  refine r_putF (C := RX3) (T := TX3) (N := 7) (ci := 3) (kf := 2) (ty := tyX3 2) (fs' := [.ref (s + 1), .int (iZ 0), .ref (s + 2), .null, .null, .int (iZ 0), .int (iZ 0)]) dX3_init_24 flX3_19 uwX3 tyX3 tyX3_ok nmX3 rfl (by decide) rfl rfl rfl rfl (by omega) (show 2 < 7 by decide) (fun _ => rfl) (fun _ => rfl) rfl K (Or.inl (show (s + 2 : Nat) < s + 3 by omega)) (fun K => ?_)
  refine q_aload_n dX3_init_27 rfl rfl ?_
  refine z_sipush dX3_init_28 (by decide +kernel) ?_
  refine r_newI (n := s + 3) dX3_init_31 ac_int (by decide) (by decide +kernel) (by decide) ((va_up_ne _ _ (by omega)).trans h3) (by omega) (by show s + 3 + 1 ≤ s + 5 ∧ _ ≤ z + 1203; omega) K (lt_one (by omega)) (lt_self (by omega)) tt_Y (fun K => ?_)
  refine r_putF (C := RX3) (T := TX3) (N := 7) (ci := 3) (kf := 3) (ty := tyX3 3) (fs' := [.ref (s + 1), .int (iZ 0), .ref (s + 2), .ref (s + 3), .null, .int (iZ 0), .int (iZ 0)]) dX3_init_33 flX3_22 uwX3 tyX3 tyX3_ok nmX3 rfl (by decide) rfl rfl rfl rfl (by omega) (show 3 < 7 by decide) (fun _ => rfl) (fun _ => rfl) rfl K (Or.inl (show (s + 3 : Nat) < s + 4 by omega)) (fun K => ?_)
  refine q_aload_n dX3_init_36 rfl rfl ?_
  refine z_sipush dX3_init_37 (by decide +kernel) ?_
  refine r_newI (n := s + 4) dX3_init_40 ac_int (by decide) (by decide +kernel) (by decide) ((va_up_ne _ _ (by omega)).trans h4) (by omega) (by show s + 4 + 1 ≤ s + 5 ∧ _ ≤ z + 1203; omega) K (lt_one (by omega)) (lt_self (by omega)) tt_Y (fun K => ?_)
  refine r_putF (C := RX3) (T := TX3) (N := 7) (ci := 3) (kf := 4) (ty := tyX3 4) (fs' := [.ref (s + 1), .int (iZ 0), .ref (s + 2), .ref (s + 3), .ref (s + 4), .int (iZ 0), .int (iZ 0)]) dX3_init_42 flX3_25 uwX3 tyX3 tyX3_ok nmX3 rfl (by decide) rfl rfl rfl rfl (by omega) (show 4 < 7 by decide) (fun _ => rfl) (fun _ => rfl) rfl K (Or.inl (show (s + 4 : Nat) < s + 5 by omega)) (fun K => ?_)
  refine q_aload_n dX3_init_45 rfl rfl ?_
  refine z_iconst dX3_init_46 ?_
  refine r_put (C := RX3) (T := TX3) (N := 7) (ci := 3) (kf := 5) (ty := tyX3 5) (fs' := [.ref (s + 1), .int (iZ 0), .ref (s + 2), .ref (s + 3), .ref (s + 4), .int (iZ 0), .int (iZ 0)]) dX3_init_47 flX3_28 uwX3 tyX3 tyX3_ok nmX3 rfl (by decide) rfl rfl (by omega) (show 5 < 7 by decide) (fun _ => by first | rfl | decide +kernel) (fun _ => by first | rfl | decide +kernel) rfl K trivial (fun K => ?_)
  refine q_aload_n dX3_init_50 rfl rfl ?_
  refine z_iconst dX3_init_51 ?_
  refine r_put (C := RX3) (T := TX3) (N := 7) (ci := 3) (kf := 6) (ty := tyX3 6) (fs' := [.ref (s + 1), .int (iZ 0), .ref (s + 2), .ref (s + 3), .ref (s + 4), .int (iZ 0), .int (iZ 0)]) dX3_init_52 flX3_31 uwX3 tyX3 tyX3_ok nmX3 rfl (by decide) rfl rfl (by omega) (show 6 < 7 by decide) (fun _ => by first | rfl | decide +kernel) (fun _ => by first | rfl | decide +kernel) rfl K trivial (fun K => ?_)
  exact q_vret dX3_init_55 rfl ⟨rfl, by show z + 300 + 301 + 301 + 301 = z + 1203; omega⟩ ⟨rfl, (by rw [va_same (show g s = _ from hs0), show z + 300 + 301 + 301 + 301 = z + 1203 by omega] : (va_up g s (.inr (3, [.ref (s + 1), .int (iZ 0), .ref (s + 2), .ref (s + 3), .ref (s + 4), .int (iZ 0), .int (iZ 0)])), s + 5, z + 300 + 301 + 301 + 301) = (g, s + 5, z + 1203))⟩
set_option maxHeartbeats 4000000 in
set_option maxRecDepth 100000 in
theorem k_X1_init {d : Nat} (hd : 1 ≤ d) {g : Nat → va_E} {s z t x : Nat} (hs9 : s < 900000) (ht : t < s) (hx : x < s) (hs0 : g s = .inr (1, [.int (iZ (-1)), .int (iZ (-1)), .ref t, .ref x, .int (iZ 0), .int (iZ 0), .int (iZ 39)]))  (K : cls (va_up g s (.inr (1, [.int (iZ 0), .int (iZ 0), .null, .null, .int (iZ 0), .int (iZ 0), .int (iZ 0)])), s + 1, z)) : gC mX1_init d (s + 1, z, s + 1, z + 0) [.ref s, .ref t, .ref x] (va_up g s (.inr (1, [.int (iZ 0), .int (iZ 0), .null, .null, .int (iZ 0), .int (iZ 0), .int (iZ 0)])), s + 1, z) (fun v h' => v = none ∧ h' = (g, s + 1, z + 0)) := by
  refine gC_of (h := (va_up g s (.inr (1, [.int (iZ 0), .int (iZ 0), .null, .null, .int (iZ 0), .int (iZ 0), .int (iZ 0)])), s + 1, z)) rfl (Nat.le_of_ble_eq_true rfl) (by show s + 1 ≤ s + 1; omega) (by show z ≤ z + 0; omega) ?_
  show gE g_tt _ _ _ _ 0 [some (.ref s), some (.ref t), some (.ref x)] [] (va_up g s (.inr (1, [.int (iZ 0), .int (iZ 0), .null, .null, .int (iZ 0), .int (iZ 0), .int (iZ 0)])), s + 1, z)
  refine q_aload_n dX1_init_0 rfl rfl ?_
  refine q_obj dX1_init_1 mlX1_3 wi_obj wc_obj hd (by decide) ?_
  refine q_aload_n dX1_init_4 rfl rfl ?_
  refine z_iconst dX1_init_5 ?_
  refine r_put (C := RX1) (T := TX1) (N := 7) (ci := 1) (kf := 0) (ty := tyX1 0) (fs' := [.int (iZ (-1)), .int (iZ 0), .null, .null, .int (iZ 0), .int (iZ 0), .int (iZ 0)]) dX1_init_6 flX1_9 uwX1 tyX1 tyX1_ok nmX1 rfl (by decide) rfl rfl (by omega) (show 0 < 7 by decide) (fun _ => by first | rfl | decide +kernel) (fun _ => by first | rfl | decide +kernel) rfl K trivial (fun K => ?_)
  refine q_aload_n dX1_init_9 rfl rfl ?_
  refine z_iconst dX1_init_10 ?_
  refine r_put (C := RX1) (T := TX1) (N := 7) (ci := 1) (kf := 1) (ty := tyX1 1) (fs' := [.int (iZ (-1)), .int (iZ (-1)), .null, .null, .int (iZ 0), .int (iZ 0), .int (iZ 0)]) dX1_init_11 flX1_15 uwX1 tyX1 tyX1_ok nmX1 rfl (by decide) rfl rfl (by omega) (show 1 < 7 by decide) (fun _ => by first | rfl | decide +kernel) (fun _ => by first | rfl | decide +kernel) rfl K trivial (fun K => ?_)
  refine q_aload_n dX1_init_14 rfl rfl ?_
  refine z_iconst dX1_init_15 ?_
  refine r_put (C := RX1) (T := TX1) (N := 7) (ci := 1) (kf := 4) (ty := tyX1 4) (fs' := [.int (iZ (-1)), .int (iZ (-1)), .null, .null, .int (iZ 0), .int (iZ 0), .int (iZ 0)]) dX1_init_16 flX1_18 uwX1 tyX1 tyX1_ok nmX1 rfl (by decide) rfl rfl (by omega) (show 4 < 7 by decide) (fun _ => by first | rfl | decide +kernel) (fun _ => by first | rfl | decide +kernel) rfl K trivial (fun K => ?_)
  refine q_aload_n dX1_init_19 rfl rfl ?_
  refine z_iconst dX1_init_20 ?_
  refine r_put (C := RX1) (T := TX1) (N := 7) (ci := 1) (kf := 5) (ty := tyX1 5) (fs' := [.int (iZ (-1)), .int (iZ (-1)), .null, .null, .int (iZ 0), .int (iZ 0), .int (iZ 0)]) dX1_init_21 flX1_22 uwX1 tyX1 tyX1_ok nmX1 rfl (by decide) rfl rfl (by omega) (show 5 < 7 by decide) (fun _ => by first | rfl | decide +kernel) (fun _ => by first | rfl | decide +kernel) rfl K trivial (fun K => ?_)
  refine q_aload_n dX1_init_24 rfl rfl ?_
  refine z_bipush dX1_init_25 (by decide +kernel) ?_
  refine r_put (C := RX1) (T := TX1) (N := 7) (ci := 1) (kf := 6) (ty := tyX1 6) (fs' := [.int (iZ (-1)), .int (iZ (-1)), .null, .null, .int (iZ 0), .int (iZ 0), .int (iZ 39)]) dX1_init_27 flX1_25 uwX1 tyX1 tyX1_ok nmX1 rfl (by decide) rfl rfl (by omega) (show 6 < 7 by decide) (fun _ => by first | rfl | decide +kernel) (fun _ => by first | rfl | decide +kernel) rfl K trivial (fun K => ?_)
  refine q_aload_n dX1_init_30 rfl rfl ?_
  refine q_aload_n dX1_init_31 rfl rfl ?_
  refine r_putF (C := RX1) (T := TX1) (N := 7) (ci := 1) (kf := 2) (ty := tyX1 2) (fs' := [.int (iZ (-1)), .int (iZ (-1)), .ref t, .null, .int (iZ 0), .int (iZ 0), .int (iZ 39)]) dX1_init_32 flX1_28 uwX1 tyX1 tyX1_ok nmX1 rfl (by decide) rfl rfl rfl rfl (by omega) (show 2 < 7 by decide) (fun _ => rfl) (fun _ => rfl) rfl K (Or.inl (show (t : Nat) < s + 1 by omega)) (fun K => ?_)
  refine q_aload_n dX1_init_35 rfl rfl ?_
  refine q_aload_n dX1_init_36 rfl rfl ?_
  refine r_put (C := RX1) (T := TX1) (N := 7) (ci := 1) (kf := 3) (ty := tyX1 3) (fs' := [.int (iZ (-1)), .int (iZ (-1)), .ref t, .ref x, .int (iZ 0), .int (iZ 0), .int (iZ 39)]) dX1_init_37 flX1_32 uwX1 tyX1 tyX1_ok nmX1 rfl (by decide) rfl rfl (by omega) (show 3 < 7 by decide) (fun _ => by first | rfl | decide +kernel) (fun _ => by first | rfl | decide +kernel) rfl K (Or.inl (show (x : Nat) < s + 1 by omega)) (fun K => ?_)
  exact q_vret dX1_init_40 rfl ⟨rfl, by show z = z + 0; omega⟩ ⟨rfl, (by rw [va_same (show g s = _ from hs0), show z = z + 0 by omega] : (va_up g s (.inr (1, [.int (iZ (-1)), .int (iZ (-1)), .ref t, .ref x, .int (iZ 0), .int (iZ 0), .int (iZ 39)])), s + 1, z) = (g, s + 1, z + 0))⟩
set_option maxHeartbeats 4000000 in
set_option maxRecDepth 100000 in
theorem k_X0_init {d : Nat} (hd : 1 ≤ d) {g : Nat → va_E} {s z : Nat} (hs9 : s < 900000) (hs0 : g s = .inr (0, [.ref (s + 1), .int (iZ 0), .int (iZ (-1)), .ref (s + 2), .int (iZ 0)])) (h1 : g (s + 1) = .inl (0, 8, .inl (fun _ => 0))) (h2 : g (s + 2) = .inl (0, 8, .inl (fun _ => 0))) (K : cls (va_up g s (.inr (0, [.null, .int (iZ 0), .int (iZ 0), .null, .int (iZ 0)])), s + 1, z)) : gC mX0_init d (s + 1, z, s + 3, z + 16) [.ref s] (va_up g s (.inr (0, [.null, .int (iZ 0), .int (iZ 0), .null, .int (iZ 0)])), s + 1, z) (fun v h' => v = none ∧ h' = (g, s + 3, z + 16)) := by
  refine gC_of (h := (va_up g s (.inr (0, [.null, .int (iZ 0), .int (iZ 0), .null, .int (iZ 0)])), s + 1, z)) rfl (Nat.le_of_ble_eq_true rfl) (by show s + 1 ≤ s + 3; omega) (by show z ≤ z + 16; omega) ?_
  show gE g_tt _ _ _ _ 0 [some (.ref s)] [] (va_up g s (.inr (0, [.null, .int (iZ 0), .int (iZ 0), .null, .int (iZ 0)])), s + 1, z)
  refine q_aload_n dX0_init_0 rfl rfl ?_
  refine q_obj dX0_init_1 mlX0_3 wi_obj wc_obj hd (by decide) ?_
  refine q_aload_n dX0_init_4 rfl rfl ?_
  refine z_bipush dX0_init_5 (by decide +kernel) ?_
  refine r_newI (n := s + 1) dX0_init_7 ac_int (by decide) (by decide +kernel) (by decide) ((va_up_ne _ _ (by omega)).trans h1) (by omega) (by show s + 1 + 1 ≤ s + 3 ∧ _ ≤ z + 16; omega) K (lt_one (by omega)) (lt_self (by omega)) tt_Y (fun K => ?_)
  refine r_putF (C := RX0) (T := TX0) (N := 5) (ci := 0) (kf := 0) (ty := tyX0 0) (fs' := [.ref (s + 1), .int (iZ 0), .int (iZ 0), .null, .int (iZ 0)]) dX0_init_9 flX0_9 uwX0 tyX0 tyX0_ok nmX0 rfl (by decide) rfl rfl rfl rfl (by omega) (show 0 < 5 by decide) (fun _ => rfl) (fun _ => rfl) rfl K (Or.inl (show (s + 1 : Nat) < s + 2 by omega)) (fun K => ?_)
  refine q_aload_n dX0_init_12 rfl rfl ?_
  refine z_iconst dX0_init_13 ?_
  refine r_put (C := RX0) (T := TX0) (N := 5) (ci := 0) (kf := 1) (ty := tyX0 1) (fs' := [.ref (s + 1), .int (iZ 0), .int (iZ 0), .null, .int (iZ 0)]) dX0_init_14 flX0_15 uwX0 tyX0 tyX0_ok nmX0 rfl (by decide) rfl rfl (by omega) (show 1 < 5 by decide) (fun _ => by first | rfl | decide +kernel) (fun _ => by first | rfl | decide +kernel) rfl K trivial (fun K => ?_)
  refine q_aload_n dX0_init_17 rfl rfl ?_
  refine z_iconst dX0_init_18 ?_
  refine r_put (C := RX0) (T := TX0) (N := 5) (ci := 0) (kf := 2) (ty := tyX0 2) (fs' := [.ref (s + 1), .int (iZ 0), .int (iZ (-1)), .null, .int (iZ 0)]) dX0_init_19 flX0_19 uwX0 tyX0 tyX0_ok nmX0 rfl (by decide) rfl rfl (by omega) (show 2 < 5 by decide) (fun _ => by first | rfl | decide +kernel) (fun _ => by first | rfl | decide +kernel) rfl K trivial (fun K => ?_)
  refine q_aload_n dX0_init_22 rfl rfl ?_
  refine z_bipush dX0_init_23 (by decide +kernel) ?_
  refine r_newI (n := s + 2) dX0_init_25 ac_int (by decide) (by decide +kernel) (by decide) ((va_up_ne _ _ (by omega)).trans h2) (by omega) (by show s + 2 + 1 ≤ s + 3 ∧ _ ≤ z + 16; omega) K (lt_one (by omega)) (lt_self (by omega)) tt_Y (fun K => ?_)
  refine r_putF (C := RX0) (T := TX0) (N := 5) (ci := 0) (kf := 3) (ty := tyX0 3) (fs' := [.ref (s + 1), .int (iZ 0), .int (iZ (-1)), .ref (s + 2), .int (iZ 0)]) dX0_init_27 flX0_22 uwX0 tyX0 tyX0_ok nmX0 rfl (by decide) rfl rfl rfl rfl (by omega) (show 3 < 5 by decide) (fun _ => rfl) (fun _ => rfl) rfl K (Or.inl (show (s + 2 : Nat) < s + 3 by omega)) (fun K => ?_)
  refine q_aload_n dX0_init_30 rfl rfl ?_
  refine z_iconst dX0_init_31 ?_
  refine r_put (C := RX0) (T := TX0) (N := 5) (ci := 0) (kf := 4) (ty := tyX0 4) (fs' := [.ref (s + 1), .int (iZ 0), .int (iZ (-1)), .ref (s + 2), .int (iZ 0)]) dX0_init_32 flX0_25 uwX0 tyX0 tyX0_ok nmX0 rfl (by decide) rfl rfl (by omega) (show 4 < 5 by decide) (fun _ => by first | rfl | decide +kernel) (fun _ => by first | rfl | decide +kernel) rfl K trivial (fun K => ?_)
  exact q_vret dX0_init_35 rfl ⟨rfl, by show z + 8 + 8 = z + 16; omega⟩ ⟨rfl, (by rw [va_same (show g s = _ from hs0), show z + 8 + 8 = z + 16 by omega] : (va_up g s (.inr (0, [.ref (s + 1), .int (iZ 0), .int (iZ (-1)), .ref (s + 2), .int (iZ 0)])), s + 3, z + 8 + 8) = (g, s + 3, z + 16))⟩
