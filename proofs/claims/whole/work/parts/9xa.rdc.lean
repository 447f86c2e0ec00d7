/-! ===== the class's reader: readClause ===== -/
set_option maxHeartbeats 4000000 in
set_option maxRecDepth 100000 in
theorem x_rcA {d : Nat} (hd : 84 ≤ d) {σ1 : gS} {x n : Nat} {tk st nu : Nat → Int} {so : Int} {B : rB} {cs : List Nat} (I : cTI σ1 x n tk st nu so B cs) (ht : tk B.2.2.1 ≠ 39) (hnu : ∀ k, 0 ≤ nu k ∧ nu k ≤ 10000) {t : Int} (t0 : tk B.2.2.1 = t) (h7 : 7 < t) : sC mX1_readClause d [.ref 333] σ1 (fun r σ' => r = none ∧ cqC σ1 x n tk st nu B cs σ') := by
  have K := I.1
  have rd := I.2.1
  have ok := I.2.2.1
  have hlt : B.2.2.1 < n := k_lt K ok.2.1 ht
  have tr := (K.2.2.2.2 _ ok.2.1).2.2.2.2.2
  have i24 := I.2.2.2.2.2.1
  refine sC_of rfl (Nat.le_of_ble_eq_true rfl) ?_
  show sE g_tt _ _ _ 0 [some (.ref 333), none] [] σ1
  refine q_aload_n dX1_readClause_0 rfl rfl ?_
  refine sg1 (kf := 6) (v := .int (iZ t)) dX1_readClause_1 flX1_25 (show kd 333 = 1 from rfl) (by decide) (by show some (Value.int (iZ ((σ1).1 333 6))) = _; rw [show (σ1).1 333 6 = t from (rd.2.2.2.2.2.2.2.1).trans t0]) ?_
  refine q_istore_n dX1_readClause_4 rfl (by decide) ?_
  show sE g_tt _ _ _ 5 [some (.ref 333), some (.int (iZ t))] [] σ1
  refine q_iload_n dX1_readClause_5 rfl rfl ?_
  refine z_bipush dX1_readClause_6 (by decide +kernel) ?_
  refine z_icmp_le (tgt := 19) dX1_readClause_8 (by decide) (by unfold inR; omega) (by unfold inR; omega) (fun c_1 => ?_) (fun c_1 => ?_)
  · exfalso
    omega
  · refine q_aload_n dX1_readClause_11 rfl rfl ?_
    refine z_iconst dX1_readClause_12 ?_
    refine s_callV (ci := 1) (a := 333) (As := [.int (iZ 1)]) (S := []) dX1_readClause_13 okX1_fail mlX1_59 rfl (by omega) rfl (Nat.le_of_ble_eq_true rfl) (show kd 333 = 1 from rfl) (by decide) rfl (x_fail (d := d - 1) (c := 1) K rd ok) (fun v_ σ_ hq => ?_)
    obtain ⟨rfl, rd2⟩ := hq
    rename gS => σ2
    show sE g_tt _ _ _ 16 [some (.ref 333), some (.int (iZ t))] [] σ2
    refine q_goto (tgt := 101) dX1_readClause_16 (by decide) ?_
    exact s_vret dX1_readClause_101 rfl ⟨rfl, cq_fl I (by decide) (by unfold oneE; rw [if_pos (by omega)]) rd2⟩
set_option maxHeartbeats 4000000 in
set_option maxRecDepth 100000 in
theorem x_rcB0 {d : Nat} (hd : 84 ≤ d) {σ1 : gS} {x n : Nat} {tk st nu : Nat → Int} {so : Int} {B : rB} {cs : List Nat} (I : cTI σ1 x n tk st nu so B cs) (ht : tk B.2.2.1 ≠ 39) (hnu : ∀ k, 0 ≤ nu k ∧ nu k ≤ 10000) (t0 : tk B.2.2.1 = 0) {i : Nat} (h2 : σ1.1 x 2 = (i : Int)) (hi : i ≤ 300) (hyes : lwK tk 0 cs ≠ 0) : sC mX1_readClause d [.ref 333] σ1 (fun r σ' => r = none ∧ cqC σ1 x n tk st nu B cs σ') := by
  have K := I.1
  have rd := I.2.1
  have ok := I.2.2.1
  have hlt : B.2.2.1 < n := k_lt K ok.2.1 ht
  have tr := (K.2.2.2.2 _ ok.2.1).2.2.2.2.2
  have i24 := I.2.2.2.2.2.1
  refine sC_of rfl (Nat.le_of_ble_eq_true rfl) ?_
  show sE g_tt _ _ _ 0 [some (.ref 333), none] [] σ1
  refine q_aload_n dX1_readClause_0 rfl rfl ?_
  refine sg1 (kf := 6) (v := .int (iZ 0)) dX1_readClause_1 flX1_25 (show kd 333 = 1 from rfl) (by decide) (by show some (Value.int (iZ ((σ1).1 333 6))) = _; rw [show (σ1).1 333 6 = 0 from (rd.2.2.2.2.2.2.2.1).trans t0]) ?_
  refine q_istore_n dX1_readClause_4 rfl (by decide) ?_
  show sE g_tt _ _ _ 5 [some (.ref 333), some (.int (iZ 0))] [] σ1
  refine q_iload_n dX1_readClause_5 rfl rfl ?_
  refine z_bipush dX1_readClause_6 (by decide +kernel) ?_
  refine z_icmp_le (tgt := 19) dX1_readClause_8 (by decide) (by unfold inR; omega) (by unfold inR; omega) (fun c_1 => ?_) (fun c_1 => ?_)
  · refine q_iload_n dX1_readClause_19 rfl rfl ?_
    refine z_if_ne (tgt := 34) dX1_readClause_20 (by decide) (by unfold inR; omega) (fun c_2 => ?_) (fun c_2 => ?_)
    · exfalso
      revert c_2
      decide
    · refine q_aload_n dX1_readClause_23 rfl rfl ?_
      refine sg1 (kf := 3) (v := .ref x) dX1_readClause_24 flX1_32 (show kd 333 = 1 from rfl) (by decide) (by show some (va_rf ((σ1).2.2.2.2 333 3)) = _; rw [show (σ1).2.2.2.2 333 3 = some x from rd.2.2.1]; rfl) ?_
      refine sg4 (kf := 2) (v := .int (iZ (i : Int))) dX1_readClause_27 flX1_66 K.1 (by decide) (by show some (Value.int (iZ (σ1.1 x 2))) = _; rw [show σ1.1 x 2 = (i : Int) from h2]) ?_
      refine z_iconst dX1_readClause_30 ?_
      refine z_icmp_ne (tgt := 50) dX1_readClause_31 (by decide) (by unfold inR; omega) (by unfold inR; omega) (fun c_3 => ?_) (fun c_3 => ?_)
      · refine q_aload_n dX1_readClause_50 rfl rfl ?_
        refine z_iconst dX1_readClause_51 ?_
        refine s_callV (ci := 1) (a := 333) (As := [.int (iZ 4)]) (S := []) dX1_readClause_52 okX1_fail mlX1_59 rfl (by omega) rfl (Nat.le_of_ble_eq_true rfl) (show kd 333 = 1 from rfl) (by decide) rfl (x_fail (d := d - 1) (c := 4) K rd ok) (fun v_ σ_ hq => ?_)
        obtain ⟨rfl, rd2⟩ := hq
        rename gS => σ2
        show sE g_tt _ _ _ 55 [some (.ref 333), some (.int (iZ 0))] [] σ2
        refine q_goto (tgt := 101) dX1_readClause_55 (by decide) ?_
        exact s_vret dX1_readClause_101 rfl ⟨rfl, cq_fl I (by decide) (by unfold oneE; rw [t0, if_neg (by omega), if_pos ⟨by omega, hyes⟩]) rd2⟩
      · exfalso
        omega
  · exfalso
    revert c_1
    decide
set_option maxHeartbeats 4000000 in
set_option maxRecDepth 100000 in
theorem x_rcB1 {d : Nat} (hd : 84 ≤ d) {σ1 : gS} {x n : Nat} {tk st nu : Nat → Int} {so : Int} {B : rB} {cs : List Nat} (I : cTI σ1 x n tk st nu so B cs) (ht : tk B.2.2.1 ≠ 39) (hnu : ∀ k, 0 ≤ nu k ∧ nu k ≤ 10000) (t0 : tk B.2.2.1 = 1) {i : Nat} (h4 : σ1.1 x 4 = (i : Int)) (hi : i ≤ 300) (hyes : lwK tk 1 cs ≠ 0) : sC mX1_readClause d [.ref 333] σ1 (fun r σ' => r = none ∧ cqC σ1 x n tk st nu B cs σ') := by
  have K := I.1
  have rd := I.2.1
  have ok := I.2.2.1
  have hlt : B.2.2.1 < n := k_lt K ok.2.1 ht
  have tr := (K.2.2.2.2 _ ok.2.1).2.2.2.2.2
  have i24 := I.2.2.2.2.2.1
  refine sC_of rfl (Nat.le_of_ble_eq_true rfl) ?_
  show sE g_tt _ _ _ 0 [some (.ref 333), none] [] σ1
  refine q_aload_n dX1_readClause_0 rfl rfl ?_
  refine sg1 (kf := 6) (v := .int (iZ 1)) dX1_readClause_1 flX1_25 (show kd 333 = 1 from rfl) (by decide) (by show some (Value.int (iZ ((σ1).1 333 6))) = _; rw [show (σ1).1 333 6 = 1 from (rd.2.2.2.2.2.2.2.1).trans t0]) ?_
  refine q_istore_n dX1_readClause_4 rfl (by decide) ?_
  show sE g_tt _ _ _ 5 [some (.ref 333), some (.int (iZ 1))] [] σ1
  refine q_iload_n dX1_readClause_5 rfl rfl ?_
  refine z_bipush dX1_readClause_6 (by decide +kernel) ?_
  refine z_icmp_le (tgt := 19) dX1_readClause_8 (by decide) (by unfold inR; omega) (by unfold inR; omega) (fun c_1 => ?_) (fun c_1 => ?_)
  · refine q_iload_n dX1_readClause_19 rfl rfl ?_
    refine z_if_ne (tgt := 34) dX1_readClause_20 (by decide) (by unfold inR; omega) (fun c_2 => ?_) (fun c_2 => ?_)
    · refine q_iload_n dX1_readClause_34 rfl rfl ?_
      refine z_iconst dX1_readClause_35 ?_
      refine z_icmp_ne (tgt := 58) dX1_readClause_36 (by decide) (by unfold inR; omega) (by unfold inR; omega) (fun c_3 => ?_) (fun c_3 => ?_)
      · exfalso
        revert c_3
        decide
      · refine q_aload_n dX1_readClause_39 rfl rfl ?_
        refine sg1 (kf := 3) (v := .ref x) dX1_readClause_40 flX1_32 (show kd 333 = 1 from rfl) (by decide) (by show some (va_rf ((σ1).2.2.2.2 333 3)) = _; rw [show (σ1).2.2.2.2 333 3 = some x from rd.2.2.1]; rfl) ?_
        refine sg4 (kf := 4) (v := .int (iZ (i : Int))) dX1_readClause_43 flX1_69 K.1 (by decide) (by show some (Value.int (iZ (σ1.1 x 4))) = _; rw [show σ1.1 x 4 = (i : Int) from h4]) ?_
        refine z_iconst dX1_readClause_46 ?_
        refine z_icmp_eq (tgt := 58) dX1_readClause_47 (by decide) (by unfold inR; omega) (by unfold inR; omega) (fun c_4 => ?_) (fun c_4 => ?_)
        · exfalso
          omega
        · refine q_aload_n dX1_readClause_50 rfl rfl ?_
          refine z_iconst dX1_readClause_51 ?_
          refine s_callV (ci := 1) (a := 333) (As := [.int (iZ 4)]) (S := []) dX1_readClause_52 okX1_fail mlX1_59 rfl (by omega) rfl (Nat.le_of_ble_eq_true rfl) (show kd 333 = 1 from rfl) (by decide) rfl (x_fail (d := d - 1) (c := 4) K rd ok) (fun v_ σ_ hq => ?_)
          obtain ⟨rfl, rd2⟩ := hq
          rename gS => σ2
          show sE g_tt _ _ _ 55 [some (.ref 333), some (.int (iZ 1))] [] σ2
          refine q_goto (tgt := 101) dX1_readClause_55 (by decide) ?_
          exact s_vret dX1_readClause_101 rfl ⟨rfl, cq_fl I (by decide) (by unfold oneE; rw [t0, if_neg (by omega), if_pos ⟨by omega, hyes⟩]) rd2⟩
    · exfalso
      revert c_2
      decide
  · exfalso
    revert c_1
    decide
set_option maxHeartbeats 4000000 in
set_option maxRecDepth 100000 in
theorem x_rcC0 {d : Nat} (hd : 84 ≤ d) {σ1 : gS} {x n : Nat} {tk st nu : Nat → Int} {so : Int} {B : rB} {cs : List Nat} (I : cTI σ1 x n tk st nu so B cs) (ht : tk B.2.2.1 ≠ 39) (hnu : ∀ k, 0 ≤ nu k ∧ nu k ≤ 10000) (t0 : tk B.2.2.1 = 0) (h2 : σ1.1 x 2 = -1) (hno : (0 : Int) ≤ 1 → lwK tk 0 cs = 0) (h24 : cs.length = 24) : sC mX1_readClause d [.ref 333] σ1 (fun r σ' => r = none ∧ cqC σ1 x n tk st nu B cs σ') := by
  have K := I.1
  have rd := I.2.1
  have ok := I.2.2.1
  have hlt : B.2.2.1 < n := k_lt K ok.2.1 ht
  have tr := (K.2.2.2.2 _ ok.2.1).2.2.2.2.2
  have i24 := I.2.2.2.2.2.1
  refine sC_of rfl (Nat.le_of_ble_eq_true rfl) ?_
  show sE g_tt _ _ _ 0 [some (.ref 333), none] [] σ1
  refine q_aload_n dX1_readClause_0 rfl rfl ?_
  refine sg1 (kf := 6) (v := .int (iZ 0)) dX1_readClause_1 flX1_25 (show kd 333 = 1 from rfl) (by decide) (by show some (Value.int (iZ ((σ1).1 333 6))) = _; rw [show (σ1).1 333 6 = 0 from (rd.2.2.2.2.2.2.2.1).trans t0]) ?_
  refine q_istore_n dX1_readClause_4 rfl (by decide) ?_
  show sE g_tt _ _ _ 5 [some (.ref 333), some (.int (iZ 0))] [] σ1
  refine q_iload_n dX1_readClause_5 rfl rfl ?_
  refine z_bipush dX1_readClause_6 (by decide +kernel) ?_
  refine z_icmp_le (tgt := 19) dX1_readClause_8 (by decide) (by unfold inR; omega) (by unfold inR; omega) (fun c_1 => ?_) (fun c_1 => ?_)
  · refine q_iload_n dX1_readClause_19 rfl rfl ?_
    refine z_if_ne (tgt := 34) dX1_readClause_20 (by decide) (by unfold inR; omega) (fun c_2 => ?_) (fun c_2 => ?_)
    · exfalso
      revert c_2
      decide
    · refine q_aload_n dX1_readClause_23 rfl rfl ?_
      refine sg1 (kf := 3) (v := .ref x) dX1_readClause_24 flX1_32 (show kd 333 = 1 from rfl) (by decide) (by show some (va_rf ((σ1).2.2.2.2 333 3)) = _; rw [show (σ1).2.2.2.2 333 3 = some x from rd.2.2.1]; rfl) ?_
      refine sg4 (kf := 2) (v := .int (iZ (-1))) dX1_readClause_27 flX1_66 K.1 (by decide) (by show some (Value.int (iZ (σ1.1 x 2))) = _; rw [show σ1.1 x 2 = (-1) from h2]) ?_
      refine z_iconst dX1_readClause_30 ?_
      refine z_icmp_ne (tgt := 50) dX1_readClause_31 (by decide) (by unfold inR; omega) (by unfold inR; omega) (fun c_3 => ?_) (fun c_3 => ?_)
      · exfalso
        revert c_3
        decide
      · refine q_iload_n dX1_readClause_34 rfl rfl ?_
        refine z_iconst dX1_readClause_35 ?_
        refine z_icmp_ne (tgt := 58) dX1_readClause_36 (by decide) (by unfold inR; omega) (by unfold inR; omega) (fun c_4 => ?_) (fun c_4 => ?_)
        · refine q_aload_n dX1_readClause_58 rfl rfl ?_
          refine sg1 (kf := 3) (v := .ref x) dX1_readClause_59 flX1_32 (show kd 333 = 1 from rfl) (by decide) (by show some (va_rf ((σ1).2.2.2.2 333 3)) = _; rw [show (σ1).2.2.2.2 333 3 = some x from rd.2.2.1]; rfl) ?_
          refine sg4 (kf := 9) (v := .int (iZ ((cs.length : Nat) : Int))) dX1_readClause_62 flX1_72 K.1 (by decide) (by show some (Value.int (iZ (σ1.1 x 9))) = _; rw [show σ1.1 x 9 = ((cs.length : Nat) : Int) from I.2.2.2.2.1]) ?_
          refine z_bipush dX1_readClause_65 (by decide +kernel) ?_
          refine z_icmp_lt (tgt := 79) dX1_readClause_67 (by decide) (by unfold inR; omega) (by unfold inR; omega) (fun c_5 => ?_) (fun c_5 => ?_)
          · exfalso
            omega
          · refine q_aload_n dX1_readClause_70 rfl rfl ?_
            refine z_bipush dX1_readClause_71 (by decide +kernel) ?_
            refine s_callV (ci := 1) (a := 333) (As := [.int (iZ 6)]) (S := []) dX1_readClause_73 okX1_fail mlX1_59 rfl (by omega) rfl (Nat.le_of_ble_eq_true rfl) (show kd 333 = 1 from rfl) (by decide) rfl (x_fail (d := d - 1) (c := 6) K rd ok) (fun v_ σ_ hq => ?_)
            obtain ⟨rfl, rd2⟩ := hq
            rename gS => σ2
            show sE g_tt _ _ _ 76 [some (.ref 333), some (.int (iZ 0))] [] σ2
            refine q_goto (tgt := 101) dX1_readClause_76 (by decide) ?_
            exact s_vret dX1_readClause_101 rfl ⟨rfl, cq_fl I (by decide) (by unfold oneE; rw [t0, if_neg (by omega), if_neg (fun z => z.2 (hno z.1)), if_pos (by omega)]) rd2⟩
        · exfalso
          revert c_4
          decide
  · exfalso
    revert c_1
    decide
set_option maxHeartbeats 4000000 in
set_option maxRecDepth 100000 in
theorem x_rcD0 {d : Nat} (hd : 84 ≤ d) {σ1 : gS} {x n : Nat} {tk st nu : Nat → Int} {so : Int} {B : rB} {cs : List Nat} (I : cTI σ1 x n tk st nu so B cs) (ht : tk B.2.2.1 ≠ 39) (hnu : ∀ k, 0 ≤ nu k ∧ nu k ≤ 10000) (t0 : tk B.2.2.1 = 0) (h2 : σ1.1 x 2 = -1) (hno : (0 : Int) ≤ 1 → lwK tk 0 cs = 0) (h24 : cs.length < 24) : sC mX1_readClause d [.ref 333] σ1 (fun r σ' => r = none ∧ cqC σ1 x n tk st nu B cs σ') := by
  have K := I.1
  have rd := I.2.1
  have ok := I.2.2.1
  have hlt : B.2.2.1 < n := k_lt K ok.2.1 ht
  have tr := (K.2.2.2.2 _ ok.2.1).2.2.2.2.2
  have i24 := I.2.2.2.2.2.1
  refine sC_of rfl (Nat.le_of_ble_eq_true rfl) ?_
  show sE g_tt _ _ _ 0 [some (.ref 333), none] [] σ1
  refine q_aload_n dX1_readClause_0 rfl rfl ?_
  refine sg1 (kf := 6) (v := .int (iZ 0)) dX1_readClause_1 flX1_25 (show kd 333 = 1 from rfl) (by decide) (by show some (Value.int (iZ ((σ1).1 333 6))) = _; rw [show (σ1).1 333 6 = 0 from (rd.2.2.2.2.2.2.2.1).trans t0]) ?_
  refine q_istore_n dX1_readClause_4 rfl (by decide) ?_
  show sE g_tt _ _ _ 5 [some (.ref 333), some (.int (iZ 0))] [] σ1
  refine q_iload_n dX1_readClause_5 rfl rfl ?_
  refine z_bipush dX1_readClause_6 (by decide +kernel) ?_
  refine z_icmp_le (tgt := 19) dX1_readClause_8 (by decide) (by unfold inR; omega) (by unfold inR; omega) (fun c_1 => ?_) (fun c_1 => ?_)
  · refine q_iload_n dX1_readClause_19 rfl rfl ?_
    refine z_if_ne (tgt := 34) dX1_readClause_20 (by decide) (by unfold inR; omega) (fun c_2 => ?_) (fun c_2 => ?_)
    · exfalso
      revert c_2
      decide
    · refine q_aload_n dX1_readClause_23 rfl rfl ?_
      refine sg1 (kf := 3) (v := .ref x) dX1_readClause_24 flX1_32 (show kd 333 = 1 from rfl) (by decide) (by show some (va_rf ((σ1).2.2.2.2 333 3)) = _; rw [show (σ1).2.2.2.2 333 3 = some x from rd.2.2.1]; rfl) ?_
      refine sg4 (kf := 2) (v := .int (iZ (-1))) dX1_readClause_27 flX1_66 K.1 (by decide) (by show some (Value.int (iZ (σ1.1 x 2))) = _; rw [show σ1.1 x 2 = (-1) from h2]) ?_
      refine z_iconst dX1_readClause_30 ?_
      refine z_icmp_ne (tgt := 50) dX1_readClause_31 (by decide) (by unfold inR; omega) (by unfold inR; omega) (fun c_3 => ?_) (fun c_3 => ?_)
      · exfalso
        revert c_3
        decide
      · refine q_iload_n dX1_readClause_34 rfl rfl ?_
        refine z_iconst dX1_readClause_35 ?_
        refine z_icmp_ne (tgt := 58) dX1_readClause_36 (by decide) (by unfold inR; omega) (by unfold inR; omega) (fun c_4 => ?_) (fun c_4 => ?_)
        · refine q_aload_n dX1_readClause_58 rfl rfl ?_
          refine sg1 (kf := 3) (v := .ref x) dX1_readClause_59 flX1_32 (show kd 333 = 1 from rfl) (by decide) (by show some (va_rf ((σ1).2.2.2.2 333 3)) = _; rw [show (σ1).2.2.2.2 333 3 = some x from rd.2.2.1]; rfl) ?_
          refine sg4 (kf := 9) (v := .int (iZ ((cs.length : Nat) : Int))) dX1_readClause_62 flX1_72 K.1 (by decide) (by show some (Value.int (iZ (σ1.1 x 9))) = _; rw [show σ1.1 x 9 = ((cs.length : Nat) : Int) from I.2.2.2.2.1]) ?_
          refine z_bipush dX1_readClause_65 (by decide +kernel) ?_
          refine z_icmp_lt (tgt := 79) dX1_readClause_67 (by decide) (by unfold inR; omega) (by unfold inR; omega) (fun c_5 => ?_) (fun c_5 => ?_)
          · refine q_iload_n dX1_readClause_79 rfl rfl ?_
            refine z_if_eq (tgt := 88) dX1_readClause_80 (by decide) (by unfold inR; omega) (fun c_6 => ?_) (fun c_6 => ?_)
            · refine q_aload_n dX1_readClause_88 rfl rfl ?_
              refine q_iload_n dX1_readClause_89 rfl rfl ?_
              refine s_callV (ci := 1) (a := 333) (As := [.int (iZ 0)]) (S := []) dX1_readClause_90 okX1_readLaw mlX1_75 rfl (by omega) rfl (Nat.le_of_ble_eq_true rfl) (show kd 333 = 1 from rfl) (by decide) rfl (x_readLaw0 (d := d - 1) (N := cs.length) (by omega) K rd ok ht I.2.2.2.2.1 h24) (fun v_ σ_ hq => ?_)
              obtain ⟨rfl, rd2⟩ := hq
              rename gS => σ2
              show sE g_tt _ _ _ 93 [some (.ref 333), some (.int (iZ 0))] [] σ2
              refine q_goto (tgt := 101) dX1_readClause_93 (by decide) ?_
              exact s_vret dX1_readClause_101 rfl ⟨rfl, cq_lw (a := 0) (v := 1) I (Or.inl ⟨rfl, rfl, rfl, rfl⟩) t0 (hno (by decide)) h24 rd2⟩
            · exfalso
              revert c_6
              decide
          · exfalso
            omega
        · exfalso
          revert c_4
          decide
  · exfalso
    revert c_1
    decide
set_option maxHeartbeats 4000000 in
set_option maxRecDepth 100000 in
theorem x_rcC1 {d : Nat} (hd : 84 ≤ d) {σ1 : gS} {x n : Nat} {tk st nu : Nat → Int} {so : Int} {B : rB} {cs : List Nat} (I : cTI σ1 x n tk st nu so B cs) (ht : tk B.2.2.1 ≠ 39) (hnu : ∀ k, 0 ≤ nu k ∧ nu k ≤ 10000) (t0 : tk B.2.2.1 = 1) (h4 : σ1.1 x 4 = -1) (hno : (1 : Int) ≤ 1 → lwK tk 1 cs = 0) (h24 : cs.length = 24) : sC mX1_readClause d [.ref 333] σ1 (fun r σ' => r = none ∧ cqC σ1 x n tk st nu B cs σ') := by
  have K := I.1
  have rd := I.2.1
  have ok := I.2.2.1
  have hlt : B.2.2.1 < n := k_lt K ok.2.1 ht
  have tr := (K.2.2.2.2 _ ok.2.1).2.2.2.2.2
  have i24 := I.2.2.2.2.2.1
  refine sC_of rfl (Nat.le_of_ble_eq_true rfl) ?_
  show sE g_tt _ _ _ 0 [some (.ref 333), none] [] σ1
  refine q_aload_n dX1_readClause_0 rfl rfl ?_
  refine sg1 (kf := 6) (v := .int (iZ 1)) dX1_readClause_1 flX1_25 (show kd 333 = 1 from rfl) (by decide) (by show some (Value.int (iZ ((σ1).1 333 6))) = _; rw [show (σ1).1 333 6 = 1 from (rd.2.2.2.2.2.2.2.1).trans t0]) ?_
  refine q_istore_n dX1_readClause_4 rfl (by decide) ?_
  show sE g_tt _ _ _ 5 [some (.ref 333), some (.int (iZ 1))] [] σ1
  refine q_iload_n dX1_readClause_5 rfl rfl ?_
  refine z_bipush dX1_readClause_6 (by decide +kernel) ?_
  refine z_icmp_le (tgt := 19) dX1_readClause_8 (by decide) (by unfold inR; omega) (by unfold inR; omega) (fun c_1 => ?_) (fun c_1 => ?_)
  · refine q_iload_n dX1_readClause_19 rfl rfl ?_
    refine z_if_ne (tgt := 34) dX1_readClause_20 (by decide) (by unfold inR; omega) (fun c_2 => ?_) (fun c_2 => ?_)
    · refine q_iload_n dX1_readClause_34 rfl rfl ?_
      refine z_iconst dX1_readClause_35 ?_
      refine z_icmp_ne (tgt := 58) dX1_readClause_36 (by decide) (by unfold inR; omega) (by unfold inR; omega) (fun c_3 => ?_) (fun c_3 => ?_)
      · exfalso
        revert c_3
        decide
      · refine q_aload_n dX1_readClause_39 rfl rfl ?_
        refine sg1 (kf := 3) (v := .ref x) dX1_readClause_40 flX1_32 (show kd 333 = 1 from rfl) (by decide) (by show some (va_rf ((σ1).2.2.2.2 333 3)) = _; rw [show (σ1).2.2.2.2 333 3 = some x from rd.2.2.1]; rfl) ?_
        refine sg4 (kf := 4) (v := .int (iZ (-1))) dX1_readClause_43 flX1_69 K.1 (by decide) (by show some (Value.int (iZ (σ1.1 x 4))) = _; rw [show σ1.1 x 4 = (-1) from h4]) ?_
        refine z_iconst dX1_readClause_46 ?_
        refine z_icmp_eq (tgt := 58) dX1_readClause_47 (by decide) (by unfold inR; omega) (by unfold inR; omega) (fun c_4 => ?_) (fun c_4 => ?_)
        · refine q_aload_n dX1_readClause_58 rfl rfl ?_
          refine sg1 (kf := 3) (v := .ref x) dX1_readClause_59 flX1_32 (show kd 333 = 1 from rfl) (by decide) (by show some (va_rf ((σ1).2.2.2.2 333 3)) = _; rw [show (σ1).2.2.2.2 333 3 = some x from rd.2.2.1]; rfl) ?_
          refine sg4 (kf := 9) (v := .int (iZ ((cs.length : Nat) : Int))) dX1_readClause_62 flX1_72 K.1 (by decide) (by show some (Value.int (iZ (σ1.1 x 9))) = _; rw [show σ1.1 x 9 = ((cs.length : Nat) : Int) from I.2.2.2.2.1]) ?_
          refine z_bipush dX1_readClause_65 (by decide +kernel) ?_
          refine z_icmp_lt (tgt := 79) dX1_readClause_67 (by decide) (by unfold inR; omega) (by unfold inR; omega) (fun c_5 => ?_) (fun c_5 => ?_)
          · exfalso
            omega
          · refine q_aload_n dX1_readClause_70 rfl rfl ?_
            refine z_bipush dX1_readClause_71 (by decide +kernel) ?_
            refine s_callV (ci := 1) (a := 333) (As := [.int (iZ 6)]) (S := []) dX1_readClause_73 okX1_fail mlX1_59 rfl (by omega) rfl (Nat.le_of_ble_eq_true rfl) (show kd 333 = 1 from rfl) (by decide) rfl (x_fail (d := d - 1) (c := 6) K rd ok) (fun v_ σ_ hq => ?_)
            obtain ⟨rfl, rd2⟩ := hq
            rename gS => σ2
            show sE g_tt _ _ _ 76 [some (.ref 333), some (.int (iZ 1))] [] σ2
            refine q_goto (tgt := 101) dX1_readClause_76 (by decide) ?_
            exact s_vret dX1_readClause_101 rfl ⟨rfl, cq_fl I (by decide) (by unfold oneE; rw [t0, if_neg (by omega), if_neg (fun z => z.2 (hno z.1)), if_pos (by omega)]) rd2⟩
        · exfalso
          revert c_4
          decide
    · exfalso
      revert c_2
      decide
  · exfalso
    revert c_1
    decide
set_option maxHeartbeats 4000000 in
set_option maxRecDepth 100000 in
theorem x_rcD1 {d : Nat} (hd : 84 ≤ d) {σ1 : gS} {x n : Nat} {tk st nu : Nat → Int} {so : Int} {B : rB} {cs : List Nat} (I : cTI σ1 x n tk st nu so B cs) (ht : tk B.2.2.1 ≠ 39) (hnu : ∀ k, 0 ≤ nu k ∧ nu k ≤ 10000) (t0 : tk B.2.2.1 = 1) (h4 : σ1.1 x 4 = -1) (hno : (1 : Int) ≤ 1 → lwK tk 1 cs = 0) (h24 : cs.length < 24) : sC mX1_readClause d [.ref 333] σ1 (fun r σ' => r = none ∧ cqC σ1 x n tk st nu B cs σ') := by
  have K := I.1
  have rd := I.2.1
  have ok := I.2.2.1
  have hlt : B.2.2.1 < n := k_lt K ok.2.1 ht
  have tr := (K.2.2.2.2 _ ok.2.1).2.2.2.2.2
  have i24 := I.2.2.2.2.2.1
  refine sC_of rfl (Nat.le_of_ble_eq_true rfl) ?_
  show sE g_tt _ _ _ 0 [some (.ref 333), none] [] σ1
  refine q_aload_n dX1_readClause_0 rfl rfl ?_
  refine sg1 (kf := 6) (v := .int (iZ 1)) dX1_readClause_1 flX1_25 (show kd 333 = 1 from rfl) (by decide) (by show some (Value.int (iZ ((σ1).1 333 6))) = _; rw [show (σ1).1 333 6 = 1 from (rd.2.2.2.2.2.2.2.1).trans t0]) ?_
  refine q_istore_n dX1_readClause_4 rfl (by decide) ?_
  show sE g_tt _ _ _ 5 [some (.ref 333), some (.int (iZ 1))] [] σ1
  refine q_iload_n dX1_readClause_5 rfl rfl ?_
  refine z_bipush dX1_readClause_6 (by decide +kernel) ?_
  refine z_icmp_le (tgt := 19) dX1_readClause_8 (by decide) (by unfold inR; omega) (by unfold inR; omega) (fun c_1 => ?_) (fun c_1 => ?_)
  · refine q_iload_n dX1_readClause_19 rfl rfl ?_
    refine z_if_ne (tgt := 34) dX1_readClause_20 (by decide) (by unfold inR; omega) (fun c_2 => ?_) (fun c_2 => ?_)
    · refine q_iload_n dX1_readClause_34 rfl rfl ?_
      refine z_iconst dX1_readClause_35 ?_
      refine z_icmp_ne (tgt := 58) dX1_readClause_36 (by decide) (by unfold inR; omega) (by unfold inR; omega) (fun c_3 => ?_) (fun c_3 => ?_)
      · exfalso
        revert c_3
        decide
      · refine q_aload_n dX1_readClause_39 rfl rfl ?_
        refine sg1 (kf := 3) (v := .ref x) dX1_readClause_40 flX1_32 (show kd 333 = 1 from rfl) (by decide) (by show some (va_rf ((σ1).2.2.2.2 333 3)) = _; rw [show (σ1).2.2.2.2 333 3 = some x from rd.2.2.1]; rfl) ?_
        refine sg4 (kf := 4) (v := .int (iZ (-1))) dX1_readClause_43 flX1_69 K.1 (by decide) (by show some (Value.int (iZ (σ1.1 x 4))) = _; rw [show σ1.1 x 4 = (-1) from h4]) ?_
        refine z_iconst dX1_readClause_46 ?_
        refine z_icmp_eq (tgt := 58) dX1_readClause_47 (by decide) (by unfold inR; omega) (by unfold inR; omega) (fun c_4 => ?_) (fun c_4 => ?_)
        · refine q_aload_n dX1_readClause_58 rfl rfl ?_
          refine sg1 (kf := 3) (v := .ref x) dX1_readClause_59 flX1_32 (show kd 333 = 1 from rfl) (by decide) (by show some (va_rf ((σ1).2.2.2.2 333 3)) = _; rw [show (σ1).2.2.2.2 333 3 = some x from rd.2.2.1]; rfl) ?_
          refine sg4 (kf := 9) (v := .int (iZ ((cs.length : Nat) : Int))) dX1_readClause_62 flX1_72 K.1 (by decide) (by show some (Value.int (iZ (σ1.1 x 9))) = _; rw [show σ1.1 x 9 = ((cs.length : Nat) : Int) from I.2.2.2.2.1]) ?_
          refine z_bipush dX1_readClause_65 (by decide +kernel) ?_
          refine z_icmp_lt (tgt := 79) dX1_readClause_67 (by decide) (by unfold inR; omega) (by unfold inR; omega) (fun c_5 => ?_) (fun c_5 => ?_)
          · refine q_iload_n dX1_readClause_79 rfl rfl ?_
            refine z_if_eq (tgt := 88) dX1_readClause_80 (by decide) (by unfold inR; omega) (fun c_6 => ?_) (fun c_6 => ?_)
            · exfalso
              revert c_6
              decide
            · refine q_iload_n dX1_readClause_83 rfl rfl ?_
              refine z_iconst dX1_readClause_84 ?_
              refine z_icmp_ne (tgt := 96) dX1_readClause_85 (by decide) (by unfold inR; omega) (by unfold inR; omega) (fun c_7 => ?_) (fun c_7 => ?_)
              · exfalso
                revert c_7
                decide
              · refine q_aload_n dX1_readClause_88 rfl rfl ?_
                refine q_iload_n dX1_readClause_89 rfl rfl ?_
                refine s_callV (ci := 1) (a := 333) (As := [.int (iZ 1)]) (S := []) dX1_readClause_90 okX1_readLaw mlX1_75 rfl (by omega) rfl (Nat.le_of_ble_eq_true rfl) (show kd 333 = 1 from rfl) (by decide) rfl (x_readLaw1 (d := d - 1) (N := cs.length) (by omega) K rd ok ht I.2.2.2.2.1 h24) (fun v_ σ_ hq => ?_)
                obtain ⟨rfl, rd2⟩ := hq
                rename gS => σ2
                show sE g_tt _ _ _ 93 [some (.ref 333), some (.int (iZ 1))] [] σ2
                refine q_goto (tgt := 101) dX1_readClause_93 (by decide) ?_
                exact s_vret dX1_readClause_101 rfl ⟨rfl, cq_lw (a := 1) (v := 0) I (Or.inr ⟨rfl, rfl, rfl, rfl⟩) t0 (hno (by decide)) h24 rd2⟩
          · exfalso
            omega
        · exfalso
          revert c_4
          decide
    · exfalso
      revert c_2
      decide
  · exfalso
    revert c_1
    decide
set_option maxHeartbeats 4000000 in
set_option maxRecDepth 100000 in
theorem x_rcC2 {d : Nat} (hd : 84 ≤ d) {σ1 : gS} {x n : Nat} {tk st nu : Nat → Int} {so : Int} {B : rB} {cs : List Nat} (I : cTI σ1 x n tk st nu so B cs) (ht : tk B.2.2.1 ≠ 39) (hnu : ∀ k, 0 ≤ nu k ∧ nu k ≤ 10000) {t : Int} (t0 : tk B.2.2.1 = t) (h2t : 2 ≤ t ∧ t ≤ 7) (hno : t ≤ 1 → lwK tk t cs = 0) (h24 : cs.length = 24) : sC mX1_readClause d [.ref 333] σ1 (fun r σ' => r = none ∧ cqC σ1 x n tk st nu B cs σ') := by
  have K := I.1
  have rd := I.2.1
  have ok := I.2.2.1
  have hlt : B.2.2.1 < n := k_lt K ok.2.1 ht
  have tr := (K.2.2.2.2 _ ok.2.1).2.2.2.2.2
  have i24 := I.2.2.2.2.2.1
  refine sC_of rfl (Nat.le_of_ble_eq_true rfl) ?_
  show sE g_tt _ _ _ 0 [some (.ref 333), none] [] σ1
  refine q_aload_n dX1_readClause_0 rfl rfl ?_
  refine sg1 (kf := 6) (v := .int (iZ t)) dX1_readClause_1 flX1_25 (show kd 333 = 1 from rfl) (by decide) (by show some (Value.int (iZ ((σ1).1 333 6))) = _; rw [show (σ1).1 333 6 = t from (rd.2.2.2.2.2.2.2.1).trans t0]) ?_
  refine q_istore_n dX1_readClause_4 rfl (by decide) ?_
  show sE g_tt _ _ _ 5 [some (.ref 333), some (.int (iZ t))] [] σ1
  refine q_iload_n dX1_readClause_5 rfl rfl ?_
  refine z_bipush dX1_readClause_6 (by decide +kernel) ?_
  refine z_icmp_le (tgt := 19) dX1_readClause_8 (by decide) (by unfold inR; omega) (by unfold inR; omega) (fun c_1 => ?_) (fun c_1 => ?_)
  · refine q_iload_n dX1_readClause_19 rfl rfl ?_
    refine z_if_ne (tgt := 34) dX1_readClause_20 (by decide) (by unfold inR; omega) (fun c_2 => ?_) (fun c_2 => ?_)
    · refine q_iload_n dX1_readClause_34 rfl rfl ?_
      refine z_iconst dX1_readClause_35 ?_
      refine z_icmp_ne (tgt := 58) dX1_readClause_36 (by decide) (by unfold inR; omega) (by unfold inR; omega) (fun c_3 => ?_) (fun c_3 => ?_)
      · refine q_aload_n dX1_readClause_58 rfl rfl ?_
        refine sg1 (kf := 3) (v := .ref x) dX1_readClause_59 flX1_32 (show kd 333 = 1 from rfl) (by decide) (by show some (va_rf ((σ1).2.2.2.2 333 3)) = _; rw [show (σ1).2.2.2.2 333 3 = some x from rd.2.2.1]; rfl) ?_
        refine sg4 (kf := 9) (v := .int (iZ ((cs.length : Nat) : Int))) dX1_readClause_62 flX1_72 K.1 (by decide) (by show some (Value.int (iZ (σ1.1 x 9))) = _; rw [show σ1.1 x 9 = ((cs.length : Nat) : Int) from I.2.2.2.2.1]) ?_
        refine z_bipush dX1_readClause_65 (by decide +kernel) ?_
        refine z_icmp_lt (tgt := 79) dX1_readClause_67 (by decide) (by unfold inR; omega) (by unfold inR; omega) (fun c_4 => ?_) (fun c_4 => ?_)
        · exfalso
          omega
        · refine q_aload_n dX1_readClause_70 rfl rfl ?_
          refine z_bipush dX1_readClause_71 (by decide +kernel) ?_
          refine s_callV (ci := 1) (a := 333) (As := [.int (iZ 6)]) (S := []) dX1_readClause_73 okX1_fail mlX1_59 rfl (by omega) rfl (Nat.le_of_ble_eq_true rfl) (show kd 333 = 1 from rfl) (by decide) rfl (x_fail (d := d - 1) (c := 6) K rd ok) (fun v_ σ_ hq => ?_)
          obtain ⟨rfl, rd2⟩ := hq
          rename gS => σ2
          show sE g_tt _ _ _ 76 [some (.ref 333), some (.int (iZ t))] [] σ2
          refine q_goto (tgt := 101) dX1_readClause_76 (by decide) ?_
          exact s_vret dX1_readClause_101 rfl ⟨rfl, cq_fl I (by decide) (by unfold oneE; rw [t0, if_neg (by omega), if_neg (fun z => z.2 (hno z.1)), if_pos (by omega)]) rd2⟩
      · exfalso
        omega
    · exfalso
      omega
  · exfalso
    omega
set_option maxHeartbeats 4000000 in
set_option maxRecDepth 100000 in
theorem x_rcD2 {d : Nat} (hd : 84 ≤ d) {σ1 : gS} {x n : Nat} {tk st nu : Nat → Int} {so : Int} {B : rB} {cs : List Nat} (I : cTI σ1 x n tk st nu so B cs) (ht : tk B.2.2.1 ≠ 39) (hnu : ∀ k, 0 ≤ nu k ∧ nu k ≤ 10000) {t : Int} (t0 : tk B.2.2.1 = t) (h2t : 2 ≤ t ∧ t ≤ 7) (h24 : cs.length < 24) : sC mX1_readClause d [.ref 333] σ1 (fun r σ' => r = none ∧ cqC σ1 x n tk st nu B cs σ') := by
  have K := I.1
  have rd := I.2.1
  have ok := I.2.2.1
  have hlt : B.2.2.1 < n := k_lt K ok.2.1 ht
  have tr := (K.2.2.2.2 _ ok.2.1).2.2.2.2.2
  have i24 := I.2.2.2.2.2.1
  refine sC_of rfl (Nat.le_of_ble_eq_true rfl) ?_
  show sE g_tt _ _ _ 0 [some (.ref 333), none] [] σ1
  refine q_aload_n dX1_readClause_0 rfl rfl ?_
  refine sg1 (kf := 6) (v := .int (iZ t)) dX1_readClause_1 flX1_25 (show kd 333 = 1 from rfl) (by decide) (by show some (Value.int (iZ ((σ1).1 333 6))) = _; rw [show (σ1).1 333 6 = t from (rd.2.2.2.2.2.2.2.1).trans t0]) ?_
  refine q_istore_n dX1_readClause_4 rfl (by decide) ?_
  show sE g_tt _ _ _ 5 [some (.ref 333), some (.int (iZ t))] [] σ1
  refine q_iload_n dX1_readClause_5 rfl rfl ?_
  refine z_bipush dX1_readClause_6 (by decide +kernel) ?_
  refine z_icmp_le (tgt := 19) dX1_readClause_8 (by decide) (by unfold inR; omega) (by unfold inR; omega) (fun c_1 => ?_) (fun c_1 => ?_)
  · refine q_iload_n dX1_readClause_19 rfl rfl ?_
    refine z_if_ne (tgt := 34) dX1_readClause_20 (by decide) (by unfold inR; omega) (fun c_2 => ?_) (fun c_2 => ?_)
    · refine q_iload_n dX1_readClause_34 rfl rfl ?_
      refine z_iconst dX1_readClause_35 ?_
      refine z_icmp_ne (tgt := 58) dX1_readClause_36 (by decide) (by unfold inR; omega) (by unfold inR; omega) (fun c_3 => ?_) (fun c_3 => ?_)
      · refine q_aload_n dX1_readClause_58 rfl rfl ?_
        refine sg1 (kf := 3) (v := .ref x) dX1_readClause_59 flX1_32 (show kd 333 = 1 from rfl) (by decide) (by show some (va_rf ((σ1).2.2.2.2 333 3)) = _; rw [show (σ1).2.2.2.2 333 3 = some x from rd.2.2.1]; rfl) ?_
        refine sg4 (kf := 9) (v := .int (iZ ((cs.length : Nat) : Int))) dX1_readClause_62 flX1_72 K.1 (by decide) (by show some (Value.int (iZ (σ1.1 x 9))) = _; rw [show σ1.1 x 9 = ((cs.length : Nat) : Int) from I.2.2.2.2.1]) ?_
        refine z_bipush dX1_readClause_65 (by decide +kernel) ?_
        refine z_icmp_lt (tgt := 79) dX1_readClause_67 (by decide) (by unfold inR; omega) (by unfold inR; omega) (fun c_4 => ?_) (fun c_4 => ?_)
        · refine q_iload_n dX1_readClause_79 rfl rfl ?_
          refine z_if_eq (tgt := 88) dX1_readClause_80 (by decide) (by unfold inR; omega) (fun c_5 => ?_) (fun c_5 => ?_)
          · exfalso
            omega
          · refine q_iload_n dX1_readClause_83 rfl rfl ?_
            refine z_iconst dX1_readClause_84 ?_
            refine z_icmp_ne (tgt := 96) dX1_readClause_85 (by decide) (by unfold inR; omega) (by unfold inR; omega) (fun c_6 => ?_) (fun c_6 => ?_)
            · refine q_aload_n dX1_readClause_96 rfl rfl ?_
              refine q_iload_n dX1_readClause_97 rfl rfl ?_
              refine s_callV (ci := 1) (a := 333) (As := [.int (iZ t)]) (S := []) dX1_readClause_98 okX1_readDeed mlX1_78 rfl (by omega) rfl (Nat.le_of_ble_eq_true rfl) (show kd 333 = 1 from rfl) (by decide) rfl (x_readDeed (d := d - 1) (N := cs.length) (by omega) K rd ok ht I.2.2.2.2.1 h24 (a := t) h2t) (fun v_ σ_ hq => ?_)
              obtain ⟨rfl, rd2⟩ := hq
              rename gS => σ2
              show sE g_tt _ _ _ 101 [some (.ref 333), some (.int (iZ t))] [] σ2
              exact s_vret dX1_readClause_101 rfl ⟨rfl, cq_de I t0 h2t h24 hlt hnu rd2⟩
            · exfalso
              omega
        · exfalso
          omega
      · exfalso
        omega
    · exfalso
      omega
  · exfalso
    omega
theorem x_readClause {d : Nat} (hd : 84 ≤ d) {σ1 : gS} {x n : Nat} {tk st nu : Nat → Int} {so : Int} {B : rB} {cs : List Nat} (I : cTI σ1 x n tk st nu so B cs) (ht : tk B.2.2.1 ≠ 39) (hnu : ∀ k, 0 ≤ nu k ∧ nu k ≤ 10000) : sC mX1_readClause d [.ref 333] σ1 (fun r σ' => r = none ∧ cqC σ1 x n tk st nu B cs σ') := by
  have tr := (I.1.2.2.2.2 _ I.2.2.1.2.1).2.2.2.2.2
  have i24 := I.2.2.2.2.2.1
  have l3 := I.2.2.1.2.2.1
  obtain ⟨-, -, -, -, -, -, -, ⟨l0, l0'⟩, ⟨l1, l1'⟩, -⟩ := id I
  by_cases q7 : 7 < tk B.2.2.1
  · exact x_rcA hd I ht hnu rfl q7
  by_cases q0 : tk B.2.2.1 = 0
  · by_cases z : lwK tk 0 cs = 0
    · by_cases w : cs.length = 24
      · exact x_rcC0 hd I ht hnu q0 (l0 z) (fun _ => z) w
      · exact x_rcD0 hd I ht hnu q0 (l0 z) (fun _ => z) (by omega)
    · obtain ⟨i, j, a1, a2, a3, a4⟩ := l0' z
      have := a4.1
      exact x_rcB0 hd I ht hnu q0 a1 (by omega) z
  by_cases q1 : tk B.2.2.1 = 1
  · by_cases z : lwK tk 1 cs = 0
    · by_cases w : cs.length = 24
      · exact x_rcC1 hd I ht hnu q1 (l1 z) (fun _ => z) w
      · exact x_rcD1 hd I ht hnu q1 (l1 z) (fun _ => z) (by omega)
    · obtain ⟨i, j, a1, a2, a3, a4⟩ := l1' z
      have := a4.1
      exact x_rcB1 hd I ht hnu q1 a1 (by omega) z
  by_cases w : cs.length = 24
  · exact x_rcC2 hd I ht hnu rfl (by omega) (fun z => by omega) w
  · exact x_rcD2 hd I ht hnu rfl (by omega) (by omega)
