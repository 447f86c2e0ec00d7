/-! ===== foretold, least of the class ===== -/
set_option maxHeartbeats 4000000 in
set_option maxRecDepth 100000 in
theorem lx_foretold1 {d N q : Nat} (hd : 8 ≤ d) (hN : N ≤ 60) {u z5 : Int} (hq8 : q < 8) (σ : gS) {W V : wF} {A I : Nat → Int} {c nt : Int} (hc : c ≤ 88000) (hn4 : nt ≤ 4) (ok : okR c nt A) (oi : okR c (I 1) I) (C : clR σ W V A I) (hqx : q < 8) : ∀ (n : Nat) (B : Nat → Int) (k : Nat) (σ1 : gS), gd 88000 4 B → B 2 = A 2 → B 0 = A 0 → trS 0 σ1 364 B → chg scrQ σ σ1 → k ≤ N → (N : Int) - (k : Int) < (n : Int) → sE g_tt mX6_foretold d (fun r σ' => r = some (.int (iZ (mFo W V (N - k) B (11 + q)))) ∧ chg scrQ σ σ') 85 [some (.ref 0), some (.int (iZ (N : Int))), some (.int (iZ u)), some (.int (iZ (q : Int))), some (.int (iZ 1)), some (.int (iZ z5)), some (.ref 364), some (.int (iZ (k : Int)))] [] σ1 := by
  intro n
  induction n with
  | zero =>
    intro B k σ1 gB hB2 hB0 t1 s1 hk hn
    exact absurd hn (by omega)
  | succ n ih =>
    intro B k σ1 gB hB2 hB0 t1 s1 hk hn
    have g := ok_gd hc hn4 ok
    have g0 := g.1
    have n1 := ok.2.2.1
    have a2 := ok_2 ok
    have g10 := g.2.2.2.2.1
    have gL : gd 100000 4 A := gd_mono g (by decide)
    have rk := rA_ok (w0_of C) gL a2.1 a2.2
    have C1 := clR_ch ok oi C s1
    have b5 := gB.2.2.2.2.2.1
    refine q_iload dX6_foretold_85 rfl ?_
    refine q_iload_n dX6_foretold_87 rfl rfl ?_
    refine z_icmp_ge (tgt := 117) dX6_foretold_88 (by decide) (by unfold inR at *; omega) (by unfold inR at *; omega) (fun c_1 => ?_) (fun c_1 => ?_)
    · refine q_iload dX6_foretold_117 rfl ?_
      refine z_if_eq (tgt := 132) dX6_foretold_119 (by decide) (by unfold inR at *; omega) (fun c_2 => ?_) (fun c_2 => ?_)
      · exfalso
        revert c_2
        decide
      · refine q_aload dX6_foretold_122 rfl ?_
        refine sg2 (kf := 0) (v := .ref 365) dX6_foretold_124 flX6_122 (show kd 364 = 2 from rfl) (by decide) rfl ?_
        refine q_iload_n dX6_foretold_127 rfl rfl ?_
        refine s_iald (n := 8) (x := B (11 + q)) dX6_foretold_128 (show kd 365 = 100 + 8 from rfl) (by omega) (by omega) (by decide) (t1.1 q hqx) ?_
        refine q_goto (tgt := 139) dX6_foretold_129 (by decide) ?_
        exact s_iretZ dX6_foretold_139 rfl ⟨by (first | rw [show N - k = 0 by omega, mFo] | rw [mFo_stop _ B (by omega)]), s1⟩
    · refine q_aload dX6_foretold_91 rfl ?_
      refine sg2 (kf := 6) (v := .int (iZ (B 5))) dX6_foretold_93 flX6_144 (show kd 364 = 2 from rfl) (by decide) (by show some (Value.int (iZ (σ1.1 364 6))) = _; rw [show σ1.1 364 6 = B 5 from t1.2.2.1.2.2.2.2.1]) ?_
      refine z_sipush dX6_foretold_96 (by decide +kernel) ?_
      refine z_icmp_ge (tgt := 117) dX6_foretold_99 (by decide) (by unfold inR at *; omega) (by unfold inR at *; omega) (fun c_3 => ?_) (fun c_3 => ?_)
      · refine q_iload dX6_foretold_117 rfl ?_
        refine z_if_eq (tgt := 132) dX6_foretold_119 (by decide) (by unfold inR at *; omega) (fun c_4 => ?_) (fun c_4 => ?_)
        · exfalso
          revert c_4
          decide
        · refine q_aload dX6_foretold_122 rfl ?_
          refine sg2 (kf := 0) (v := .ref 365) dX6_foretold_124 flX6_122 (show kd 364 = 2 from rfl) (by decide) rfl ?_
          refine q_iload_n dX6_foretold_127 rfl rfl ?_
          refine s_iald (n := 8) (x := B (11 + q)) dX6_foretold_128 (show kd 365 = 100 + 8 from rfl) (by omega) (by omega) (by decide) (t1.1 q hqx) ?_
          refine q_goto (tgt := 139) dX6_foretold_129 (by decide) ?_
          exact s_iretZ dX6_foretold_139 rfl ⟨by (first | rw [show N - k = 0 by omega, mFo] | rw [mFo_stop _ B (by omega)]), s1⟩
      · refine q_aload dX6_foretold_102 rfl ?_
        refine q_aload_n dX6_foretold_104 rfl rfl ?_
        refine s_callV (ci := 6) (a := 0) (As := []) (S := [.ref 364]) dX6_foretold_105 okX6_rule mlX6_125 rfl (by omega) rfl (Nat.le_of_ble_eq_true rfl) (show kd 0 = 6 from rfl) (by decide) rfl (x_rule (d := d - 1) (by omega) σ1 hc hn4 ok oi C1) (fun v_ σ_ hq => ?_)
        obtain ⟨rfl, e9⟩ := hq
        have e9 := e9.symm
        subst e9
        show sE g_tt _ _ _ 108 [some (.ref 0), some (.int (iZ (N : Int))), some (.int (iZ u)), some (.int (iZ (q : Int))), some (.int (iZ 1)), some (.int (iZ z5)), some (.ref 364), some (.int (iZ (k : Int)))] [.ref (txp (A 2)), .ref 364] σ1
        refine s_callV (ci := 2) (a := 364) (As := [.ref (txp (A 2))]) (S := []) dX6_foretold_108 okX2_passNight mlX6_222 rfl (by omega) rfl (Nat.le_of_ble_eq_true rfl) (show kd 364 = 2 from rfl) (by decide) rfl (t_passNight (d := d - 1) (s := 364) (by omega) rfl σ1 (C1.2.2.1 (A 2) a2.1 a2.2) B zF (gd_mono gB (by decide)) hB2 t1) (fun v_ σ_ hq => ?_)
        obtain ⟨rfl, hc2, ht2⟩ := hq
        rename gS => σ2
        have s2 := chg_tr s1 (chg_mono hc2 (fun a q => atS_scr (by omega) q))
        show sE g_tt _ _ _ 111 [some (.ref 0), some (.int (iZ (N : Int))), some (.int (iZ u)), some (.int (iZ (q : Int))), some (.int (iZ 1)), some (.int (iZ z5)), some (.ref 364), some (.int (iZ (k : Int)))] [] σ2
        refine z_iinc dX6_foretold_111 rfl (by decide) ?_
        show sE g_tt _ _ _ 114 [some (.ref 0), some (.int (iZ (N : Int))), some (.int (iZ u)), some (.int (iZ (q : Int))), some (.int (iZ 1)), some (.int (iZ z5)), some (.ref 364), some (.int (iZ ((k : Int) + 1)))] [] σ2
        refine q_goto (tgt := 85) dX6_foretold_114 (by decide) ?_
        rw [show N - k = (N - (k + 1)) + 1 by omega, mFo, if_pos (by omega)]
        have po := pA_ok (w0_of C) (v0_of C) (A := B) (gd_mono gB (by decide)) (by omega) (by omega) (by omega)
        exact ih _ (k + 1) σ2 (gd_mono po.1 (by decide)) (by rw [po.2.1, hB2]) (by rw [po.2.2.2, hB0]) ht2 s2 (by omega) (by omega)
set_option maxHeartbeats 4000000 in
set_option maxRecDepth 100000 in
theorem lx_foretold0 {d N q : Nat} (hd : 8 ≤ d) (hN : N ≤ 60) {u z5 : Int} (hq8 : q < 8) (σ : gS) {W V : wF} {A I : Nat → Int} {c nt : Int} (hc : c ≤ 88000) (hn4 : nt ≤ 4) (ok : okR c nt A) (oi : okR c (I 1) I) (C : clR σ W V A I) (hqx : (q : Int) < A 0) : ∀ (n : Nat) (B : Nat → Int) (k : Nat) (σ1 : gS), gd 88000 4 B → B 2 = A 2 → B 0 = A 0 → trS 0 σ1 364 B → chg scrQ σ σ1 → k ≤ N → (N : Int) - (k : Int) < (n : Int) → sE g_tt mX6_foretold d (fun r σ' => r = some (.int (iZ (mFo W V (N - k) B (19 + q)))) ∧ chg scrQ σ σ') 85 [some (.ref 0), some (.int (iZ (N : Int))), some (.int (iZ u)), some (.int (iZ (q : Int))), some (.int (iZ 0)), some (.int (iZ z5)), some (.ref 364), some (.int (iZ (k : Int)))] [] σ1 := by
  intro n
  induction n with
  | zero =>
    intro B k σ1 gB hB2 hB0 t1 s1 hk hn
    exact absurd hn (by omega)
  | succ n ih =>
    intro B k σ1 gB hB2 hB0 t1 s1 hk hn
    have g := ok_gd hc hn4 ok
    have g0 := g.1
    have n1 := ok.2.2.1
    have a2 := ok_2 ok
    have g10 := g.2.2.2.2.1
    have gL : gd 100000 4 A := gd_mono g (by decide)
    have rk := rA_ok (w0_of C) gL a2.1 a2.2
    have C1 := clR_ch ok oi C s1
    have b5 := gB.2.2.2.2.2.1
    refine q_iload dX6_foretold_85 rfl ?_
    refine q_iload_n dX6_foretold_87 rfl rfl ?_
    refine z_icmp_ge (tgt := 117) dX6_foretold_88 (by decide) (by unfold inR at *; omega) (by unfold inR at *; omega) (fun c_1 => ?_) (fun c_1 => ?_)
    · refine q_iload dX6_foretold_117 rfl ?_
      refine z_if_eq (tgt := 132) dX6_foretold_119 (by decide) (by unfold inR at *; omega) (fun c_2 => ?_) (fun c_2 => ?_)
      · refine q_aload dX6_foretold_132 rfl ?_
        refine sg2 (kf := 1) (v := .ref 366) dX6_foretold_134 flX6_190 (show kd 364 = 2 from rfl) (by decide) rfl ?_
        refine q_iload_n dX6_foretold_137 rfl rfl ?_
        refine s_iald (n := 5) (x := B (19 + q)) dX6_foretold_138 (show kd 366 = 100 + 5 from rfl) (by omega) (by omega) (by decide) (t1.2.1 q (by rw [hB0]; exact hqx)) ?_
        exact s_iretZ dX6_foretold_139 rfl ⟨by (first | rw [show N - k = 0 by omega, mFo] | rw [mFo_stop _ B (by omega)]), s1⟩
      · exfalso
        revert c_2
        decide
    · refine q_aload dX6_foretold_91 rfl ?_
      refine sg2 (kf := 6) (v := .int (iZ (B 5))) dX6_foretold_93 flX6_144 (show kd 364 = 2 from rfl) (by decide) (by show some (Value.int (iZ (σ1.1 364 6))) = _; rw [show σ1.1 364 6 = B 5 from t1.2.2.1.2.2.2.2.1]) ?_
      refine z_sipush dX6_foretold_96 (by decide +kernel) ?_
      refine z_icmp_ge (tgt := 117) dX6_foretold_99 (by decide) (by unfold inR at *; omega) (by unfold inR at *; omega) (fun c_3 => ?_) (fun c_3 => ?_)
      · refine q_iload dX6_foretold_117 rfl ?_
        refine z_if_eq (tgt := 132) dX6_foretold_119 (by decide) (by unfold inR at *; omega) (fun c_4 => ?_) (fun c_4 => ?_)
        · refine q_aload dX6_foretold_132 rfl ?_
          refine sg2 (kf := 1) (v := .ref 366) dX6_foretold_134 flX6_190 (show kd 364 = 2 from rfl) (by decide) rfl ?_
          refine q_iload_n dX6_foretold_137 rfl rfl ?_
          refine s_iald (n := 5) (x := B (19 + q)) dX6_foretold_138 (show kd 366 = 100 + 5 from rfl) (by omega) (by omega) (by decide) (t1.2.1 q (by rw [hB0]; exact hqx)) ?_
          exact s_iretZ dX6_foretold_139 rfl ⟨by (first | rw [show N - k = 0 by omega, mFo] | rw [mFo_stop _ B (by omega)]), s1⟩
        · exfalso
          revert c_4
          decide
      · refine q_aload dX6_foretold_102 rfl ?_
        refine q_aload_n dX6_foretold_104 rfl rfl ?_
        refine s_callV (ci := 6) (a := 0) (As := []) (S := [.ref 364]) dX6_foretold_105 okX6_rule mlX6_125 rfl (by omega) rfl (Nat.le_of_ble_eq_true rfl) (show kd 0 = 6 from rfl) (by decide) rfl (x_rule (d := d - 1) (by omega) σ1 hc hn4 ok oi C1) (fun v_ σ_ hq => ?_)
        obtain ⟨rfl, e9⟩ := hq
        have e9 := e9.symm
        subst e9
        show sE g_tt _ _ _ 108 [some (.ref 0), some (.int (iZ (N : Int))), some (.int (iZ u)), some (.int (iZ (q : Int))), some (.int (iZ 0)), some (.int (iZ z5)), some (.ref 364), some (.int (iZ (k : Int)))] [.ref (txp (A 2)), .ref 364] σ1
        refine s_callV (ci := 2) (a := 364) (As := [.ref (txp (A 2))]) (S := []) dX6_foretold_108 okX2_passNight mlX6_222 rfl (by omega) rfl (Nat.le_of_ble_eq_true rfl) (show kd 364 = 2 from rfl) (by decide) rfl (t_passNight (d := d - 1) (s := 364) (by omega) rfl σ1 (C1.2.2.1 (A 2) a2.1 a2.2) B zF (gd_mono gB (by decide)) hB2 t1) (fun v_ σ_ hq => ?_)
        obtain ⟨rfl, hc2, ht2⟩ := hq
        rename gS => σ2
        have s2 := chg_tr s1 (chg_mono hc2 (fun a q => atS_scr (by omega) q))
        show sE g_tt _ _ _ 111 [some (.ref 0), some (.int (iZ (N : Int))), some (.int (iZ u)), some (.int (iZ (q : Int))), some (.int (iZ 0)), some (.int (iZ z5)), some (.ref 364), some (.int (iZ (k : Int)))] [] σ2
        refine z_iinc dX6_foretold_111 rfl (by decide) ?_
        show sE g_tt _ _ _ 114 [some (.ref 0), some (.int (iZ (N : Int))), some (.int (iZ u)), some (.int (iZ (q : Int))), some (.int (iZ 0)), some (.int (iZ z5)), some (.ref 364), some (.int (iZ ((k : Int) + 1)))] [] σ2
        refine q_goto (tgt := 85) dX6_foretold_114 (by decide) ?_
        rw [show N - k = (N - (k + 1)) + 1 by omega, mFo, if_pos (by omega)]
        have po := pA_ok (w0_of C) (v0_of C) (A := B) (gd_mono gB (by decide)) (by omega) (by omega) (by omega)
        exact ih _ (k + 1) σ2 (gd_mono po.1 (by decide)) (by rw [po.2.1, hB2]) (by rw [po.2.2.2, hB0]) ht2 s2 (by omega) (by omega)
set_option maxHeartbeats 4000000 in
set_option maxRecDepth 100000 in
theorem x_foretold {d : Nat} (hd : 8 ≤ d) {n u q : Int} (hn : inR n) (hu : inR u) (hqq : inR q) (σ : gS) {W V : wF} {A I : Nat → Int} {c nt : Int} (hc : c ≤ 88000) (hn4 : nt ≤ 4) (ok : okR c nt A) (oi : okR c (I 1) I) (C : clR σ W V A I) : sC mX6_foretold d [.ref 0, .int (iZ n), .int (iZ u), .int (iZ q)] σ (fun r σ' => r = some (.int (iZ (if (1 ≤ n ∧ n ≤ 60) ∧ ((u = 0 ∧ 0 ≤ q ∧ q < 8) ∨ (u = 1 ∧ 0 ≤ q ∧ q < A 0)) then (if u = 0 then mFo W V n.toNat A (11 + q.toNat) else mFo W V n.toNat A (19 + q.toNat)) else -2))) ∧ chg scrQ σ σ') := by
  have g := ok_gd hc hn4 ok
  have g0 := g.1
  have n1 := ok.2.2.1
  have a2 := ok_2 ok
  have g10 := g.2.2.2.2.1
  have gL : gd 100000 4 A := gd_mono g (by decide)
  have rk := rA_ok (w0_of C) gL a2.1 a2.2
  refine sC_of rfl (Nat.le_of_ble_eq_true rfl) ?_
  show sE g_tt _ _ _ 0 [some (.ref 0), some (.int (iZ n)), some (.int (iZ u)), some (.int (iZ q)), none, none, none, none] [] σ
  refine q_iload_n dX6_foretold_0 rfl rfl ?_
  refine z_if_ne (tgt := 15) dX6_foretold_1 (by decide) (by unfold inR at *; omega) (fun c_1 => ?_) (fun c_1 => ?_)
  · refine z_iconst dX6_foretold_15 ?_
    refine q_istore dX6_foretold_16 (by decide) ?_
    show sE g_tt _ _ _ 18 [some (.ref 0), some (.int (iZ n)), some (.int (iZ u)), some (.int (iZ q)), some (.int (iZ 0)), none, none, none] [] σ
    refine q_iload_n dX6_foretold_18 rfl rfl ?_
    refine z_iconst dX6_foretold_19 ?_
    refine z_icmp_ne (tgt := 35) dX6_foretold_20 (by decide) (by unfold inR at *; omega) (by unfold inR at *; omega) (fun c_2 => ?_) (fun c_2 => ?_)
    · refine z_iconst dX6_foretold_35 ?_
      refine q_istore dX6_foretold_36 (by decide) ?_
      show sE g_tt _ _ _ 38 [some (.ref 0), some (.int (iZ n)), some (.int (iZ u)), some (.int (iZ q)), some (.int (iZ 0)), some (.int (iZ 0)), none, none] [] σ
      refine q_iload_n dX6_foretold_38 rfl rfl ?_
      refine z_iconst dX6_foretold_39 ?_
      refine z_icmp_lt (tgt := 59) dX6_foretold_40 (by decide) (by unfold inR at *; omega) (by unfold inR at *; omega) (fun c_3 => ?_) (fun c_3 => ?_)
      · refine z_bipush dX6_foretold_59 (by decide +kernel) ?_
        exact s_iretZ dX6_foretold_61 rfl ⟨by rw [if_neg (by omega)], chg_rf _ _⟩
      · refine q_iload_n dX6_foretold_43 rfl rfl ?_
        refine z_bipush dX6_foretold_44 (by decide +kernel) ?_
        refine z_icmp_gt (tgt := 59) dX6_foretold_46 (by decide) (by unfold inR at *; omega) (by unfold inR at *; omega) (fun c_4 => ?_) (fun c_4 => ?_)
        · refine z_bipush dX6_foretold_59 (by decide +kernel) ?_
          exact s_iretZ dX6_foretold_61 rfl ⟨by rw [if_neg (by omega)], chg_rf _ _⟩
        · refine q_iload dX6_foretold_49 rfl ?_
          refine z_if_ne (tgt := 62) dX6_foretold_51 (by decide) (by unfold inR at *; omega) (fun c_5 => ?_) (fun c_5 => ?_)
          · exfalso
            revert c_5
            decide
          · refine q_iload dX6_foretold_54 rfl ?_
            refine z_if_ne (tgt := 62) dX6_foretold_56 (by decide) (by unfold inR at *; omega) (fun c_6 => ?_) (fun c_6 => ?_)
            · exfalso
              revert c_6
              decide
            · refine z_bipush dX6_foretold_59 (by decide +kernel) ?_
              exact s_iretZ dX6_foretold_61 rfl ⟨by rw [if_neg (by omega)], chg_rf _ _⟩
    · refine q_aload_n dX6_foretold_23 rfl rfl ?_
      refine q_iload_n dX6_foretold_24 rfl rfl ?_
      refine s_callV (ci := 6) (a := 0) (As := [.int (iZ q)]) (S := []) dX6_foretold_25 okX6_isPerson mlX6_187 rfl (by omega) rfl (Nat.le_of_ble_eq_true rfl) (show kd 0 = 6 from rfl) (by decide) rfl (x_isPerson (d := d - 1) (p := q) (by unfold inR at *; omega) σ hc hn4 ok oi C) (fun v_ σ_ hq => ?_)
      obtain ⟨rfl, e9⟩ := hq
      have e9 := e9.symm
      subst e9
      show sE g_tt _ _ _ 28 [some (.ref 0), some (.int (iZ n)), some (.int (iZ u)), some (.int (iZ q)), some (.int (iZ 0)), none, none, none] [.int (iZ (if 0 ≤ q ∧ q < A 0 then 1 else 0))] σ
      refine z_if_eq (tgt := 35) dX6_foretold_28 (by decide) inR_01 (fun c_7 => ?_) (fun c_7 => ?_)
      · have c_7 := if01_0 c_7
        refine z_iconst dX6_foretold_35 ?_
        refine q_istore dX6_foretold_36 (by decide) ?_
        show sE g_tt _ _ _ 38 [some (.ref 0), some (.int (iZ n)), some (.int (iZ u)), some (.int (iZ q)), some (.int (iZ 0)), some (.int (iZ 0)), none, none] [] σ
        refine q_iload_n dX6_foretold_38 rfl rfl ?_
        refine z_iconst dX6_foretold_39 ?_
        refine z_icmp_lt (tgt := 59) dX6_foretold_40 (by decide) (by unfold inR at *; omega) (by unfold inR at *; omega) (fun c_8 => ?_) (fun c_8 => ?_)
        · refine z_bipush dX6_foretold_59 (by decide +kernel) ?_
          exact s_iretZ dX6_foretold_61 rfl ⟨by rw [if_neg (by omega)], chg_rf _ _⟩
        · refine q_iload_n dX6_foretold_43 rfl rfl ?_
          refine z_bipush dX6_foretold_44 (by decide +kernel) ?_
          refine z_icmp_gt (tgt := 59) dX6_foretold_46 (by decide) (by unfold inR at *; omega) (by unfold inR at *; omega) (fun c_9 => ?_) (fun c_9 => ?_)
          · refine z_bipush dX6_foretold_59 (by decide +kernel) ?_
            exact s_iretZ dX6_foretold_61 rfl ⟨by rw [if_neg (by omega)], chg_rf _ _⟩
          · refine q_iload dX6_foretold_49 rfl ?_
            refine z_if_ne (tgt := 62) dX6_foretold_51 (by decide) (by unfold inR at *; omega) (fun c_10 => ?_) (fun c_10 => ?_)
            · exfalso
              revert c_10
              decide
            · refine q_iload dX6_foretold_54 rfl ?_
              refine z_if_ne (tgt := 62) dX6_foretold_56 (by decide) (by unfold inR at *; omega) (fun c_11 => ?_) (fun c_11 => ?_)
              · exfalso
                revert c_11
                decide
              · refine z_bipush dX6_foretold_59 (by decide +kernel) ?_
                exact s_iretZ dX6_foretold_61 rfl ⟨by rw [if_neg (by omega)], chg_rf _ _⟩
      · have c_7 := if01_1 c_7
        refine z_iconst dX6_foretold_31 ?_
        refine q_goto (tgt := 36) dX6_foretold_32 (by decide) ?_
        refine q_istore dX6_foretold_36 (by decide) ?_
        show sE g_tt _ _ _ 38 [some (.ref 0), some (.int (iZ n)), some (.int (iZ u)), some (.int (iZ q)), some (.int (iZ 0)), some (.int (iZ 1)), none, none] [] σ
        refine q_iload_n dX6_foretold_38 rfl rfl ?_
        refine z_iconst dX6_foretold_39 ?_
        refine z_icmp_lt (tgt := 59) dX6_foretold_40 (by decide) (by unfold inR at *; omega) (by unfold inR at *; omega) (fun c_12 => ?_) (fun c_12 => ?_)
        · refine z_bipush dX6_foretold_59 (by decide +kernel) ?_
          exact s_iretZ dX6_foretold_61 rfl ⟨by rw [if_neg (by omega)], chg_rf _ _⟩
        · refine q_iload_n dX6_foretold_43 rfl rfl ?_
          refine z_bipush dX6_foretold_44 (by decide +kernel) ?_
          refine z_icmp_gt (tgt := 59) dX6_foretold_46 (by decide) (by unfold inR at *; omega) (by unfold inR at *; omega) (fun c_13 => ?_) (fun c_13 => ?_)
          · refine z_bipush dX6_foretold_59 (by decide +kernel) ?_
            exact s_iretZ dX6_foretold_61 rfl ⟨by rw [if_neg (by omega)], chg_rf _ _⟩
          · refine q_iload dX6_foretold_49 rfl ?_
            refine z_if_ne (tgt := 62) dX6_foretold_51 (by decide) (by unfold inR at *; omega) (fun c_14 => ?_) (fun c_14 => ?_)
            · exfalso
              revert c_14
              decide
            · refine q_iload dX6_foretold_54 rfl ?_
              refine z_if_ne (tgt := 62) dX6_foretold_56 (by decide) (by unfold inR at *; omega) (fun c_15 => ?_) (fun c_15 => ?_)
              · refine q_aload_n dX6_foretold_62 rfl rfl ?_
                refine sg6 (kf := 6) (v := .ref 334) dX6_foretold_63 flX6_48 (show kd 0 = 6 from rfl) (by decide) rfl ?_
                refine z_iconst dX6_foretold_66 ?_
                refine s_aaldS (n := 4) (x := 364) dX6_foretold_67 (show kd 334 = 300000 + 4 from rfl) (by omega) (by omega) (by decide) (C.2.2.2.2 0 (by omega)) ?_
                refine q_astore dX6_foretold_68 (by decide) ?_
                show sE g_tt _ _ _ 70 [some (.ref 0), some (.int (iZ n)), some (.int (iZ u)), some (.int (iZ q)), some (.int (iZ 0)), some (.int (iZ 1)), some (.ref 364), none] [] σ
                refine q_aload dX6_foretold_70 rfl ?_
                refine q_aload_n dX6_foretold_72 rfl rfl ?_
                refine sg6 (kf := 0) (v := .ref 1) dX6_foretold_73 flX6_10 (show kd 0 = 6 from rfl) (by decide) rfl ?_
                refine sg5 (kf := 0) (v := .ref 2) dX6_foretold_76 flX6_72 (show kd 1 = 5 from rfl) (by decide) rfl ?_
                refine s_callV (ci := 2) (a := 364) (As := [.ref 2]) (S := []) dX6_foretold_79 okX2_take mlX6_218 rfl (by omega) rfl (Nat.le_of_ble_eq_true rfl) (show kd 364 = 2 from rfl) (by decide) rfl (t_take (d := d - 1) (s := 364) (o := 2) (by omega) rfl σ rfl (by decide)) (fun v_ σ_ hq => ?_)
                obtain ⟨rfl, hc1, ht1⟩ := hq
                rename gS => σ1
                have s1 : chg scrQ σ σ1 := chg_mono hc1 (fun a q => scr5 (by omega) q)
                have C1 := clR_ch ok oi C s1
                have t1 : trS 0 σ1 364 A := trS_off (ht1 1 A g0.2 (fun _ => ok.1.2.2.2.2.1.2) C.1.1)
                show sE g_tt _ _ _ 82 [some (.ref 0), some (.int (iZ n)), some (.int (iZ u)), some (.int (iZ q)), some (.int (iZ 0)), some (.int (iZ 1)), some (.ref 364), none] [] σ1
                refine z_iconst dX6_foretold_82 ?_
                refine q_istore dX6_foretold_83 (by decide) ?_
                show sE g_tt _ _ _ 85 [some (.ref 0), some (.int (iZ n)), some (.int (iZ u)), some (.int (iZ q)), some (.int (iZ 0)), some (.int (iZ 1)), some (.ref 364), some (.int (iZ 0))] [] σ1
                obtain ⟨N, rfl⟩ : ∃ N : Nat, n = (N : Int) := ⟨n.toNat, by omega⟩
                obtain ⟨p, rfl⟩ : ∃ p : Nat, q = (p : Int) := ⟨q.toNat, by omega⟩
                rw [if_pos (by omega), if_neg (by omega)]
                exact lx_foretold0 (N := N) (q := p) hd (by omega) (by omega) σ hc hn4 ok oi C (by omega) 61 A 0 σ1 g rfl rfl t1 s1 (by omega) (by omega)
              · exfalso
                revert c_15
                decide
  · refine q_iload_n dX6_foretold_4 rfl rfl ?_
    refine s_callS (As := [.int (iZ q)]) (S := []) dX6_foretold_5 okX6_isHouse mlX6_68 rfl (by omega) rfl (Nat.le_of_ble_eq_true rfl) (c_isHouse (d := d - 1) (z := q) (by unfold inR at *; omega) σ) (fun v_ σ_ hq => ?_)
    obtain ⟨rfl, e9⟩ := hq
    have e9 := e9.symm
    subst e9
    show sE g_tt _ _ _ 8 [some (.ref 0), some (.int (iZ n)), some (.int (iZ u)), some (.int (iZ q)), none, none, none, none] [.int (iZ (if 0 ≤ q ∧ q < 8 then 1 else 0))] σ
    refine z_if_eq (tgt := 15) dX6_foretold_8 (by decide) inR_01 (fun c_16 => ?_) (fun c_16 => ?_)
    · have c_16 := if01_0 c_16
      refine z_iconst dX6_foretold_15 ?_
      refine q_istore dX6_foretold_16 (by decide) ?_
      show sE g_tt _ _ _ 18 [some (.ref 0), some (.int (iZ n)), some (.int (iZ u)), some (.int (iZ q)), some (.int (iZ 0)), none, none, none] [] σ
      refine q_iload_n dX6_foretold_18 rfl rfl ?_
      refine z_iconst dX6_foretold_19 ?_
      refine z_icmp_ne (tgt := 35) dX6_foretold_20 (by decide) (by unfold inR at *; omega) (by unfold inR at *; omega) (fun c_17 => ?_) (fun c_17 => ?_)
      · refine z_iconst dX6_foretold_35 ?_
        refine q_istore dX6_foretold_36 (by decide) ?_
        show sE g_tt _ _ _ 38 [some (.ref 0), some (.int (iZ n)), some (.int (iZ u)), some (.int (iZ q)), some (.int (iZ 0)), some (.int (iZ 0)), none, none] [] σ
        refine q_iload_n dX6_foretold_38 rfl rfl ?_
        refine z_iconst dX6_foretold_39 ?_
        refine z_icmp_lt (tgt := 59) dX6_foretold_40 (by decide) (by unfold inR at *; omega) (by unfold inR at *; omega) (fun c_18 => ?_) (fun c_18 => ?_)
        · refine z_bipush dX6_foretold_59 (by decide +kernel) ?_
          exact s_iretZ dX6_foretold_61 rfl ⟨by rw [if_neg (by omega)], chg_rf _ _⟩
        · refine q_iload_n dX6_foretold_43 rfl rfl ?_
          refine z_bipush dX6_foretold_44 (by decide +kernel) ?_
          refine z_icmp_gt (tgt := 59) dX6_foretold_46 (by decide) (by unfold inR at *; omega) (by unfold inR at *; omega) (fun c_19 => ?_) (fun c_19 => ?_)
          · refine z_bipush dX6_foretold_59 (by decide +kernel) ?_
            exact s_iretZ dX6_foretold_61 rfl ⟨by rw [if_neg (by omega)], chg_rf _ _⟩
          · refine q_iload dX6_foretold_49 rfl ?_
            refine z_if_ne (tgt := 62) dX6_foretold_51 (by decide) (by unfold inR at *; omega) (fun c_20 => ?_) (fun c_20 => ?_)
            · exfalso
              revert c_20
              decide
            · refine q_iload dX6_foretold_54 rfl ?_
              refine z_if_ne (tgt := 62) dX6_foretold_56 (by decide) (by unfold inR at *; omega) (fun c_21 => ?_) (fun c_21 => ?_)
              · exfalso
                revert c_21
                decide
              · refine z_bipush dX6_foretold_59 (by decide +kernel) ?_
                exact s_iretZ dX6_foretold_61 rfl ⟨by rw [if_neg (by omega)], chg_rf _ _⟩
      · refine q_aload_n dX6_foretold_23 rfl rfl ?_
        refine q_iload_n dX6_foretold_24 rfl rfl ?_
        refine s_callV (ci := 6) (a := 0) (As := [.int (iZ q)]) (S := []) dX6_foretold_25 okX6_isPerson mlX6_187 rfl (by omega) rfl (Nat.le_of_ble_eq_true rfl) (show kd 0 = 6 from rfl) (by decide) rfl (x_isPerson (d := d - 1) (p := q) (by unfold inR at *; omega) σ hc hn4 ok oi C) (fun v_ σ_ hq => ?_)
        obtain ⟨rfl, e9⟩ := hq
        have e9 := e9.symm
        subst e9
        show sE g_tt _ _ _ 28 [some (.ref 0), some (.int (iZ n)), some (.int (iZ u)), some (.int (iZ q)), some (.int (iZ 0)), none, none, none] [.int (iZ (if 0 ≤ q ∧ q < A 0 then 1 else 0))] σ
        refine z_if_eq (tgt := 35) dX6_foretold_28 (by decide) inR_01 (fun c_22 => ?_) (fun c_22 => ?_)
        · have c_22 := if01_0 c_22
          refine z_iconst dX6_foretold_35 ?_
          refine q_istore dX6_foretold_36 (by decide) ?_
          show sE g_tt _ _ _ 38 [some (.ref 0), some (.int (iZ n)), some (.int (iZ u)), some (.int (iZ q)), some (.int (iZ 0)), some (.int (iZ 0)), none, none] [] σ
          refine q_iload_n dX6_foretold_38 rfl rfl ?_
          refine z_iconst dX6_foretold_39 ?_
          refine z_icmp_lt (tgt := 59) dX6_foretold_40 (by decide) (by unfold inR at *; omega) (by unfold inR at *; omega) (fun c_23 => ?_) (fun c_23 => ?_)
          · refine z_bipush dX6_foretold_59 (by decide +kernel) ?_
            exact s_iretZ dX6_foretold_61 rfl ⟨by rw [if_neg (by omega)], chg_rf _ _⟩
          · refine q_iload_n dX6_foretold_43 rfl rfl ?_
            refine z_bipush dX6_foretold_44 (by decide +kernel) ?_
            refine z_icmp_gt (tgt := 59) dX6_foretold_46 (by decide) (by unfold inR at *; omega) (by unfold inR at *; omega) (fun c_24 => ?_) (fun c_24 => ?_)
            · refine z_bipush dX6_foretold_59 (by decide +kernel) ?_
              exact s_iretZ dX6_foretold_61 rfl ⟨by rw [if_neg (by omega)], chg_rf _ _⟩
            · refine q_iload dX6_foretold_49 rfl ?_
              refine z_if_ne (tgt := 62) dX6_foretold_51 (by decide) (by unfold inR at *; omega) (fun c_25 => ?_) (fun c_25 => ?_)
              · exfalso
                revert c_25
                decide
              · refine q_iload dX6_foretold_54 rfl ?_
                refine z_if_ne (tgt := 62) dX6_foretold_56 (by decide) (by unfold inR at *; omega) (fun c_26 => ?_) (fun c_26 => ?_)
                · exfalso
                  revert c_26
                  decide
                · refine z_bipush dX6_foretold_59 (by decide +kernel) ?_
                  exact s_iretZ dX6_foretold_61 rfl ⟨by rw [if_neg (by omega)], chg_rf _ _⟩
        · have c_22 := if01_1 c_22
          refine z_iconst dX6_foretold_31 ?_
          refine q_goto (tgt := 36) dX6_foretold_32 (by decide) ?_
          refine q_istore dX6_foretold_36 (by decide) ?_
          show sE g_tt _ _ _ 38 [some (.ref 0), some (.int (iZ n)), some (.int (iZ u)), some (.int (iZ q)), some (.int (iZ 0)), some (.int (iZ 1)), none, none] [] σ
          refine q_iload_n dX6_foretold_38 rfl rfl ?_
          refine z_iconst dX6_foretold_39 ?_
          refine z_icmp_lt (tgt := 59) dX6_foretold_40 (by decide) (by unfold inR at *; omega) (by unfold inR at *; omega) (fun c_27 => ?_) (fun c_27 => ?_)
          · refine z_bipush dX6_foretold_59 (by decide +kernel) ?_
            exact s_iretZ dX6_foretold_61 rfl ⟨by rw [if_neg (by omega)], chg_rf _ _⟩
          · refine q_iload_n dX6_foretold_43 rfl rfl ?_
            refine z_bipush dX6_foretold_44 (by decide +kernel) ?_
            refine z_icmp_gt (tgt := 59) dX6_foretold_46 (by decide) (by unfold inR at *; omega) (by unfold inR at *; omega) (fun c_28 => ?_) (fun c_28 => ?_)
            · refine z_bipush dX6_foretold_59 (by decide +kernel) ?_
              exact s_iretZ dX6_foretold_61 rfl ⟨by rw [if_neg (by omega)], chg_rf _ _⟩
            · refine q_iload dX6_foretold_49 rfl ?_
              refine z_if_ne (tgt := 62) dX6_foretold_51 (by decide) (by unfold inR at *; omega) (fun c_29 => ?_) (fun c_29 => ?_)
              · exfalso
                revert c_29
                decide
              · refine q_iload dX6_foretold_54 rfl ?_
                refine z_if_ne (tgt := 62) dX6_foretold_56 (by decide) (by unfold inR at *; omega) (fun c_30 => ?_) (fun c_30 => ?_)
                · refine q_aload_n dX6_foretold_62 rfl rfl ?_
                  refine sg6 (kf := 6) (v := .ref 334) dX6_foretold_63 flX6_48 (show kd 0 = 6 from rfl) (by decide) rfl ?_
                  refine z_iconst dX6_foretold_66 ?_
                  refine s_aaldS (n := 4) (x := 364) dX6_foretold_67 (show kd 334 = 300000 + 4 from rfl) (by omega) (by omega) (by decide) (C.2.2.2.2 0 (by omega)) ?_
                  refine q_astore dX6_foretold_68 (by decide) ?_
                  show sE g_tt _ _ _ 70 [some (.ref 0), some (.int (iZ n)), some (.int (iZ u)), some (.int (iZ q)), some (.int (iZ 0)), some (.int (iZ 1)), some (.ref 364), none] [] σ
                  refine q_aload dX6_foretold_70 rfl ?_
                  refine q_aload_n dX6_foretold_72 rfl rfl ?_
                  refine sg6 (kf := 0) (v := .ref 1) dX6_foretold_73 flX6_10 (show kd 0 = 6 from rfl) (by decide) rfl ?_
                  refine sg5 (kf := 0) (v := .ref 2) dX6_foretold_76 flX6_72 (show kd 1 = 5 from rfl) (by decide) rfl ?_
                  refine s_callV (ci := 2) (a := 364) (As := [.ref 2]) (S := []) dX6_foretold_79 okX2_take mlX6_218 rfl (by omega) rfl (Nat.le_of_ble_eq_true rfl) (show kd 364 = 2 from rfl) (by decide) rfl (t_take (d := d - 1) (s := 364) (o := 2) (by omega) rfl σ rfl (by decide)) (fun v_ σ_ hq => ?_)
                  obtain ⟨rfl, hc1, ht1⟩ := hq
                  rename gS => σ1
                  have s1 : chg scrQ σ σ1 := chg_mono hc1 (fun a q => scr5 (by omega) q)
                  have C1 := clR_ch ok oi C s1
                  have t1 : trS 0 σ1 364 A := trS_off (ht1 1 A g0.2 (fun _ => ok.1.2.2.2.2.1.2) C.1.1)
                  show sE g_tt _ _ _ 82 [some (.ref 0), some (.int (iZ n)), some (.int (iZ u)), some (.int (iZ q)), some (.int (iZ 0)), some (.int (iZ 1)), some (.ref 364), none] [] σ1
                  refine z_iconst dX6_foretold_82 ?_
                  refine q_istore dX6_foretold_83 (by decide) ?_
                  show sE g_tt _ _ _ 85 [some (.ref 0), some (.int (iZ n)), some (.int (iZ u)), some (.int (iZ q)), some (.int (iZ 0)), some (.int (iZ 1)), some (.ref 364), some (.int (iZ 0))] [] σ1
                  obtain ⟨N, rfl⟩ : ∃ N : Nat, n = (N : Int) := ⟨n.toNat, by omega⟩
                  obtain ⟨p, rfl⟩ : ∃ p : Nat, q = (p : Int) := ⟨q.toNat, by omega⟩
                  rw [if_pos (by omega), if_neg (by omega)]
                  exact lx_foretold0 (N := N) (q := p) hd (by omega) (by omega) σ hc hn4 ok oi C (by omega) 61 A 0 σ1 g rfl rfl t1 s1 (by omega) (by omega)
                · exfalso
                  revert c_30
                  decide
    · have c_16 := if01_1 c_16
      refine z_iconst dX6_foretold_11 ?_
      refine q_goto (tgt := 16) dX6_foretold_12 (by decide) ?_
      refine q_istore dX6_foretold_16 (by decide) ?_
      show sE g_tt _ _ _ 18 [some (.ref 0), some (.int (iZ n)), some (.int (iZ u)), some (.int (iZ q)), some (.int (iZ 1)), none, none, none] [] σ
      refine q_iload_n dX6_foretold_18 rfl rfl ?_
      refine z_iconst dX6_foretold_19 ?_
      refine z_icmp_ne (tgt := 35) dX6_foretold_20 (by decide) (by unfold inR at *; omega) (by unfold inR at *; omega) (fun c_31 => ?_) (fun c_31 => ?_)
      · refine z_iconst dX6_foretold_35 ?_
        refine q_istore dX6_foretold_36 (by decide) ?_
        show sE g_tt _ _ _ 38 [some (.ref 0), some (.int (iZ n)), some (.int (iZ u)), some (.int (iZ q)), some (.int (iZ 1)), some (.int (iZ 0)), none, none] [] σ
        refine q_iload_n dX6_foretold_38 rfl rfl ?_
        refine z_iconst dX6_foretold_39 ?_
        refine z_icmp_lt (tgt := 59) dX6_foretold_40 (by decide) (by unfold inR at *; omega) (by unfold inR at *; omega) (fun c_32 => ?_) (fun c_32 => ?_)
        · refine z_bipush dX6_foretold_59 (by decide +kernel) ?_
          exact s_iretZ dX6_foretold_61 rfl ⟨by rw [if_neg (by omega)], chg_rf _ _⟩
        · refine q_iload_n dX6_foretold_43 rfl rfl ?_
          refine z_bipush dX6_foretold_44 (by decide +kernel) ?_
          refine z_icmp_gt (tgt := 59) dX6_foretold_46 (by decide) (by unfold inR at *; omega) (by unfold inR at *; omega) (fun c_33 => ?_) (fun c_33 => ?_)
          · refine z_bipush dX6_foretold_59 (by decide +kernel) ?_
            exact s_iretZ dX6_foretold_61 rfl ⟨by rw [if_neg (by omega)], chg_rf _ _⟩
          · refine q_iload dX6_foretold_49 rfl ?_
            refine z_if_ne (tgt := 62) dX6_foretold_51 (by decide) (by unfold inR at *; omega) (fun c_34 => ?_) (fun c_34 => ?_)
            · refine q_aload_n dX6_foretold_62 rfl rfl ?_
              refine sg6 (kf := 6) (v := .ref 334) dX6_foretold_63 flX6_48 (show kd 0 = 6 from rfl) (by decide) rfl ?_
              refine z_iconst dX6_foretold_66 ?_
              refine s_aaldS (n := 4) (x := 364) dX6_foretold_67 (show kd 334 = 300000 + 4 from rfl) (by omega) (by omega) (by decide) (C.2.2.2.2 0 (by omega)) ?_
              refine q_astore dX6_foretold_68 (by decide) ?_
              show sE g_tt _ _ _ 70 [some (.ref 0), some (.int (iZ n)), some (.int (iZ u)), some (.int (iZ q)), some (.int (iZ 1)), some (.int (iZ 0)), some (.ref 364), none] [] σ
              refine q_aload dX6_foretold_70 rfl ?_
              refine q_aload_n dX6_foretold_72 rfl rfl ?_
              refine sg6 (kf := 0) (v := .ref 1) dX6_foretold_73 flX6_10 (show kd 0 = 6 from rfl) (by decide) rfl ?_
              refine sg5 (kf := 0) (v := .ref 2) dX6_foretold_76 flX6_72 (show kd 1 = 5 from rfl) (by decide) rfl ?_
              refine s_callV (ci := 2) (a := 364) (As := [.ref 2]) (S := []) dX6_foretold_79 okX2_take mlX6_218 rfl (by omega) rfl (Nat.le_of_ble_eq_true rfl) (show kd 364 = 2 from rfl) (by decide) rfl (t_take (d := d - 1) (s := 364) (o := 2) (by omega) rfl σ rfl (by decide)) (fun v_ σ_ hq => ?_)
              obtain ⟨rfl, hc1, ht1⟩ := hq
              rename gS => σ1
              have s1 : chg scrQ σ σ1 := chg_mono hc1 (fun a q => scr5 (by omega) q)
              have C1 := clR_ch ok oi C s1
              have t1 : trS 0 σ1 364 A := trS_off (ht1 1 A g0.2 (fun _ => ok.1.2.2.2.2.1.2) C.1.1)
              show sE g_tt _ _ _ 82 [some (.ref 0), some (.int (iZ n)), some (.int (iZ u)), some (.int (iZ q)), some (.int (iZ 1)), some (.int (iZ 0)), some (.ref 364), none] [] σ1
              refine z_iconst dX6_foretold_82 ?_
              refine q_istore dX6_foretold_83 (by decide) ?_
              show sE g_tt _ _ _ 85 [some (.ref 0), some (.int (iZ n)), some (.int (iZ u)), some (.int (iZ q)), some (.int (iZ 1)), some (.int (iZ 0)), some (.ref 364), some (.int (iZ 0))] [] σ1
              obtain ⟨N, rfl⟩ : ∃ N : Nat, n = (N : Int) := ⟨n.toNat, by omega⟩
              obtain ⟨p, rfl⟩ : ∃ p : Nat, q = (p : Int) := ⟨q.toNat, by omega⟩
              rw [if_pos (by omega), if_pos (by omega)]
              exact lx_foretold1 (N := N) (q := p) hd (by omega) (by omega) σ hc hn4 ok oi C (by omega) 61 A 0 σ1 g rfl rfl t1 s1 (by omega) (by omega)
            · exfalso
              revert c_34
              decide
      · refine q_aload_n dX6_foretold_23 rfl rfl ?_
        refine q_iload_n dX6_foretold_24 rfl rfl ?_
        refine s_callV (ci := 6) (a := 0) (As := [.int (iZ q)]) (S := []) dX6_foretold_25 okX6_isPerson mlX6_187 rfl (by omega) rfl (Nat.le_of_ble_eq_true rfl) (show kd 0 = 6 from rfl) (by decide) rfl (x_isPerson (d := d - 1) (p := q) (by unfold inR at *; omega) σ hc hn4 ok oi C) (fun v_ σ_ hq => ?_)
        obtain ⟨rfl, e9⟩ := hq
        have e9 := e9.symm
        subst e9
        show sE g_tt _ _ _ 28 [some (.ref 0), some (.int (iZ n)), some (.int (iZ u)), some (.int (iZ q)), some (.int (iZ 1)), none, none, none] [.int (iZ (if 0 ≤ q ∧ q < A 0 then 1 else 0))] σ
        refine z_if_eq (tgt := 35) dX6_foretold_28 (by decide) inR_01 (fun c_35 => ?_) (fun c_35 => ?_)
        · have c_35 := if01_0 c_35
          refine z_iconst dX6_foretold_35 ?_
          refine q_istore dX6_foretold_36 (by decide) ?_
          show sE g_tt _ _ _ 38 [some (.ref 0), some (.int (iZ n)), some (.int (iZ u)), some (.int (iZ q)), some (.int (iZ 1)), some (.int (iZ 0)), none, none] [] σ
          refine q_iload_n dX6_foretold_38 rfl rfl ?_
          refine z_iconst dX6_foretold_39 ?_
          refine z_icmp_lt (tgt := 59) dX6_foretold_40 (by decide) (by unfold inR at *; omega) (by unfold inR at *; omega) (fun c_36 => ?_) (fun c_36 => ?_)
          · refine z_bipush dX6_foretold_59 (by decide +kernel) ?_
            exact s_iretZ dX6_foretold_61 rfl ⟨by rw [if_neg (by omega)], chg_rf _ _⟩
          · refine q_iload_n dX6_foretold_43 rfl rfl ?_
            refine z_bipush dX6_foretold_44 (by decide +kernel) ?_
            refine z_icmp_gt (tgt := 59) dX6_foretold_46 (by decide) (by unfold inR at *; omega) (by unfold inR at *; omega) (fun c_37 => ?_) (fun c_37 => ?_)
            · refine z_bipush dX6_foretold_59 (by decide +kernel) ?_
              exact s_iretZ dX6_foretold_61 rfl ⟨by rw [if_neg (by omega)], chg_rf _ _⟩
            · refine q_iload dX6_foretold_49 rfl ?_
              refine z_if_ne (tgt := 62) dX6_foretold_51 (by decide) (by unfold inR at *; omega) (fun c_38 => ?_) (fun c_38 => ?_)
              · refine q_aload_n dX6_foretold_62 rfl rfl ?_
                refine sg6 (kf := 6) (v := .ref 334) dX6_foretold_63 flX6_48 (show kd 0 = 6 from rfl) (by decide) rfl ?_
                refine z_iconst dX6_foretold_66 ?_
                refine s_aaldS (n := 4) (x := 364) dX6_foretold_67 (show kd 334 = 300000 + 4 from rfl) (by omega) (by omega) (by decide) (C.2.2.2.2 0 (by omega)) ?_
                refine q_astore dX6_foretold_68 (by decide) ?_
                show sE g_tt _ _ _ 70 [some (.ref 0), some (.int (iZ n)), some (.int (iZ u)), some (.int (iZ q)), some (.int (iZ 1)), some (.int (iZ 0)), some (.ref 364), none] [] σ
                refine q_aload dX6_foretold_70 rfl ?_
                refine q_aload_n dX6_foretold_72 rfl rfl ?_
                refine sg6 (kf := 0) (v := .ref 1) dX6_foretold_73 flX6_10 (show kd 0 = 6 from rfl) (by decide) rfl ?_
                refine sg5 (kf := 0) (v := .ref 2) dX6_foretold_76 flX6_72 (show kd 1 = 5 from rfl) (by decide) rfl ?_
                refine s_callV (ci := 2) (a := 364) (As := [.ref 2]) (S := []) dX6_foretold_79 okX2_take mlX6_218 rfl (by omega) rfl (Nat.le_of_ble_eq_true rfl) (show kd 364 = 2 from rfl) (by decide) rfl (t_take (d := d - 1) (s := 364) (o := 2) (by omega) rfl σ rfl (by decide)) (fun v_ σ_ hq => ?_)
                obtain ⟨rfl, hc1, ht1⟩ := hq
                rename gS => σ1
                have s1 : chg scrQ σ σ1 := chg_mono hc1 (fun a q => scr5 (by omega) q)
                have C1 := clR_ch ok oi C s1
                have t1 : trS 0 σ1 364 A := trS_off (ht1 1 A g0.2 (fun _ => ok.1.2.2.2.2.1.2) C.1.1)
                show sE g_tt _ _ _ 82 [some (.ref 0), some (.int (iZ n)), some (.int (iZ u)), some (.int (iZ q)), some (.int (iZ 1)), some (.int (iZ 0)), some (.ref 364), none] [] σ1
                refine z_iconst dX6_foretold_82 ?_
                refine q_istore dX6_foretold_83 (by decide) ?_
                show sE g_tt _ _ _ 85 [some (.ref 0), some (.int (iZ n)), some (.int (iZ u)), some (.int (iZ q)), some (.int (iZ 1)), some (.int (iZ 0)), some (.ref 364), some (.int (iZ 0))] [] σ1
                obtain ⟨N, rfl⟩ : ∃ N : Nat, n = (N : Int) := ⟨n.toNat, by omega⟩
                obtain ⟨p, rfl⟩ : ∃ p : Nat, q = (p : Int) := ⟨q.toNat, by omega⟩
                rw [if_pos (by omega), if_pos (by omega)]
                exact lx_foretold1 (N := N) (q := p) hd (by omega) (by omega) σ hc hn4 ok oi C (by omega) 61 A 0 σ1 g rfl rfl t1 s1 (by omega) (by omega)
              · exfalso
                revert c_38
                decide
        · have c_35 := if01_1 c_35
          refine z_iconst dX6_foretold_31 ?_
          refine q_goto (tgt := 36) dX6_foretold_32 (by decide) ?_
          refine q_istore dX6_foretold_36 (by decide) ?_
          show sE g_tt _ _ _ 38 [some (.ref 0), some (.int (iZ n)), some (.int (iZ u)), some (.int (iZ q)), some (.int (iZ 1)), some (.int (iZ 1)), none, none] [] σ
          refine q_iload_n dX6_foretold_38 rfl rfl ?_
          refine z_iconst dX6_foretold_39 ?_
          refine z_icmp_lt (tgt := 59) dX6_foretold_40 (by decide) (by unfold inR at *; omega) (by unfold inR at *; omega) (fun c_39 => ?_) (fun c_39 => ?_)
          · refine z_bipush dX6_foretold_59 (by decide +kernel) ?_
            exact s_iretZ dX6_foretold_61 rfl ⟨by rw [if_neg (by omega)], chg_rf _ _⟩
          · refine q_iload_n dX6_foretold_43 rfl rfl ?_
            refine z_bipush dX6_foretold_44 (by decide +kernel) ?_
            refine z_icmp_gt (tgt := 59) dX6_foretold_46 (by decide) (by unfold inR at *; omega) (by unfold inR at *; omega) (fun c_40 => ?_) (fun c_40 => ?_)
            · refine z_bipush dX6_foretold_59 (by decide +kernel) ?_
              exact s_iretZ dX6_foretold_61 rfl ⟨by rw [if_neg (by omega)], chg_rf _ _⟩
            · refine q_iload dX6_foretold_49 rfl ?_
              refine z_if_ne (tgt := 62) dX6_foretold_51 (by decide) (by unfold inR at *; omega) (fun c_41 => ?_) (fun c_41 => ?_)
              · refine q_aload_n dX6_foretold_62 rfl rfl ?_
                refine sg6 (kf := 6) (v := .ref 334) dX6_foretold_63 flX6_48 (show kd 0 = 6 from rfl) (by decide) rfl ?_
                refine z_iconst dX6_foretold_66 ?_
                refine s_aaldS (n := 4) (x := 364) dX6_foretold_67 (show kd 334 = 300000 + 4 from rfl) (by omega) (by omega) (by decide) (C.2.2.2.2 0 (by omega)) ?_
                refine q_astore dX6_foretold_68 (by decide) ?_
                show sE g_tt _ _ _ 70 [some (.ref 0), some (.int (iZ n)), some (.int (iZ u)), some (.int (iZ q)), some (.int (iZ 1)), some (.int (iZ 1)), some (.ref 364), none] [] σ
                refine q_aload dX6_foretold_70 rfl ?_
                refine q_aload_n dX6_foretold_72 rfl rfl ?_
                refine sg6 (kf := 0) (v := .ref 1) dX6_foretold_73 flX6_10 (show kd 0 = 6 from rfl) (by decide) rfl ?_
                refine sg5 (kf := 0) (v := .ref 2) dX6_foretold_76 flX6_72 (show kd 1 = 5 from rfl) (by decide) rfl ?_
                refine s_callV (ci := 2) (a := 364) (As := [.ref 2]) (S := []) dX6_foretold_79 okX2_take mlX6_218 rfl (by omega) rfl (Nat.le_of_ble_eq_true rfl) (show kd 364 = 2 from rfl) (by decide) rfl (t_take (d := d - 1) (s := 364) (o := 2) (by omega) rfl σ rfl (by decide)) (fun v_ σ_ hq => ?_)
                obtain ⟨rfl, hc1, ht1⟩ := hq
                rename gS => σ1
                have s1 : chg scrQ σ σ1 := chg_mono hc1 (fun a q => scr5 (by omega) q)
                have C1 := clR_ch ok oi C s1
                have t1 : trS 0 σ1 364 A := trS_off (ht1 1 A g0.2 (fun _ => ok.1.2.2.2.2.1.2) C.1.1)
                show sE g_tt _ _ _ 82 [some (.ref 0), some (.int (iZ n)), some (.int (iZ u)), some (.int (iZ q)), some (.int (iZ 1)), some (.int (iZ 1)), some (.ref 364), none] [] σ1
                refine z_iconst dX6_foretold_82 ?_
                refine q_istore dX6_foretold_83 (by decide) ?_
                show sE g_tt _ _ _ 85 [some (.ref 0), some (.int (iZ n)), some (.int (iZ u)), some (.int (iZ q)), some (.int (iZ 1)), some (.int (iZ 1)), some (.ref 364), some (.int (iZ 0))] [] σ1
                obtain ⟨N, rfl⟩ : ∃ N : Nat, n = (N : Int) := ⟨n.toNat, by omega⟩
                obtain ⟨p, rfl⟩ : ∃ p : Nat, q = (p : Int) := ⟨q.toNat, by omega⟩
                rw [if_pos (by omega), if_pos (by omega)]
                exact lx_foretold1 (N := N) (q := p) hd (by omega) (by omega) σ hc hn4 ok oi C (by omega) 61 A 0 σ1 g rfl rfl t1 s1 (by omega) (by omega)
              · exfalso
                revert c_41
                decide
set_option maxHeartbeats 4000000 in
set_option maxRecDepth 100000 in
theorem x_sendsOff {d p h : Nat} (hd : 6 ≤ d) (hh : h < 8) {n : Int} (hn0 : 0 ≤ n) (hn : n ≤ 20) (σ : gS) {W V : wF} {A I : Nat → Int} {c nt : Int} (hc : c ≤ 88000) (hn4 : nt ≤ 4) (ok : okR c nt A) (oi : okR c (I 1) I) (C : clR σ W V A I) (hp : (p : Int) < A 0) : sC mX6_sendsOff d [.ref 0, .int (iZ (p : Int)), .int (iZ (h : Int)), .int (iZ n)] σ (fun r σ' => r = some (.int (iZ (if (n ≤ 0 ∨ A (11 + h) + n ≤ 99) ∧ rA W (addn A h n) (19 + p) = -1 then 1 else 0))) ∧ chg scrQ σ σ') := by
  have g := ok_gd hc hn4 ok
  have g0 := g.1
  have n1 := ok.2.2.1
  have a2 := ok_2 ok
  have g10 := g.2.2.2.2.1
  have gL : gd 100000 4 A := gd_mono g (by decide)
  have rk := rA_ok (w0_of C) gL a2.1 a2.2
  have kA := kd_ran g hh
  have gU : gd 100000 4 (addn A h n) := gd_mono (gd_addn g hh hn0) (by omega)
  have hU2 : addn A h n 2 = A 2 := va_up_ne _ _ (by omega)
  have r0 : rA W (addn A h n) 0 = A 0 := (sett_lo2 (w0_of C) _ _ _ gU (by omega) (by omega) 0 (by omega)).trans (va_up_ne _ _ (by omega))
  have ro := rA_ok (w0_of C) gU (by omega) (by omega)
  have hr := ro.1.2.1 p (by omega)
  refine sC_of rfl (Nat.le_of_ble_eq_true rfl) ?_
  show sE g_tt _ _ _ 0 [some (.ref 0), some (.int (iZ (p : Int))), some (.int (iZ (h : Int))), some (.int (iZ n)), none] [] σ
  refine q_aload_n dX6_sendsOff_0 rfl rfl ?_
  refine sg6 (kf := 6) (v := .ref 334) dX6_sendsOff_1 flX6_48 (show kd 0 = 6 from rfl) (by decide) rfl ?_
  refine z_iconst dX6_sendsOff_4 ?_
  refine s_aaldS (n := 4) (x := 364) dX6_sendsOff_5 (show kd 334 = 300000 + 4 from rfl) (by omega) (by omega) (by decide) (C.2.2.2.2 0 (by omega)) ?_
  refine q_astore dX6_sendsOff_6 (by decide) ?_
  show sE g_tt _ _ _ 8 [some (.ref 0), some (.int (iZ (p : Int))), some (.int (iZ (h : Int))), some (.int (iZ n)), some (.ref 364)] [] σ
  refine q_aload dX6_sendsOff_8 rfl ?_
  refine q_aload_n dX6_sendsOff_10 rfl rfl ?_
  refine sg6 (kf := 0) (v := .ref 1) dX6_sendsOff_11 flX6_10 (show kd 0 = 6 from rfl) (by decide) rfl ?_
  refine sg5 (kf := 0) (v := .ref 2) dX6_sendsOff_14 flX6_72 (show kd 1 = 5 from rfl) (by decide) rfl ?_
  refine s_callV (ci := 2) (a := 364) (As := [.ref 2]) (S := []) dX6_sendsOff_17 okX2_take mlX6_218 rfl (by omega) rfl (Nat.le_of_ble_eq_true rfl) (show kd 364 = 2 from rfl) (by decide) rfl (t_take (d := d - 1) (s := 364) (o := 2) (by omega) rfl σ rfl (by decide)) (fun v_ σ_ hq => ?_)
  obtain ⟨rfl, hc1, ht1⟩ := hq
  rename gS => σ1
  have s1 : chg scrQ σ σ1 := chg_mono hc1 (fun a q => scr5 (by omega) q)
  have C1 := clR_ch ok oi C s1
  have t1 : trS 0 σ1 364 A := trS_off (ht1 1 A g0.2 (fun _ => ok.1.2.2.2.2.1.2) C.1.1)
  have su : chg scrQ σ1 (sR σ1 365 h (A (11 + h) + n)) := chg_mono (chg_sR σ1 365 h _) (fun a q => scr1 (by omega) q)
  have CU := clR_ch ok oi C1 su
  have tU : trS 0 (sR σ1 365 h (A (11 + h) + n)) 364 (addn A h n) := trS_kind t1 hh _
  show sE g_tt _ _ _ 20 [some (.ref 0), some (.int (iZ (p : Int))), some (.int (iZ (h : Int))), some (.int (iZ n)), some (.ref 364)] [] σ1
  refine q_iload_n dX6_sendsOff_20 rfl rfl ?_
  refine z_if_le (tgt := 36) dX6_sendsOff_21 (by decide) (by unfold inR at *; omega) (fun c_1 => ?_) (fun c_1 => ?_)
  · refine q_aload dX6_sendsOff_36 rfl ?_
    refine sg2 (kf := 0) (v := .ref 365) dX6_sendsOff_38 flX6_122 (show kd 364 = 2 from rfl) (by decide) rfl ?_
    refine q_iload_n dX6_sendsOff_41 rfl rfl ?_
    refine q_dup2 dX6_sendsOff_42 rfl rfl ?_
    refine s_iald (n := 8) (x := A (11 + h)) dX6_sendsOff_43 (show kd 365 = 100 + 8 from rfl) (by omega) (by omega) (by decide) (t1.1 h hh) ?_
    refine q_iload_n dX6_sendsOff_44 rfl rfl ?_
    refine z_iadd dX6_sendsOff_45 ?_
    refine s_iast (n := 8) dX6_sendsOff_46 (show kd 365 = 100 + 8 from rfl) (by omega) (by omega) (by decide) ?_
    refine q_aload dX6_sendsOff_47 rfl ?_
    refine q_aload_n dX6_sendsOff_49 rfl rfl ?_
    refine s_callV (ci := 6) (a := 0) (As := []) (S := [.ref 364]) dX6_sendsOff_50 okX6_rule mlX6_125 rfl (by omega) rfl (Nat.le_of_ble_eq_true rfl) (show kd 0 = 6 from rfl) (by decide) rfl (x_rule (d := d - 1) (by omega) (sR σ1 365 h (A (11 + h) + n)) hc hn4 ok oi CU) (fun v_ σ_ hq => ?_)
    obtain ⟨rfl, e9⟩ := hq
    have e9 := e9.symm
    subst e9
    show sE g_tt _ _ _ 53 [some (.ref 0), some (.int (iZ (p : Int))), some (.int (iZ (h : Int))), some (.int (iZ n)), some (.ref 364)] [.ref (txp (A 2)), .ref 364] (sR σ1 365 h ((A (11 + h)) + n))
    refine s_callV (ci := 2) (a := 364) (As := [.ref (txp (A 2))]) (S := []) dX6_sendsOff_53 okX2_settleBy mlX6_140 rfl (by omega) rfl (Nat.le_of_ble_eq_true rfl) (show kd 364 = 2 from rfl) (by decide) rfl (t_settle (d := d - 1) (s := 364) (by omega) rfl (sR σ1 365 h (A (11 + h) + n)) (CU.2.2.1 (A 2) a2.1 a2.2) (addn A h n) zF gU hU2 tU) (fun v_ σ_ hq => ?_)
    obtain ⟨rfl, hc2, ht2, hm2, hn2⟩ := hq
    rename gS => σ2
    show sE g_tt _ _ _ 56 [some (.ref 0), some (.int (iZ (p : Int))), some (.int (iZ (h : Int))), some (.int (iZ n)), some (.ref 364)] [.int (iZ ((mS W (addn A h n) zF).1.length : Int))] σ2
    refine q_pop dX6_sendsOff_56 rfl ?_
    refine q_aload dX6_sendsOff_57 rfl ?_
    refine sg2 (kf := 1) (v := .ref 366) dX6_sendsOff_59 flX6_190 (show kd 364 = 2 from rfl) (by decide) rfl ?_
    refine q_iload_n dX6_sendsOff_62 rfl rfl ?_
    refine s_iald (n := 5) (x := rA W (addn A h n) (19 + p)) dX6_sendsOff_63 (show kd 366 = 100 + 5 from rfl) (by omega) (by omega) (by decide) (ht2.2.1 p (by show (p : Int) < rA W (addn A h n) 0; rw [r0]; exact hp)) ?_
    refine z_iconst dX6_sendsOff_64 ?_
    refine z_icmp_ne (tgt := 72) dX6_sendsOff_65 (by decide) (by unfold inR at *; omega) (by unfold inR at *; omega) (fun c_2 => ?_) (fun c_2 => ?_)
    · refine z_iconst dX6_sendsOff_72 ?_
      exact s_zret dX6_sendsOff_73 rfl (by omega) ⟨by first | ((repeat (first | rw [if_pos (by omega)] | rw [if_neg (by omega)])); done) | (exfalso; omega), chg_tr s1 (chg_tr su (chg_mono hc2 (fun a q => atS_scr (by omega) q)))⟩
    · refine z_iconst dX6_sendsOff_68 ?_
      refine q_goto (tgt := 73) dX6_sendsOff_69 (by decide) ?_
      exact s_zret dX6_sendsOff_73 rfl (by omega) ⟨by first | ((repeat (first | rw [if_pos (by omega)] | rw [if_neg (by omega)])); done) | (exfalso; omega), chg_tr s1 (chg_tr su (chg_mono hc2 (fun a q => atS_scr (by omega) q)))⟩
  · refine q_aload dX6_sendsOff_24 rfl ?_
    refine q_iload_n dX6_sendsOff_26 rfl rfl ?_
    refine q_iload_n dX6_sendsOff_27 rfl rfl ?_
    refine s_callV (ci := 2) (a := 364) (As := [.int (iZ (h : Int)), .int (iZ n)]) (S := []) dX6_sendsOff_28 okX2_takesGood mlX6_115 rfl (by omega) rfl (Nat.le_of_ble_eq_true rfl) (show kd 364 = 2 from rfl) (by decide) rfl (t_takesGood (d := d - 1) (s := 364) rfl σ1 hh (n := n) (by rw [t1.1 h hh]; unfold inR; omega)) (fun v_ σ_ hq => ?_)
    obtain ⟨rfl, e9⟩ := hq
    have e9 := e9.symm
    subst e9
    refine z_top (y := if A (11 + h) + n ≤ 99 then 1 else 0) (by rw [t1.1 h hh]) ?_
    show sE g_tt _ _ _ 31 [some (.ref 0), some (.int (iZ (p : Int))), some (.int (iZ (h : Int))), some (.int (iZ n)), some (.ref 364)] [.int (iZ (if A (11 + h) + n ≤ 99 then 1 else 0))] σ1
    refine z_if_ne (tgt := 36) dX6_sendsOff_31 (by decide) inR_01 (fun c_3 => ?_) (fun c_3 => ?_)
    · have c_3 := if01_1 c_3
      refine q_aload dX6_sendsOff_36 rfl ?_
      refine sg2 (kf := 0) (v := .ref 365) dX6_sendsOff_38 flX6_122 (show kd 364 = 2 from rfl) (by decide) rfl ?_
      refine q_iload_n dX6_sendsOff_41 rfl rfl ?_
      refine q_dup2 dX6_sendsOff_42 rfl rfl ?_
      refine s_iald (n := 8) (x := A (11 + h)) dX6_sendsOff_43 (show kd 365 = 100 + 8 from rfl) (by omega) (by omega) (by decide) (t1.1 h hh) ?_
      refine q_iload_n dX6_sendsOff_44 rfl rfl ?_
      refine z_iadd dX6_sendsOff_45 ?_
      refine s_iast (n := 8) dX6_sendsOff_46 (show kd 365 = 100 + 8 from rfl) (by omega) (by omega) (by decide) ?_
      refine q_aload dX6_sendsOff_47 rfl ?_
      refine q_aload_n dX6_sendsOff_49 rfl rfl ?_
      refine s_callV (ci := 6) (a := 0) (As := []) (S := [.ref 364]) dX6_sendsOff_50 okX6_rule mlX6_125 rfl (by omega) rfl (Nat.le_of_ble_eq_true rfl) (show kd 0 = 6 from rfl) (by decide) rfl (x_rule (d := d - 1) (by omega) (sR σ1 365 h (A (11 + h) + n)) hc hn4 ok oi CU) (fun v_ σ_ hq => ?_)
      obtain ⟨rfl, e9⟩ := hq
      have e9 := e9.symm
      subst e9
      show sE g_tt _ _ _ 53 [some (.ref 0), some (.int (iZ (p : Int))), some (.int (iZ (h : Int))), some (.int (iZ n)), some (.ref 364)] [.ref (txp (A 2)), .ref 364] (sR σ1 365 h ((A (11 + h)) + n))
      refine s_callV (ci := 2) (a := 364) (As := [.ref (txp (A 2))]) (S := []) dX6_sendsOff_53 okX2_settleBy mlX6_140 rfl (by omega) rfl (Nat.le_of_ble_eq_true rfl) (show kd 364 = 2 from rfl) (by decide) rfl (t_settle (d := d - 1) (s := 364) (by omega) rfl (sR σ1 365 h (A (11 + h) + n)) (CU.2.2.1 (A 2) a2.1 a2.2) (addn A h n) zF gU hU2 tU) (fun v_ σ_ hq => ?_)
      obtain ⟨rfl, hc2, ht2, hm2, hn2⟩ := hq
      rename gS => σ2
      show sE g_tt _ _ _ 56 [some (.ref 0), some (.int (iZ (p : Int))), some (.int (iZ (h : Int))), some (.int (iZ n)), some (.ref 364)] [.int (iZ ((mS W (addn A h n) zF).1.length : Int))] σ2
      refine q_pop dX6_sendsOff_56 rfl ?_
      refine q_aload dX6_sendsOff_57 rfl ?_
      refine sg2 (kf := 1) (v := .ref 366) dX6_sendsOff_59 flX6_190 (show kd 364 = 2 from rfl) (by decide) rfl ?_
      refine q_iload_n dX6_sendsOff_62 rfl rfl ?_
      refine s_iald (n := 5) (x := rA W (addn A h n) (19 + p)) dX6_sendsOff_63 (show kd 366 = 100 + 5 from rfl) (by omega) (by omega) (by decide) (ht2.2.1 p (by show (p : Int) < rA W (addn A h n) 0; rw [r0]; exact hp)) ?_
      refine z_iconst dX6_sendsOff_64 ?_
      refine z_icmp_ne (tgt := 72) dX6_sendsOff_65 (by decide) (by unfold inR at *; omega) (by unfold inR at *; omega) (fun c_4 => ?_) (fun c_4 => ?_)
      · refine z_iconst dX6_sendsOff_72 ?_
        exact s_zret dX6_sendsOff_73 rfl (by omega) ⟨by first | ((repeat (first | rw [if_pos (by omega)] | rw [if_neg (by omega)])); done) | (exfalso; omega), chg_tr s1 (chg_tr su (chg_mono hc2 (fun a q => atS_scr (by omega) q)))⟩
      · refine z_iconst dX6_sendsOff_68 ?_
        refine q_goto (tgt := 73) dX6_sendsOff_69 (by decide) ?_
        exact s_zret dX6_sendsOff_73 rfl (by omega) ⟨by first | ((repeat (first | rw [if_pos (by omega)] | rw [if_neg (by omega)])); done) | (exfalso; omega), chg_tr s1 (chg_tr su (chg_mono hc2 (fun a q => atS_scr (by omega) q)))⟩
    · have c_3 := if01_0 c_3
      refine z_iconst dX6_sendsOff_34 ?_
      exact s_zret dX6_sendsOff_35 rfl (by omega) ⟨by first | ((repeat (first | rw [if_pos (by omega)] | rw [if_neg (by omega)])); done) | (exfalso; omega), s1⟩
theorem offB_so (W : wF) (A : Nat → Int) (p h : Nat) {n : Int} (hn : 1 ≤ n) : (if (n ≤ 0 ∨ A (11 + h) + n ≤ 99) ∧ rA W (addn A h n) (19 + p) = -1 then (1 : Int) else 0) = offB W A p h n := by
  unfold offB
  by_cases q : A (11 + h) + n ≤ 99 ∧ rA W (addn A h n) (19 + p) = -1
  · rw [if_pos q, if_pos ⟨Or.inr q.1, q.2⟩]
  · rw [if_neg q, if_neg (fun z => q ⟨by omega, z.2⟩)]
theorem addn_0 (A : Nat → Int) (h : Nat) : addn A h 0 = A := by unfold addn; rw [Int.add_zero, va_up_id]
set_option maxHeartbeats 4000000 in
set_option maxRecDepth 100000 in
theorem lx_least1 {d p n : Nat} (hd : 7 ≤ d) (hn1 : 1 ≤ n) (hn20 : n ≤ 20) {u : Int} (hu : u = 0 ∨ u = 1) (σ : gS) {W V : wF} {A I : Nat → Int} {c nt : Int} (hc : c ≤ 88000) (hn4 : nt ≤ 4) (ok : okR c nt A) (oi : okR c (I 1) I) (C : clR σ W V A I) (hp : (p : Int) < A 0) (kc : ∀ (σ1 : gS) (l5 : Option Value), chg scrQ σ σ1 → fst1 (fun h => offB W A p h (n : Int)) 8 0 = -1 → sE g_tt mX6_least d (fun r σ' => r = some (.int (iZ (mLe W A p u (21 - n) n))) ∧ chg scrQ σ σ') 68 [some (.ref 0), some (.int (iZ (p : Int))), some (.int (iZ u)), some (.int (iZ (n : Int))), some (.int (iZ 8)), l5] [] σ1) : ∀ (f : Nat) (h : Nat) (σ1 : gS), h ≤ 8 → chg scrQ σ σ1 → fst1 (fun h => offB W A p h (n : Int)) (8 - h) h = fst1 (fun h => offB W A p h (n : Int)) 8 0 → 8 - (h : Int) < (f : Int) → sE g_tt mX6_least d (fun r σ' => r = some (.int (iZ (mLe W A p u (21 - n) n))) ∧ chg scrQ σ σ') 33 [some (.ref 0), some (.int (iZ (p : Int))), some (.int (iZ u)), some (.int (iZ (n : Int))), some (.int (iZ 8)), some (.int (iZ (h : Int)))] [] σ1 := by
  intro f
  induction f with
  | zero =>
    intro h σ1 hh s1 hfs hf
    exact absurd hf (by omega)
  | succ f ih =>
    intro h σ1 hh s1 hfs hf
    have C1 := clR_ch ok oi C s1
    refine q_iload dX6_least_33 rfl ?_
    refine q_iload dX6_least_35 rfl ?_
    refine z_icmp_ge (tgt := 68) dX6_least_37 (by decide) (by unfold inR at *; omega) (by unfold inR at *; omega) (fun c_1 => ?_) (fun c_1 => ?_)
    · exact kc σ1 _ s1 (by rw [← hfs, show 8 - h = 0 by omega, fst1])
    · refine q_aload_n dX6_least_40 rfl rfl ?_
      refine q_iload_n dX6_least_41 rfl rfl ?_
      refine q_iload dX6_least_42 rfl ?_
      refine q_iload_n dX6_least_44 rfl rfl ?_
      refine s_callV (ci := 6) (a := 0) (As := [.int (iZ (p : Int)), .int (iZ (h : Int)), .int (iZ (n : Int))]) (S := []) dX6_least_45 okX6_sendsOff mlX6_254 rfl (by omega) rfl (Nat.le_of_ble_eq_true rfl) (show kd 0 = 6 from rfl) (by decide) rfl (x_sendsOff (d := d - 1) (p := p) (h := h) (n := (n : Int)) (by omega) (by omega) (by omega) (by omega) σ1 hc hn4 ok oi C1 hp) (fun v_ σ_ hq => ?_)
      obtain ⟨rfl, hc2⟩ := hq
      rename gS => σ2
      have s2 := chg_tr s1 hc2
      refine z_top (offB_so W A p h (by omega)) ?_
      have o1 : offB W A p h (n : Int) = 0 ∨ offB W A p h (n : Int) = 1 := by unfold offB; exact if01
      show sE g_tt _ _ _ 48 [some (.ref 0), some (.int (iZ (p : Int))), some (.int (iZ u)), some (.int (iZ (n : Int))), some (.int (iZ 8)), some (.int (iZ (h : Int)))] [.int (iZ (offB W A p h (n : Int)))] σ2
      refine z_if_eq (tgt := 62) dX6_least_48 (by decide) (by unfold inR; omega) (fun c_2 => ?_) (fun c_2 => ?_)
      · refine z_iinc dX6_least_62 rfl (by decide) ?_
        show sE g_tt _ _ _ 65 [some (.ref 0), some (.int (iZ (p : Int))), some (.int (iZ u)), some (.int (iZ (n : Int))), some (.int (iZ 8)), some (.int (iZ ((h : Int) + 1)))] [] σ2
        refine q_goto (tgt := 33) dX6_least_65 (by decide) ?_
        refine ih (h + 1) σ2 (by omega) s2 ?_ (by omega)
        rw [← hfs, show 8 - h = (8 - (h + 1)) + 1 by omega, fst1, if_neg (by show ¬ offB W A p h (n : Int) = 1; omega)]
      · refine q_iload_n dX6_least_51 rfl rfl ?_
        refine z_if_eq (tgt := 60) dX6_least_52 (by decide) (by unfold inR at *; omega) (fun c_3 => ?_) (fun c_3 => ?_)
        · refine q_iload_n dX6_least_60 rfl rfl ?_
          exact s_iretZ dX6_least_61 rfl ⟨(by rw [show 21 - n = (21 - (n + 1)) + 1 by omega, mLe, show fst1 (fun h => offB W A p h (n : Int)) 8 0 = (h : Int) by rw [← hfs, show 8 - h = (8 - (h + 1)) + 1 by omega, fst1, if_pos (show offB W A p h (n : Int) = 1 by omega)]]; (repeat (first | rw [if_pos (by omega)] | rw [if_neg (by omega)]))), s2⟩
        · refine q_iload dX6_least_55 rfl ?_
          refine q_goto (tgt := 61) dX6_least_57 (by decide) ?_
          exact s_iretZ dX6_least_61 rfl ⟨(by rw [show 21 - n = (21 - (n + 1)) + 1 by omega, mLe, show fst1 (fun h => offB W A p h (n : Int)) 8 0 = (h : Int) by rw [← hfs, show 8 - h = (8 - (h + 1)) + 1 by omega, fst1, if_pos (show offB W A p h (n : Int) = 1 by omega)]]; (repeat (first | rw [if_pos (by omega)] | rw [if_neg (by omega)]))), s2⟩
set_option maxHeartbeats 4000000 in
set_option maxRecDepth 100000 in
theorem lx_least {d p : Nat} (hd : 7 ≤ d) {u : Int} (hu : u = 0 ∨ u = 1) (σ : gS) {W V : wF} {A I : Nat → Int} {c nt : Int} (hc : c ≤ 88000) (hn4 : nt ≤ 4) (ok : okR c nt A) (oi : okR c (I 1) I) (C : clR σ W V A I) (hp : (p : Int) < A 0) : ∀ (f : Nat) (n : Nat) (σ1 : gS) (l4 l5 : Option Value), 1 ≤ n → n ≤ 21 → chg scrQ σ σ1 → 21 - (n : Int) < (f : Int) → sE g_tt mX6_least d (fun r σ' => r = some (.int (iZ (mLe W A p u (21 - n) n))) ∧ chg scrQ σ σ') 12 [some (.ref 0), some (.int (iZ (p : Int))), some (.int (iZ u)), some (.int (iZ (n : Int))), l4, l5] [] σ1 := by
  intro f
  induction f with
  | zero =>
    intro n σ1 l4 l5 hn1 hn20 s1 hf
    exact absurd hf (by omega)
  | succ f ih =>
    intro n σ1 l4 l5 hn1 hn20 s1 hf
    have C1 := clR_ch ok oi C s1
    refine q_iload_n dX6_least_12 rfl rfl ?_
    refine z_bipush dX6_least_13 (by decide +kernel) ?_
    refine z_icmp_gt (tgt := 74) dX6_least_15 (by decide) (by unfold inR at *; omega) (by unfold inR at *; omega) (fun c_1 => ?_) (fun c_1 => ?_)
    · refine z_iconst dX6_least_74 ?_
      exact s_iretZ dX6_least_75 rfl ⟨by rw [show 21 - n = 0 by omega, mLe], s1⟩
    · refine q_iload_n dX6_least_18 rfl rfl ?_
      refine z_if_ne (tgt := 26) dX6_least_19 (by decide) (by unfold inR at *; omega) (fun c_2 => ?_) (fun c_2 => ?_)
      · refine z_bipush dX6_least_26 (by decide +kernel) ?_
        refine q_istore dX6_least_28 (by decide) ?_
        show sE g_tt _ _ _ 30 [some (.ref 0), some (.int (iZ (p : Int))), some (.int (iZ u)), some (.int (iZ (n : Int))), some (.int (iZ 8)), l5] [] σ1
        refine z_iconst dX6_least_30 ?_
        refine q_istore dX6_least_31 (by decide) ?_
        show sE g_tt _ _ _ 33 [some (.ref 0), some (.int (iZ (p : Int))), some (.int (iZ u)), some (.int (iZ (n : Int))), some (.int (iZ 8)), some (.int (iZ 0))] [] σ1
        refine lx_least1 hd (by omega) (by omega) hu σ hc hn4 ok oi C hp ?_ 9 0 σ1 (by omega) s1 rfl (by omega)
        intro σ2 l9 s2 hfn
        refine z_iinc dX6_least_68 rfl (by decide) ?_
        show sE g_tt _ _ _ 71 [some (.ref 0), some (.int (iZ (p : Int))), some (.int (iZ u)), some (.int (iZ ((n : Int) + 1))), some (.int (iZ 8)), l9] [] σ2
        refine q_goto (tgt := 12) dX6_least_71 (by decide) ?_
        rw [show 21 - n = (21 - (n + 1)) + 1 by omega, mLe, if_pos hfn]
        exact ih (n + 1) σ2 _ _ (by omega) (by omega) s2 (by omega)
      · exfalso
        omega
theorem offR_so (W : wF) (A : Nat → Int) (p : Nat) : (if ((0 : Int) ≤ 0 ∨ A (11 + 0) + 0 ≤ 99) ∧ rA W (addn A 0 0) (19 + p) = -1 then (1 : Int) else 0) = if rA W A (19 + p) = -1 then 1 else 0 := by
  rw [addn_0]
  by_cases z : rA W A (19 + p) = -1
  · rw [if_pos z, if_pos ⟨Or.inl (Int.le_refl _), z⟩]
  · rw [if_neg z, if_neg (fun y => z y.2)]
set_option maxHeartbeats 4000000 in
set_option maxRecDepth 100000 in
theorem x_least {d p : Nat} (hd : 7 ≤ d) (σ : gS) {W V : wF} {A I : Nat → Int} {c nt : Int} (hc : c ≤ 88000) (hn4 : nt ≤ 4) (ok : okR c nt A) (oi : okR c (I 1) I) (C : clR σ W V A I) (hp : (p : Int) < A 0) {u : Int} (hu : u = 0 ∨ u = 1) : sC mX6_least d [.ref 0, .int (iZ (p : Int)), .int (iZ u)] σ (fun r σ' => r = some (.int (iZ (if rA W A (19 + p) = -1 then 0 else mLe W A p u 20 1))) ∧ chg scrQ σ σ') := by
  have g := ok_gd hc hn4 ok
  have g0 := g.1
  have n1 := ok.2.2.1
  have a2 := ok_2 ok
  have g10 := g.2.2.2.2.1
  have gL : gd 100000 4 A := gd_mono g (by decide)
  have rk := rA_ok (w0_of C) gL a2.1 a2.2
  refine sC_of rfl (Nat.le_of_ble_eq_true rfl) ?_
  show sE g_tt _ _ _ 0 [some (.ref 0), some (.int (iZ (p : Int))), some (.int (iZ u)), none, none, none] [] σ
  refine q_aload_n dX6_least_0 rfl rfl ?_
  refine q_iload_n dX6_least_1 rfl rfl ?_
  refine s_callV (ci := 6) (a := 0) (As := [.int (iZ (p : Int))]) (S := []) dX6_least_2 okX6_isPerson mlX6_187 rfl (by omega) rfl (Nat.le_of_ble_eq_true rfl) (show kd 0 = 6 from rfl) (by decide) rfl (x_isPerson (d := d - 1) (p := (p : Int)) (by unfold inR at *; omega) σ hc hn4 ok oi C) (fun v_ σ_ hq => ?_)
  obtain ⟨rfl, e9⟩ := hq
  have e9 := e9.symm
  subst e9
  show sE g_tt _ _ _ 5 [some (.ref 0), some (.int (iZ (p : Int))), some (.int (iZ u)), none, none, none] [.int (iZ (if 0 ≤ (p : Int) ∧ (p : Int) < A 0 then 1 else 0))] σ
  refine z_if_ne (tgt := 10) dX6_least_5 (by decide) inR_01 (fun c_1 => ?_) (fun c_1 => ?_)
  · have c_1 := if01_1 c_1
    refine z_iconst dX6_least_10 ?_
    refine q_istore_n dX6_least_11 rfl (by decide) ?_
    show sE g_tt _ _ _ 12 [some (.ref 0), some (.int (iZ (p : Int))), some (.int (iZ u)), some (.int (iZ 0)), none, none] [] σ
    refine q_iload_n dX6_least_12 rfl rfl ?_
    refine z_bipush dX6_least_13 (by decide +kernel) ?_
    refine z_icmp_gt (tgt := 74) dX6_least_15 (by decide) (by unfold inR at *; omega) (by unfold inR at *; omega) (fun c_51 => ?_) (fun c_51 => ?_)
    · exfalso
      revert c_51
      decide
    · refine q_iload_n dX6_least_18 rfl rfl ?_
      refine z_if_ne (tgt := 26) dX6_least_19 (by decide) (by unfold inR at *; omega) (fun c_52 => ?_) (fun c_52 => ?_)
      · exfalso
        revert c_52
        decide
      · refine z_iconst dX6_least_22 ?_
        refine q_goto (tgt := 28) dX6_least_23 (by decide) ?_
        refine q_istore dX6_least_28 (by decide) ?_
        show sE g_tt _ _ _ 30 [some (.ref 0), some (.int (iZ (p : Int))), some (.int (iZ u)), some (.int (iZ 0)), some (.int (iZ 1)), none] [] σ
        refine z_iconst dX6_least_30 ?_
        refine q_istore dX6_least_31 (by decide) ?_
        show sE g_tt _ _ _ 33 [some (.ref 0), some (.int (iZ (p : Int))), some (.int (iZ u)), some (.int (iZ 0)), some (.int (iZ 1)), some (.int (iZ 0))] [] σ
        refine q_iload dX6_least_33 rfl ?_
        refine q_iload dX6_least_35 rfl ?_
        refine z_icmp_ge (tgt := 68) dX6_least_37 (by decide) (by unfold inR at *; omega) (by unfold inR at *; omega) (fun c_53 => ?_) (fun c_53 => ?_)
        · exfalso
          revert c_53
          decide
        · refine q_aload_n dX6_least_40 rfl rfl ?_
          refine q_iload_n dX6_least_41 rfl rfl ?_
          refine q_iload dX6_least_42 rfl ?_
          refine q_iload_n dX6_least_44 rfl rfl ?_
          refine s_callV (ci := 6) (a := 0) (As := [.int (iZ (p : Int)), .int (iZ 0), .int (iZ 0)]) (S := []) dX6_least_45 okX6_sendsOff mlX6_254 rfl (by omega) rfl (Nat.le_of_ble_eq_true rfl) (show kd 0 = 6 from rfl) (by decide) rfl (x_sendsOff (d := d - 1) (p := p) (h := 0) (n := 0) (by omega) (by omega) (by omega) (by omega) σ hc hn4 ok oi C hp) (fun v_ σ_ hq => ?_)
          obtain ⟨rfl, hc1⟩ := hq
          rename gS => σ1
          refine z_top (offR_so W A p) ?_
          show sE g_tt _ _ _ 48 [some (.ref 0), some (.int (iZ (p : Int))), some (.int (iZ u)), some (.int (iZ 0)), some (.int (iZ 1)), some (.int (iZ 0))] [.int (iZ (if rA W A (19 + p) = -1 then 1 else 0))] σ1
          refine z_if_eq (tgt := 62) dX6_least_48 (by decide) inR_01 (fun c_54 => ?_) (fun c_54 => ?_)
          · have c_54 := if01_0 c_54
            refine z_iinc dX6_least_62 rfl (by decide) ?_
            show sE g_tt _ _ _ 65 [some (.ref 0), some (.int (iZ (p : Int))), some (.int (iZ u)), some (.int (iZ 0)), some (.int (iZ 1)), some (.int (iZ 1))] [] σ1
            refine q_goto (tgt := 33) dX6_least_65 (by decide) ?_
            refine q_iload dX6_least_33 rfl ?_
            refine q_iload dX6_least_35 rfl ?_
            refine z_icmp_ge (tgt := 68) dX6_least_37 (by decide) (by unfold inR at *; omega) (by unfold inR at *; omega) (fun c_55 => ?_) (fun c_55 => ?_)
            · refine z_iinc dX6_least_68 rfl (by decide) ?_
              show sE g_tt _ _ _ 71 [some (.ref 0), some (.int (iZ (p : Int))), some (.int (iZ u)), some (.int (iZ 1)), some (.int (iZ 1)), some (.int (iZ 1))] [] σ1
              refine q_goto (tgt := 12) dX6_least_71 (by decide) ?_
              rw [if_neg c_54]
              exact lx_least hd hu σ hc hn4 ok oi C hp 21 1 σ1 _ _ (by omega) (by omega) hc1 (by omega)
            · exfalso
              revert c_55
              decide
          · have c_54 := if01_1 c_54
            refine q_iload_n dX6_least_51 rfl rfl ?_
            refine z_if_eq (tgt := 60) dX6_least_52 (by decide) (by unfold inR at *; omega) (fun c_56 => ?_) (fun c_56 => ?_)
            · refine q_iload_n dX6_least_60 rfl rfl ?_
              exact s_iretZ dX6_least_61 rfl ⟨by rw [if_pos (by assumption)], hc1⟩
            · refine q_iload dX6_least_55 rfl ?_
              refine q_goto (tgt := 61) dX6_least_57 (by decide) ?_
              exact s_iretZ dX6_least_61 rfl ⟨by rw [if_pos (by assumption)], hc1⟩
  · have c_1 := if01_0 c_1
    exfalso
    omega
set_option maxHeartbeats 4000000 in
set_option maxRecDepth 100000 in
theorem x_least0 {d : Nat} (hd : 1 ≤ d) {p u : Int} (hp : inR p) (σ : gS) {W V : wF} {A I : Nat → Int} {c nt : Int} (hc : c ≤ 88000) (hn4 : nt ≤ 4) (ok : okR c nt A) (oi : okR c (I 1) I) (C : clR σ W V A I) (hno : ¬ (0 ≤ p ∧ p < A 0)) : sC mX6_least d [.ref 0, .int (iZ p), .int (iZ u)] σ (fun r σ' => r = some (.int (iZ (-1))) ∧ σ' = σ) := by
  refine sC_of rfl (Nat.le_of_ble_eq_true rfl) ?_
  show sE g_tt _ _ _ 0 [some (.ref 0), some (.int (iZ p)), some (.int (iZ u)), none, none, none] [] σ
  refine q_aload_n dX6_least_0 rfl rfl ?_
  refine q_iload_n dX6_least_1 rfl rfl ?_
  refine s_callV (ci := 6) (a := 0) (As := [.int (iZ p)]) (S := []) dX6_least_2 okX6_isPerson mlX6_187 rfl (by omega) rfl (Nat.le_of_ble_eq_true rfl) (show kd 0 = 6 from rfl) (by decide) rfl (x_isPerson (d := d - 1) (p := p) (by unfold inR at *; omega) σ hc hn4 ok oi C) (fun v_ σ_ hq => ?_)
  obtain ⟨rfl, e9⟩ := hq
  have e9 := e9.symm
  subst e9
  show sE g_tt _ _ _ 5 [some (.ref 0), some (.int (iZ p)), some (.int (iZ u)), none, none, none] [.int (iZ (if 0 ≤ p ∧ p < A 0 then 1 else 0))] σ
  refine z_if_ne (tgt := 10) dX6_least_5 (by decide) inR_01 (fun c_1 => ?_) (fun c_1 => ?_)
  · have c_1 := if01_1 c_1
    exfalso
    omega
  · have c_1 := if01_0 c_1
    refine z_iconst dX6_least_8 ?_
    exact s_iretZ dX6_least_9 rfl ⟨rfl, rfl⟩
