/-! ===== period of the class ===== -/
theorem t_restKeyA {d s : Nat} (hs : kd s = 2) (σ : gS) {on : Int} {B : Nat → Int} {c nt : Int} (hc : c ≤ 100000) (g : gd c nt B) (tr : trS on σ s B) : sC mX2_restKey d [.ref s] σ (fun r σ' => r = some (.long (lZ (keyA B))) ∧ σ' = σ) := by
  have k := t_restKey (d := d) hs σ (fun j hj => by rw [tr.1 j hj]; exact gd_in hc g j hj)
  rw [show kKey (σ.2.1 (s + 1)) 8 = keyA B from kKey_eqv 8 (fun j hj => tr.1 j hj)] at k
  exact k
theorem sq_step (W : wF) (A : Nat → Int) (h : Nat) {n : Nat} (hn : 1 ≤ n) : sq W A h n = rA W (inc (sq W A h (n - 1)) h) := by
  obtain ⟨m, rfl⟩ : ∃ m, n = m + 1 := ⟨n - 1, by omega⟩
  rfl
theorem sq_ok {W : wF} {m : Int} (hW : w0 W m) {A : Nat → Int} (g : gd 100000 4 A) (h1 : -1 ≤ A 2) (h2 : A 2 < m) {h : Nat} (hh : h < 8) : ∀ n, gd 80 4 (sq W A h n) ∧ sq W A h n 2 = A 2 ∧ ∀ j, j < 8 → 0 ≤ sq W A h n (11 + j) ∧ sq W A h n (11 + j) ≤ 15 := by
  have key : ∀ B, gd 100000 4 B → B 2 = A 2 → gd 80 4 (rA W B) ∧ rA W B 2 = A 2 ∧ ∀ j, j < 8 → 0 ≤ rA W B (11 + j) ∧ rA W B (11 + j) ≤ 15 := by
    intro B gB e
    have r := rA_ok hW gB (by rw [e]; exact h1) (by rw [e]; exact h2)
    exact ⟨r.1, r.2.1.trans e, fun j hj => ⟨r.1.2.2.1 j hj, by have := r.2.2.1 j hj; omega⟩⟩
  intro n
  induction n with
  | zero => exact key A g rfl
  | succ n ih =>
    have io := inc_ok hW ih.1 (by rw [ih.2.1]; exact h1) (by rw [ih.2.1]; exact h2) hh
    exact key _ io.1 (by rw [inc_2]; exact ih.2.1)
set_option maxHeartbeats 4000000 in
set_option maxRecDepth 100000 in
theorem lx_period {d h : Nat} (hd : 7 ≤ d) (hh : h < 8) {u : Int} (hu : u = 0 ∨ u = 1) (σ : gS) {W V : wF} {A I : Nat → Int} {c nt : Int} (hc : c ≤ 88000) (hn4 : nt ≤ 4) (ok : okR c nt A) (oi : okR c (I 1) I) (C : clR σ W V A I) : ∀ (f : Nat) (n : Nat) (σ1 : gS) (l5 l6 l7 : Option Value), 1 ≤ n → n ≤ 101 → trS 0 σ1 364 (sq W A h (n - 1)) → chg scrQ σ σ1 → (∀ k, k < n → σ1.2.2.1 336 k = keyA (sq W A h k)) → 101 - (n : Int) < (f : Int) → sE g_tt mX6_period d (fun r σ' => r = some (.int (iZ (mPe W A h u (101 - n) n))) ∧ chg scrQ σ σ') 27 [some (.ref 0), some (.int (iZ (h : Int))), some (.int (iZ u)), some (.ref 364), some (.int (iZ (n : Int))), l5, l6, l7] [] σ1 := by
  intro f
  induction f with
  | zero =>
    intro n σ1 l5 l6 l7 hn1 hn2 tB s1 hH hf
    exact absurd hf (by omega)
  | succ f ih =>
    intro n σ1 l5 l6 l7 hn1 hn2 tB s1 hH hf
    have g := ok_gd hc hn4 ok
    have g0 := g.1
    have n1 := ok.2.2.1
    have a2 := ok_2 ok
    have g10 := g.2.2.2.2.1
    have gL : gd 100000 4 A := gd_mono g (by decide)
    have rk := rA_ok (w0_of C) gL a2.1 a2.2
    have C1 := clR_ch ok oi C s1
    have so := sq_ok (w0_of C) gL a2.1 a2.2 hh
    have gB := (so (n - 1)).1
    have hB2 := (so (n - 1)).2.1
    have kB := kd_ran gB hh
    have su : chg scrQ σ1 (sR σ1 365 h ((sq W A h (n - 1)) (11 + h) + 1)) := chg_mono (chg_sR σ1 365 h _) (fun a q => scr1 (by omega) q)
    have CU := clR_ch ok oi C1 su
    have tU : trS 0 (sR σ1 365 h ((sq W A h (n - 1)) (11 + h) + 1)) 364 (inc (sq W A h (n - 1)) h) := trS_kind tB hh _
    have io := inc_ok (w0_of C) gB (by omega) (by rw [hB2]; exact a2.2) hh
    have hI2 : inc (sq W A h (n - 1)) h 2 = A 2 := by rw [inc_2, hB2]
    refine q_iload dX6_period_27 rfl ?_
    refine z_bipush dX6_period_29 (by decide +kernel) ?_
    refine z_icmp_gt (tgt := 118) dX6_period_31 (by decide) (by unfold inR at *; omega) (by unfold inR at *; omega) (fun c_1 => ?_) (fun c_1 => ?_)
    · refine z_iconst dX6_period_118 ?_
      exact s_iretZ dX6_period_119 rfl ⟨by rw [show 101 - n = 0 by omega, mPe], s1⟩
    · refine q_aload_n dX6_period_34 rfl rfl ?_
      refine sg2 (kf := 0) (v := .ref 365) dX6_period_35 flX6_122 (show kd 364 = 2 from rfl) (by decide) rfl ?_
      refine q_iload_n dX6_period_38 rfl rfl ?_
      refine q_dup2 dX6_period_39 rfl rfl ?_
      refine s_iald (n := 8) (x := (sq W A h (n - 1)) (11 + h)) dX6_period_40 (show kd 365 = 100 + 8 from rfl) (by omega) (by omega) (by decide) (tB.1 h hh) ?_
      refine z_iconst dX6_period_41 ?_
      refine z_iadd dX6_period_42 ?_
      refine s_iast (n := 8) dX6_period_43 (show kd 365 = 100 + 8 from rfl) (by omega) (by omega) (by decide) ?_
      refine q_aload_n dX6_period_44 rfl rfl ?_
      refine q_aload_n dX6_period_45 rfl rfl ?_
      refine s_callV (ci := 6) (a := 0) (As := []) (S := [.ref 364]) dX6_period_46 okX6_rule mlX6_125 rfl (by omega) rfl (Nat.le_of_ble_eq_true rfl) (show kd 0 = 6 from rfl) (by decide) rfl (x_rule (d := d - 1) (by omega) (sR σ1 365 h ((sq W A h (n - 1)) (11 + h) + 1)) hc hn4 ok oi CU) (fun v_ σ_ hq => ?_)
      obtain ⟨rfl, e9⟩ := hq
      have e9 := e9.symm
      subst e9
      show sE g_tt _ _ _ 49 [some (.ref 0), some (.int (iZ (h : Int))), some (.int (iZ u)), some (.ref 364), some (.int (iZ (n : Int))), l5, l6, l7] [.ref (txp (A 2)), .ref 364] (sR σ1 365 h (((sq W A h (n - 1)) (11 + h)) + 1))
      refine s_callV (ci := 2) (a := 364) (As := [.ref (txp (A 2))]) (S := []) dX6_period_49 okX2_settleBy mlX6_140 rfl (by omega) rfl (Nat.le_of_ble_eq_true rfl) (show kd 364 = 2 from rfl) (by decide) rfl (t_settle (d := d - 1) (s := 364) (by omega) rfl (sR σ1 365 h ((sq W A h (n - 1)) (11 + h) + 1)) (CU.2.2.1 (A 2) a2.1 a2.2) (inc (sq W A h (n - 1)) h) zF io.1 hI2 tU) (fun v_ σ_ hq => ?_)
      obtain ⟨rfl, hc2, ht2, hm2, hn2⟩ := hq
      rename gS => σ2
      have tN : trS 0 σ2 364 (sq W A h n) := by rw [sq_step W A h hn1]; exact ht2
      have s2 : chg scrQ σ σ2 := chg_tr s1 (chg_tr su (chg_mono hc2 (fun a q => atS_scr (by omega) q)))
      have h2 : ∀ k, k < n → σ2.2.2.1 336 k = keyA (sq W A h k) := fun k hk => by rw [(hc2.1 336 (by unfold atS stkP; omega)).2.2.2]; exact hH k hk
      show sE g_tt _ _ _ 52 [some (.ref 0), some (.int (iZ (h : Int))), some (.int (iZ u)), some (.ref 364), some (.int (iZ (n : Int))), l5, l6, l7] [.int (iZ ((mS W (inc (sq W A h (n - 1)) h) zF).1.length : Int))] σ2
      refine q_pop dX6_period_52 rfl ?_
      refine q_aload_n dX6_period_53 rfl rfl ?_
      refine s_callV (ci := 2) (a := 364) (As := []) (S := []) dX6_period_54 okX2_restKey mlX6_250 rfl (by omega) rfl (Nat.le_of_ble_eq_true rfl) (show kd 364 = 2 from rfl) (by decide) rfl (t_restKeyA (d := d - 1) (s := 364) rfl σ2 (by decide) (so n).1 tN) (fun v_ σ_ hq => ?_)
      obtain ⟨rfl, e9⟩ := hq
      have e9 := e9.symm
      subst e9
      show sE g_tt _ _ _ 57 [some (.ref 0), some (.int (iZ (h : Int))), some (.int (iZ u)), some (.ref 364), some (.int (iZ (n : Int))), l5, l6, l7] [.long (lZ (keyA (sq W A h n)))] σ2
      refine q_lstore dX6_period_57 (by decide) ?_
      show sE g_tt _ _ _ 59 [some (.ref 0), some (.int (iZ (h : Int))), some (.int (iZ u)), some (.ref 364), some (.int (iZ (n : Int))), some (.long (lZ (keyA (sq W A h n)))), none, l7] [] σ2
      refine z_iconst dX6_period_59 ?_
      refine q_istore dX6_period_60 (by decide) ?_
      show sE g_tt _ _ _ 62 [some (.ref 0), some (.int (iZ (h : Int))), some (.int (iZ u)), some (.ref 364), some (.int (iZ (n : Int))), some (.long (lZ (keyA (sq W A h n)))), none, some (.int (iZ 0))] [] σ2
      refine lx_per1 hu (by omega) hh σ2 (fun k => keyA (sq W A h k)) (eqAt W A h n) h2 (fun k _ => keyA_ran (so k).2.2) (fun k _ => keyA_eq (so k).2.2 (so n).2.2) ?_ ?_ (n + 1) 0 (by omega) (by rw [Nat.sub_zero]) (by omega)
      · intro hfn l9
        rw [show 101 - n = (101 - (n + 1)) + 1 by omega, mPe, if_pos hfn]
        show sE g_tt _ _ _ 103 [some (.ref 0), some (.int (iZ (h : Int))), some (.int (iZ u)), some (.ref 364), some (.int (iZ (n : Int))), some (.long (lZ (keyA (sq W A h n)))), none, l9] [] σ2
        refine q_aload_n dX6_period_103 rfl rfl ?_
        refine sg6 (kf := 8) (v := .ref 336) dX6_period_104 flX6_56 (show kd 0 = 6 from rfl) (by decide) rfl ?_
        refine q_iload dX6_period_107 rfl ?_
        refine q_lload dX6_period_109 rfl ?_
        refine s_last (n := 101) dX6_period_111 (show kd 336 = 100000 + 101 from rfl) (by omega) (by omega) (by decide) ?_
        refine z_iinc dX6_period_112 rfl (by decide) ?_
        show sE g_tt _ _ _ 115 [some (.ref 0), some (.int (iZ (h : Int))), some (.int (iZ u)), some (.ref 364), some (.int (iZ ((n : Int) + 1))), some (.long (lZ (keyA (sq W A h n)))), none, l9] [] (sJ σ2 336 n (keyA (sq W A h n)))
        refine q_goto (tgt := 27) dX6_period_115 (by decide) ?_
        refine ih (n + 1) _ _ _ _ (by omega) (by omega) ?_ ?_ ?_ (by omega)
        · exact trS_ch tN (chg_sJ σ2 336 n _) (fun a x y => by omega)
        · exact chg_tr s2 (chg_mono (chg_sJ σ2 336 n _) (fun a q => Or.inr (Or.inr (Or.inl q))))
        · intro k hk
          by_cases e : k = n
          · rw [e]; exact up2_at σ2.2.2.1 336 n _
          · exact (up2_k σ2.2.2.1 _ e).trans (h2 k (by omega))
      · intro x hx y hy
        refine ⟨?_, s2⟩
        rw [show 101 - n = (101 - (n + 1)) + 1 by omega, mPe, if_neg (by rw [hx]; omega), hx, hy]
        unfold vPe
        rw [if_neg (show ¬ (x : Int) = -1 by omega)]
set_option maxHeartbeats 4000000 in
set_option maxRecDepth 100000 in
theorem x_period {d h : Nat} (hd : 7 ≤ d) (hh : h < 8) {u : Int} (hu : u = 0 ∨ u = 1) (σ : gS) {W V : wF} {A I : Nat → Int} {c nt : Int} (hc : c ≤ 88000) (hn4 : nt ≤ 4) (ok : okR c nt A) (oi : okR c (I 1) I) (C : clR σ W V A I) : sC mX6_period d [.ref 0, .int (iZ (h : Int)), .int (iZ u)] σ (fun r σ' => r = some (.int (iZ (mPe W A h u 100 1))) ∧ chg scrQ σ σ') := by
  have g := ok_gd hc hn4 ok
  have g0 := g.1
  have n1 := ok.2.2.1
  have a2 := ok_2 ok
  have g10 := g.2.2.2.2.1
  have gL : gd 100000 4 A := gd_mono g (by decide)
  have rk := rA_ok (w0_of C) gL a2.1 a2.2
  refine sC_of rfl (Nat.le_of_ble_eq_true rfl) ?_
  show sE g_tt _ _ _ 0 [some (.ref 0), some (.int (iZ (h : Int))), some (.int (iZ u)), none, none, none, none, none] [] σ
  refine q_iload_n dX6_period_0 rfl rfl ?_
  refine s_callS (As := [.int (iZ (h : Int))]) (S := []) dX6_period_1 okX6_isHouse mlX6_68 rfl (by omega) rfl (Nat.le_of_ble_eq_true rfl) (c_isHouse (d := d - 1) (z := (h : Int)) (by unfold inR at *; omega) σ) (fun v_ σ_ hq => ?_)
  obtain ⟨rfl, e9⟩ := hq
  have e9 := e9.symm
  subst e9
  show sE g_tt _ _ _ 4 [some (.ref 0), some (.int (iZ (h : Int))), some (.int (iZ u)), none, none, none, none, none] [.int (iZ (if 0 ≤ (h : Int) ∧ (h : Int) < 8 then 1 else 0))] σ
  refine z_if_ne (tgt := 9) dX6_period_4 (by decide) inR_01 (fun c_1 => ?_) (fun c_1 => ?_)
  · have c_1 := if01_1 c_1
    refine q_aload_n dX6_period_9 rfl rfl ?_
    refine s_callV (ci := 6) (a := 0) (As := []) (S := []) dX6_period_10 okX6_atRest mlX6_225 rfl (by omega) rfl (Nat.le_of_ble_eq_true rfl) (show kd 0 = 6 from rfl) (by decide) rfl (x_atRest (d := d - 1) (by omega) σ hc hn4 ok oi C) (fun v_ σ_ hq => ?_)
    obtain ⟨rfl, hc1, ht1, hm1, hn1⟩ := hq
    rename gS => σ1
    have C1 := clR_ch ok oi C hc1
    show sE g_tt _ _ _ 13 [some (.ref 0), some (.int (iZ (h : Int))), some (.int (iZ u)), none, none, none, none, none] [.ref 364] σ1
    refine q_astore_n dX6_period_13 rfl (by decide) ?_
    show sE g_tt _ _ _ 14 [some (.ref 0), some (.int (iZ (h : Int))), some (.int (iZ u)), some (.ref 364), none, none, none, none] [] σ1
    refine q_aload_n dX6_period_14 rfl rfl ?_
    refine sg6 (kf := 8) (v := .ref 336) dX6_period_15 flX6_56 (show kd 0 = 6 from rfl) (by decide) rfl ?_
    refine z_iconst dX6_period_18 ?_
    refine q_aload_n dX6_period_19 rfl rfl ?_
    refine s_callV (ci := 2) (a := 364) (As := []) (S := [.int (iZ 0), .ref 336]) dX6_period_20 okX2_restKey mlX6_250 rfl (by omega) rfl (Nat.le_of_ble_eq_true rfl) (show kd 364 = 2 from rfl) (by decide) rfl (t_restKeyA (d := d - 1) (s := 364) rfl σ1 (by decide) rk.1 ht1) (fun v_ σ_ hq => ?_)
    obtain ⟨rfl, e9⟩ := hq
    have e9 := e9.symm
    subst e9
    show sE g_tt _ _ _ 23 [some (.ref 0), some (.int (iZ (h : Int))), some (.int (iZ u)), some (.ref 364), none, none, none, none] [.long (lZ (keyA (sq W A h 0))), .int (iZ 0), .ref 336] σ1
    refine s_last (n := 101) dX6_period_23 (show kd 336 = 100000 + 101 from rfl) (by omega) (by omega) (by decide) ?_
    refine z_iconst dX6_period_24 ?_
    refine q_istore dX6_period_25 (by decide) ?_
    show sE g_tt _ _ _ 27 [some (.ref 0), some (.int (iZ (h : Int))), some (.int (iZ u)), some (.ref 364), some (.int (iZ 1)), none, none, none] [] (sJ σ1 336 0 (keyA (sq W A h 0)))
    refine lx_period hd hh hu σ hc hn4 ok oi C 101 1 _ _ _ _ (by omega) (by omega) ?_ ?_ ?_ (by omega)
    · exact trS_ch ht1 (chg_sJ σ1 336 0 _) (fun a x y => by omega)
    · exact chg_tr hc1 (chg_mono (chg_sJ σ1 336 0 _) (fun a q => Or.inr (Or.inr (Or.inl q))))
    · intro k hk
      rw [show k = 0 by omega]
      exact up2_at σ1.2.2.1 336 0 _
  · have c_1 := if01_0 c_1
    exfalso
    omega
set_option maxHeartbeats 4000000 in
set_option maxRecDepth 100000 in
theorem x_period0 {d : Nat} (hd : 1 ≤ d) {h u : Int} (hh : inR h) (hno : ¬ (0 ≤ h ∧ h < 8)) (σ : gS) : sC mX6_period d [.ref 0, .int (iZ h), .int (iZ u)] σ (fun r σ' => r = some (.int (iZ (-1))) ∧ σ' = σ) := by
  refine sC_of rfl (Nat.le_of_ble_eq_true rfl) ?_
  show sE g_tt _ _ _ 0 [some (.ref 0), some (.int (iZ h)), some (.int (iZ u)), none, none, none, none, none] [] σ
  refine q_iload_n dX6_period_0 rfl rfl ?_
  refine s_callS (As := [.int (iZ h)]) (S := []) dX6_period_1 okX6_isHouse mlX6_68 rfl (by omega) rfl (Nat.le_of_ble_eq_true rfl) (c_isHouse (d := d - 1) (z := h) (by unfold inR at *; omega) σ) (fun v_ σ_ hq => ?_)
  obtain ⟨rfl, e9⟩ := hq
  have e9 := e9.symm
  subst e9
  show sE g_tt _ _ _ 4 [some (.ref 0), some (.int (iZ h)), some (.int (iZ u)), none, none, none, none, none] [.int (iZ (if 0 ≤ h ∧ h < 8 then 1 else 0))] σ
  refine z_if_ne (tgt := 9) dX6_period_4 (by decide) inR_01 (fun c_1 => ?_) (fun c_1 => ?_)
  · have c_1 := if01_1 c_1
    exfalso
    omega
  · have c_1 := if01_0 c_1
    refine z_iconst dX6_period_7 ?_
    exact s_iretZ dX6_period_8 rfl ⟨rfl, rfl⟩
