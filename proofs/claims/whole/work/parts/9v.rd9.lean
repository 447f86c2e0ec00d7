/-! ===== the class's reader: readLaw ===== -/
theorem ex_len {t : Int} {tk st : Nat → Int} {B : rB} : (exB t tk st B).2.2.2.1 = B.2.2.2.1 := by unfold exB; split <;> rfl
def txP (x a : Nat) : Prop := a = 333 ∨ (x ≤ a ∧ a ≤ x + 4)
/-- a clause more: what the text's numbers (but length and far) and rows are -/
def clQ (σ1 σ' : gS) (x N : Nat) (a b c : Int) (g : Nat → Int) : Prop := chg (txP x) σ1 σ' ∧ σ'.1 x 9 = (N : Int) + 1 ∧ σ'.2.1 (x + 2) = va_up (σ1.2.1 (x + 2)) N a ∧ σ'.2.1 (x + 3) = va_up (σ1.2.1 (x + 3)) N b ∧ σ'.2.1 (x + 4) = va_up (σ1.2.1 (x + 4)) N c ∧ ∀ j, j ≠ 1 → j ≠ 10 → j ≠ 9 → σ'.1 x j = g j
theorem chg_rdP {σ σ1 : gS} {x : Nat} (h : chg (rdP x) σ σ1) : chg (txP x) σ σ1 := chg_mono h (fun a q => by unfold rdP at q; unfold txP; omega)
theorem row_o {σ σ1 : gS} {x : Nat} (hx : x ≠ 333 ∧ x + 2 ≠ 333 ∧ x + 3 ≠ 333 ∧ x + 4 ≠ 333) (h : chg (rdP x) σ σ1) : σ1.2.1 (x + 2) = σ.2.1 (x + 2) ∧ σ1.2.1 (x + 3) = σ.2.1 (x + 3) ∧ σ1.2.1 (x + 4) = σ.2.1 (x + 4) :=
  ⟨(h.1 _ (by unfold rdP; omega)).2.1, (h.1 _ (by unfold rdP; omega)).2.1, (h.1 _ (by unfold rdP; omega)).2.1⟩
theorem cl_ac {σ1 σ5 : gS} {x N : Nat} {a b c : Int} {g : Nat → Int} (h : chg (txP x) σ1 σ5) (r : σ5.2.1 (x + 2) = σ1.2.1 (x + 2) ∧ σ5.2.1 (x + 3) = σ1.2.1 (x + 3) ∧ σ5.2.1 (x + 4) = σ1.2.1 (x + 4)) (hg : ∀ j, j ≠ 1 → j ≠ 10 → σ5.1 x j = g j) : clQ σ1 (acS σ5 x N a b c) x N a b c g := by
  refine ⟨chg_tr h (chg_tr (chg_mono (chg_sR σ5 (x + 2) N a) (fun q e => Or.inr (by omega))) (chg_tr (chg_mono (chg_sR _ (x + 3) N b) (fun q e => Or.inr (by omega))) (chg_tr (chg_mono (chg_sR _ (x + 4) N c) (fun q e => Or.inr (by omega))) (chg_mono (chg_sI _ x 9 _) (fun q e => Or.inr (by omega)))))), up2_at σ5.1 x 9 ((N : Int) + 1), ?_, ?_, ?_, fun j h1 h10 h9 => (up2_k (a := x) (k := 9) (j := j) σ5.1 ((N : Int) + 1) h9).trans (hg j h1 h10)⟩
  · show up2 (up2 (up2 σ5.2.1 (x + 2) N a) (x + 3) N b) (x + 4) N c (x + 2) = _
    rw [up2_ne _ _ _ (by omega), up2_ne _ _ _ (by omega), up2_eq, r.1]
  · show up2 (up2 (up2 σ5.2.1 (x + 2) N a) (x + 3) N b) (x + 4) N c (x + 3) = _
    rw [up2_ne _ _ _ (by omega), up2_eq, up2_ne _ _ _ (by omega), r.2.1]
  · show up2 (up2 (up2 σ5.2.1 (x + 2) N a) (x + 3) N b) (x + 4) N c (x + 4) = _
    rw [up2_eq, up2_ne _ _ _ (by omega), up2_ne _ _ _ (by omega), r.2.2]
set_option maxHeartbeats 4000000 in
set_option maxRecDepth 100000 in
theorem x_readLaw0 {d N : Nat} (hd : 83 ≤ d) {σ1 : gS} {x n : Nat} {tk st nu : Nat → Int} {so : Int} (K : rdK σ1 x n tk st nu) {B : rB} (rd : rdR σ1 x tk so σ1 B) (ok : okB n B) (ht : tk B.2.2.1 ≠ 39) (h9 : σ1.1 x 9 = (N : Int)) (hN : N < 24) : sC mX1_readLaw d [.ref 333, .int (iZ 0)] σ1 (fun r σ' => r = none ∧ ∃ B', rdK σ' x n tk st nu ∧ rdR σ' x tk 1 σ' B' ∧ rdQ n st 1 B 55 2 (expc tk 35 ((lev tk nu (1 - 1) 8).2.1 (B.2.2.1 + 1))) B' ∧ ∃ l3 : Nat, B'.2.2.2.1 = l3 ∧ clQ σ1 σ' x N 0 0 0 (fun j => if j = 2 then (B.2.2.2.1 : Int) else if j = 3 then (l3 : Int) else σ1.1 x j)) := by
  refine sC_of rfl (Nat.le_of_ble_eq_true rfl) ?_
  show sE g_tt _ _ _ 0 [some (.ref 333), some (.int (iZ 0)), none] [] σ1
  refine q_aload_n dX1_readLaw_0 rfl rfl ?_
  refine q_iload_n dX1_readLaw_1 rfl rfl ?_
  refine z_if_ne (tgt := 9) dX1_readLaw_2 (by decide) (by unfold inR at *; omega) (fun c_1 => ?_) (fun c_1 => ?_)
  · exfalso
    revert c_1
    decide
  · refine z_iconst dX1_readLaw_5 ?_
    refine q_goto (tgt := 10) dX1_readLaw_6 (by decide) ?_
    refine sz1_4 dX1_readLaw_10 flX1_18 (show kd 333 = 1 from rfl) (by omega) ?_
    have KA := (rd_so K rd 1).1
    have rdA := (rd_so K rd 1).2
    refine q_aload_n dX1_readLaw_13 rfl rfl ?_
    refine sg1 (kf := 3) (v := .ref x) dX1_readLaw_14 flX1_32 (show kd 333 = 1 from rfl) (by decide) (by show some (va_rf ((sI σ1 333 4 1).2.2.2.2 333 3)) = _; rw [show (sI σ1 333 4 1).2.2.2.2 333 3 = some x from rdA.2.2.1]; rfl) ?_
    refine sg4 (kf := 1) (v := .int (iZ (B.2.2.2.1 : Int))) dX1_readLaw_17 flX1_81 K.1 (by decide) (by show some (Value.int (iZ ((sI σ1 333 4 1).1 x 1))) = _; rw [show (sI σ1 333 4 1).1 x 1 = (B.2.2.2.1 : Int) from rdA.2.2.2.2.2.2.2.2.1]) ?_
    refine q_istore_n dX1_readLaw_20 rfl (by decide) ?_
    show sE g_tt _ _ _ 21 [some (.ref 333), some (.int (iZ 0)), some (.int (iZ (B.2.2.2.1 : Int)))] [] (sI σ1 333 4 1)
    refine q_aload_n dX1_readLaw_21 rfl rfl ?_
    refine s_callV (ci := 1) (a := 333) (As := []) (S := []) dX1_readLaw_22 okX1_advance mlX1_56 rfl (by omega) rfl (Nat.le_of_ble_eq_true rfl) (show kd 333 = 1 from rfl) (by decide) rfl (x_advance (d := d - 1) KA rdA (k_lt K ok.2.1 ht)) (fun v_ σ_ hq => ?_)
    obtain ⟨rfl, rd2⟩ := hq
    rename gS => σ2
    show sE g_tt _ _ _ 25 [some (.ref 333), some (.int (iZ 0)), some (.int (iZ (B.2.2.2.1 : Int)))] [] σ2
    refine q_aload_n dX1_readLaw_25 rfl rfl ?_
    refine z_iconst dX1_readLaw_26 ?_
    refine s_callV (ci := 1) (a := 333) (As := [.int (iZ 0)]) (S := []) dX1_readLaw_27 okX1_readSum mlX1_84 rfl (by omega) rfl (Nat.le_of_ble_eq_true rfl) (show kd 333 = 1 from rfl) (by decide) rfl (x_sum0 KA (by omega) (d - 1) σ2 (adB B) (by omega) rd2 (okB_ad ok (k_lt K ok.2.1 ht))) (fun v_ σ_ hq => ?_)
    obtain ⟨rfl, B3, rd3, q3⟩ := hq
    rename gS => σ3
    show sE g_tt _ _ _ 30 [some (.ref 333), some (.int (iZ 0)), some (.int (iZ (B.2.2.2.1 : Int)))] [] σ3
    refine q_aload_n dX1_readLaw_30 rfl rfl ?_
    refine sg1 (kf := 4) (v := .int (iZ 1)) dX1_readLaw_31 flX1_18 (show kd 333 = 1 from rfl) (by decide) (by show some (Value.int (iZ ((σ3).1 333 4))) = _; rw [show (σ3).1 333 4 = 1 from rd3.2.2.2.2.2.1]) ?_
    refine z_if_eq (tgt := 62) dX1_readLaw_34 (by decide) (by unfold inR at *; omega) (fun c_2 => ?_) (fun c_2 => ?_)
    · exfalso
      revert c_2
      decide
    · refine q_aload_n dX1_readLaw_37 rfl rfl ?_
      refine sg1 (kf := 3) (v := .ref x) dX1_readLaw_38 flX1_32 (show kd 333 = 1 from rfl) (by decide) (by show some (va_rf ((σ3).2.2.2.2 333 3)) = _; rw [show (σ3).2.2.2.2 333 3 = some x from rd3.2.2.1]; rfl) ?_
      refine q_iload_n dX1_readLaw_41 rfl rfl ?_
      refine sp4 (kf := 2) dX1_readLaw_42 flX1_66 K.1 (by decide) ?_
      refine q_aload_n dX1_readLaw_45 rfl rfl ?_
      refine sg1 (kf := 3) (v := .ref x) dX1_readLaw_46 flX1_32 (show kd 333 = 1 from rfl) (by decide) (by show some (va_rf ((sI σ3 x 2 (B.2.2.2.1 : Int)).2.2.2.2 333 3)) = _; rw [show (sI σ3 x 2 (B.2.2.2.1 : Int)).2.2.2.2 333 3 = some x from rd3.2.2.1]; rfl) ?_
      refine q_aload_n dX1_readLaw_49 rfl rfl ?_
      refine sg1 (kf := 3) (v := .ref x) dX1_readLaw_50 flX1_32 (show kd 333 = 1 from rfl) (by decide) (by show some (va_rf ((sI σ3 x 2 (B.2.2.2.1 : Int)).2.2.2.2 333 3)) = _; rw [show (sI σ3 x 2 (B.2.2.2.1 : Int)).2.2.2.2 333 3 = some x from rd3.2.2.1]; rfl) ?_
      refine sg4 (kf := 1) (v := .int (iZ (B3.2.2.2.1 : Int))) dX1_readLaw_53 flX1_81 K.1 (by decide) (by show some (Value.int (iZ ((sI σ3 x 2 (B.2.2.2.1 : Int)).1 x 1))) = _; rw [show (sI σ3 x 2 (B.2.2.2.1 : Int)).1 x 1 = (B3.2.2.2.1 : Int) from (up2_k (a := x) (k := 2) (j := 1) σ3.1 (B.2.2.2.1 : Int) (by decide)).trans rd3.2.2.2.2.2.2.2.2.1]) ?_
      refine sp4 (kf := 3) dX1_readLaw_56 flX1_87 K.1 (by decide) ?_
      refine q_goto (tgt := 84) dX1_readLaw_59 (by decide) ?_
      refine q_aload_n dX1_readLaw_84 rfl rfl ?_
      refine z_bipush dX1_readLaw_85 (by decide +kernel) ?_
      refine s_callV (ci := 1) (a := 333) (As := [.int (iZ 35)]) (S := []) dX1_readLaw_87 okX1_expect mlX1_93 rfl (by omega) rfl (Nat.le_of_ble_eq_true rfl) (show kd 333 = 1 from rfl) (by decide) rfl (x_expect (d := d - 1) (by omega) (t := 35) (rd_txt (rd_txt (rd_self KA rd3).1 (rd_self KA rd3).2 (j := 2) (B.2.2.2.1 : Int) (by decide) (by decide)).1 (rd_txt (rd_self KA rd3).1 (rd_self KA rd3).2 (j := 2) (B.2.2.2.1 : Int) (by decide) (by decide)).2 (j := 3) (B3.2.2.2.1 : Int) (by decide) (by decide)).1 (rd_txt (rd_txt (rd_self KA rd3).1 (rd_self KA rd3).2 (j := 2) (B.2.2.2.1 : Int) (by decide) (by decide)).1 (rd_txt (rd_self KA rd3).1 (rd_self KA rd3).2 (j := 2) (B.2.2.2.1 : Int) (by decide) (by decide)).2 (j := 3) (B3.2.2.2.1 : Int) (by decide) (by decide)).2 q3.1 (by omega)) (fun v_ σ_ hq => ?_)
      obtain ⟨rfl, rd5⟩ := hq
      rename gS => σ5
      show sE g_tt _ _ _ 90 [some (.ref 333), some (.int (iZ 0)), some (.int (iZ (B.2.2.2.1 : Int)))] [] σ5
      have K5 : rdK (sI (sI σ3 x 2 (B.2.2.2.1 : Int)) x 3 (B3.2.2.2.1 : Int)) x n tk st nu := (rd_txt (rd_txt (rd_self KA rd3).1 (rd_self KA rd3).2 (j := 2) (B.2.2.2.1 : Int) (by decide) (by decide)).1 (rd_txt (rd_self KA rd3).1 (rd_self KA rd3).2 (j := 2) (B.2.2.2.1 : Int) (by decide) (by decide)).2 (j := 3) (B3.2.2.2.1 : Int) (by decide) (by decide)).1
      have xe := xne K
      have cA : chg (txP x) σ1 (sI σ1 333 4 1) := chg_mono (chg_sI σ1 333 4 1) (fun a q => Or.inl q)
      have c3 : chg (txP x) σ3 (sI (sI σ3 x 2 (B.2.2.2.1 : Int)) x 3 (B3.2.2.2.1 : Int)) := chg_tr (chg_mono (chg_sI σ3 x 2 (B.2.2.2.1 : Int)) (fun a q => Or.inr (by omega))) (chg_mono (chg_sI (sI σ3 x 2 (B.2.2.2.1 : Int)) x 3 (B3.2.2.2.1 : Int)) (fun a q => Or.inr (by omega)))
      have ch5 : chg (txP x) σ1 σ5 := chg_tr cA (chg_tr (chg_rdP rd3.1) (chg_tr c3 (chg_rdP rd5.1)))
      have r3 := row_o (by omega) rd3.1
      have r4 := row_o (by omega) rd5.1
      have r5 : σ5.2.1 (x + 2) = σ1.2.1 (x + 2) ∧ σ5.2.1 (x + 3) = σ1.2.1 (x + 3) ∧ σ5.2.1 (x + 4) = σ1.2.1 (x + 4) := ⟨r4.1.trans r3.1, r4.2.1.trans r3.2.1, r4.2.2.trans r3.2.2⟩
      have g5 : ∀ j, j ≠ 1 → j ≠ 10 → σ5.1 x j = (fun j => if j = 2 then (B.2.2.2.1 : Int) else if j = 3 then (B3.2.2.2.1 : Int) else σ1.1 x j) j := by
        intro j h1 h10
        rw [rd5.2.2.2.2.2.2.2.2.2.2.2 j h1 h10]
        show up2 (up2 σ3.1 x 2 (B.2.2.2.1 : Int)) x 3 (B3.2.2.2.1 : Int) x j = if j = 2 then (B.2.2.2.1 : Int) else if j = 3 then (B3.2.2.2.1 : Int) else σ1.1 x j
        by_cases e2 : j = 3
        · rw [if_neg (by omega), if_pos e2, e2, up2_at]
        · rw [up2_k (k := 3) (j := j) _ _ e2]
          by_cases e1 : j = 2
          · rw [if_pos e1, e1, up2_at]
          · rw [if_neg e1, if_neg e2, up2_k (k := 2) (j := j) _ _ e1, rd3.2.2.2.2.2.2.2.2.2.2.2 j h1 h10]
            show up2 σ1.1 333 4 1 x j = _
            rw [up2_ne _ _ _ xe.2.1]
      refine q_aload_n dX1_readLaw_90 rfl rfl ?_
      refine sg1 (kf := 3) (v := .ref x) dX1_readLaw_91 flX1_32 (show kd 333 = 1 from rfl) (by decide) (by show some (va_rf ((σ5).2.2.2.2 333 3)) = _; rw [show (σ5).2.2.2.2 333 3 = some x from rd5.2.2.1]; rfl) ?_
      refine q_iload_n dX1_readLaw_94 rfl rfl ?_
      refine z_iconst dX1_readLaw_95 ?_
      refine z_iconst dX1_readLaw_96 ?_
      refine s_callV (ci := 4) (a := x) (As := [.int (iZ 0), .int (iZ 0), .int (iZ 0)]) (S := []) dX1_readLaw_97 okX4_addClause mlX1_96 rfl (by omega) rfl (Nat.le_of_ble_eq_true rfl) K.1 (by decide) rfl (x_addClause (d := d - 1) (N := N) K.1 σ5 (a := 0) (b := 0) (c := 0) ((g5 9 (by decide) (by decide)).trans h9) (by omega)) (fun v_ σ_ hq => ?_)
      obtain ⟨rfl, e9⟩ := hq
      rw [if_pos hN] at e9
      subst e9
      show sE g_tt _ _ _ 100 [some (.ref 333), some (.int (iZ 0)), some (.int (iZ (B.2.2.2.1 : Int)))] [] (acS σ5 x N 0 0 0)
      exact s_vret dX1_readLaw_100 rfl ⟨rfl, _, (rd_ac (rd_self K5 rd5).1 (rd_self K5 rd5).2 N 0 0 0).1, (rd_ac (rd_self K5 rd5).1 (rd_self K5 rd5).2 N 0 0 0).2, rdQ_exp (by decide) K.2.2.2.1 (rdQ_ad q3), B3.2.2.2.1, ex_len, cl_ac ch5 r5 g5⟩
set_option maxHeartbeats 4000000 in
set_option maxRecDepth 100000 in
theorem x_readLaw1 {d N : Nat} (hd : 83 ≤ d) {σ1 : gS} {x n : Nat} {tk st nu : Nat → Int} {so : Int} (K : rdK σ1 x n tk st nu) {B : rB} (rd : rdR σ1 x tk so σ1 B) (ok : okB n B) (ht : tk B.2.2.1 ≠ 39) (h9 : σ1.1 x 9 = (N : Int)) (hN : N < 24) : sC mX1_readLaw d [.ref 333, .int (iZ 1)] σ1 (fun r σ' => r = none ∧ ∃ B', rdK σ' x n tk st nu ∧ rdR σ' x tk 0 σ' B' ∧ rdQ n st 0 B 55 2 (expc tk 35 ((lev tk nu (1 - 0) 8).2.1 (B.2.2.1 + 1))) B' ∧ ∃ l3 : Nat, B'.2.2.2.1 = l3 ∧ clQ σ1 σ' x N 1 0 0 (fun j => if j = 4 then (B.2.2.2.1 : Int) else if j = 5 then (l3 : Int) else σ1.1 x j)) := by
  refine sC_of rfl (Nat.le_of_ble_eq_true rfl) ?_
  show sE g_tt _ _ _ 0 [some (.ref 333), some (.int (iZ 1)), none] [] σ1
  refine q_aload_n dX1_readLaw_0 rfl rfl ?_
  refine q_iload_n dX1_readLaw_1 rfl rfl ?_
  refine z_if_ne (tgt := 9) dX1_readLaw_2 (by decide) (by unfold inR at *; omega) (fun c_1 => ?_) (fun c_1 => ?_)
  · refine z_iconst dX1_readLaw_9 ?_
    refine sz1_4 dX1_readLaw_10 flX1_18 (show kd 333 = 1 from rfl) (by omega) ?_
    have KA := (rd_so K rd 0).1
    have rdA := (rd_so K rd 0).2
    refine q_aload_n dX1_readLaw_13 rfl rfl ?_
    refine sg1 (kf := 3) (v := .ref x) dX1_readLaw_14 flX1_32 (show kd 333 = 1 from rfl) (by decide) (by show some (va_rf ((sI σ1 333 4 0).2.2.2.2 333 3)) = _; rw [show (sI σ1 333 4 0).2.2.2.2 333 3 = some x from rdA.2.2.1]; rfl) ?_
    refine sg4 (kf := 1) (v := .int (iZ (B.2.2.2.1 : Int))) dX1_readLaw_17 flX1_81 K.1 (by decide) (by show some (Value.int (iZ ((sI σ1 333 4 0).1 x 1))) = _; rw [show (sI σ1 333 4 0).1 x 1 = (B.2.2.2.1 : Int) from rdA.2.2.2.2.2.2.2.2.1]) ?_
    refine q_istore_n dX1_readLaw_20 rfl (by decide) ?_
    show sE g_tt _ _ _ 21 [some (.ref 333), some (.int (iZ 1)), some (.int (iZ (B.2.2.2.1 : Int)))] [] (sI σ1 333 4 0)
    refine q_aload_n dX1_readLaw_21 rfl rfl ?_
    refine s_callV (ci := 1) (a := 333) (As := []) (S := []) dX1_readLaw_22 okX1_advance mlX1_56 rfl (by omega) rfl (Nat.le_of_ble_eq_true rfl) (show kd 333 = 1 from rfl) (by decide) rfl (x_advance (d := d - 1) KA rdA (k_lt K ok.2.1 ht)) (fun v_ σ_ hq => ?_)
    obtain ⟨rfl, rd2⟩ := hq
    rename gS => σ2
    show sE g_tt _ _ _ 25 [some (.ref 333), some (.int (iZ 1)), some (.int (iZ (B.2.2.2.1 : Int)))] [] σ2
    refine q_aload_n dX1_readLaw_25 rfl rfl ?_
    refine z_iconst dX1_readLaw_26 ?_
    refine s_callV (ci := 1) (a := 333) (As := [.int (iZ 0)]) (S := []) dX1_readLaw_27 okX1_readSum mlX1_84 rfl (by omega) rfl (Nat.le_of_ble_eq_true rfl) (show kd 333 = 1 from rfl) (by decide) rfl (x_sum0 KA (by omega) (d - 1) σ2 (adB B) (by omega) rd2 (okB_ad ok (k_lt K ok.2.1 ht))) (fun v_ σ_ hq => ?_)
    obtain ⟨rfl, B3, rd3, q3⟩ := hq
    rename gS => σ3
    show sE g_tt _ _ _ 30 [some (.ref 333), some (.int (iZ 1)), some (.int (iZ (B.2.2.2.1 : Int)))] [] σ3
    refine q_aload_n dX1_readLaw_30 rfl rfl ?_
    refine sg1 (kf := 4) (v := .int (iZ 0)) dX1_readLaw_31 flX1_18 (show kd 333 = 1 from rfl) (by decide) (by show some (Value.int (iZ ((σ3).1 333 4))) = _; rw [show (σ3).1 333 4 = 0 from rd3.2.2.2.2.2.1]) ?_
    refine z_if_eq (tgt := 62) dX1_readLaw_34 (by decide) (by unfold inR at *; omega) (fun c_2 => ?_) (fun c_2 => ?_)
    · refine q_aload_n dX1_readLaw_62 rfl rfl ?_
      refine sg1 (kf := 3) (v := .ref x) dX1_readLaw_63 flX1_32 (show kd 333 = 1 from rfl) (by decide) (by show some (va_rf ((σ3).2.2.2.2 333 3)) = _; rw [show (σ3).2.2.2.2 333 3 = some x from rd3.2.2.1]; rfl) ?_
      refine q_iload_n dX1_readLaw_66 rfl rfl ?_
      refine sp4 (kf := 4) dX1_readLaw_67 flX1_69 K.1 (by decide) ?_
      refine q_aload_n dX1_readLaw_70 rfl rfl ?_
      refine sg1 (kf := 3) (v := .ref x) dX1_readLaw_71 flX1_32 (show kd 333 = 1 from rfl) (by decide) (by show some (va_rf ((sI σ3 x 4 (B.2.2.2.1 : Int)).2.2.2.2 333 3)) = _; rw [show (sI σ3 x 4 (B.2.2.2.1 : Int)).2.2.2.2 333 3 = some x from rd3.2.2.1]; rfl) ?_
      refine q_aload_n dX1_readLaw_74 rfl rfl ?_
      refine sg1 (kf := 3) (v := .ref x) dX1_readLaw_75 flX1_32 (show kd 333 = 1 from rfl) (by decide) (by show some (va_rf ((sI σ3 x 4 (B.2.2.2.1 : Int)).2.2.2.2 333 3)) = _; rw [show (sI σ3 x 4 (B.2.2.2.1 : Int)).2.2.2.2 333 3 = some x from rd3.2.2.1]; rfl) ?_
      refine sg4 (kf := 1) (v := .int (iZ (B3.2.2.2.1 : Int))) dX1_readLaw_78 flX1_81 K.1 (by decide) (by show some (Value.int (iZ ((sI σ3 x 4 (B.2.2.2.1 : Int)).1 x 1))) = _; rw [show (sI σ3 x 4 (B.2.2.2.1 : Int)).1 x 1 = (B3.2.2.2.1 : Int) from (up2_k (a := x) (k := 4) (j := 1) σ3.1 (B.2.2.2.1 : Int) (by decide)).trans rd3.2.2.2.2.2.2.2.2.1]) ?_
      refine sp4 (kf := 5) dX1_readLaw_81 flX1_90 K.1 (by decide) ?_
      refine q_aload_n dX1_readLaw_84 rfl rfl ?_
      refine z_bipush dX1_readLaw_85 (by decide +kernel) ?_
      refine s_callV (ci := 1) (a := 333) (As := [.int (iZ 35)]) (S := []) dX1_readLaw_87 okX1_expect mlX1_93 rfl (by omega) rfl (Nat.le_of_ble_eq_true rfl) (show kd 333 = 1 from rfl) (by decide) rfl (x_expect (d := d - 1) (by omega) (t := 35) (rd_txt (rd_txt (rd_self KA rd3).1 (rd_self KA rd3).2 (j := 4) (B.2.2.2.1 : Int) (by decide) (by decide)).1 (rd_txt (rd_self KA rd3).1 (rd_self KA rd3).2 (j := 4) (B.2.2.2.1 : Int) (by decide) (by decide)).2 (j := 5) (B3.2.2.2.1 : Int) (by decide) (by decide)).1 (rd_txt (rd_txt (rd_self KA rd3).1 (rd_self KA rd3).2 (j := 4) (B.2.2.2.1 : Int) (by decide) (by decide)).1 (rd_txt (rd_self KA rd3).1 (rd_self KA rd3).2 (j := 4) (B.2.2.2.1 : Int) (by decide) (by decide)).2 (j := 5) (B3.2.2.2.1 : Int) (by decide) (by decide)).2 q3.1 (by omega)) (fun v_ σ_ hq => ?_)
      obtain ⟨rfl, rd5⟩ := hq
      rename gS => σ5
      show sE g_tt _ _ _ 90 [some (.ref 333), some (.int (iZ 1)), some (.int (iZ (B.2.2.2.1 : Int)))] [] σ5
      have K5 : rdK (sI (sI σ3 x 4 (B.2.2.2.1 : Int)) x 5 (B3.2.2.2.1 : Int)) x n tk st nu := (rd_txt (rd_txt (rd_self KA rd3).1 (rd_self KA rd3).2 (j := 4) (B.2.2.2.1 : Int) (by decide) (by decide)).1 (rd_txt (rd_self KA rd3).1 (rd_self KA rd3).2 (j := 4) (B.2.2.2.1 : Int) (by decide) (by decide)).2 (j := 5) (B3.2.2.2.1 : Int) (by decide) (by decide)).1
      have xe := xne K
      have cA : chg (txP x) σ1 (sI σ1 333 4 0) := chg_mono (chg_sI σ1 333 4 0) (fun a q => Or.inl q)
      have c3 : chg (txP x) σ3 (sI (sI σ3 x 4 (B.2.2.2.1 : Int)) x 5 (B3.2.2.2.1 : Int)) := chg_tr (chg_mono (chg_sI σ3 x 4 (B.2.2.2.1 : Int)) (fun a q => Or.inr (by omega))) (chg_mono (chg_sI (sI σ3 x 4 (B.2.2.2.1 : Int)) x 5 (B3.2.2.2.1 : Int)) (fun a q => Or.inr (by omega)))
      have ch5 : chg (txP x) σ1 σ5 := chg_tr cA (chg_tr (chg_rdP rd3.1) (chg_tr c3 (chg_rdP rd5.1)))
      have r3 := row_o (by omega) rd3.1
      have r4 := row_o (by omega) rd5.1
      have r5 : σ5.2.1 (x + 2) = σ1.2.1 (x + 2) ∧ σ5.2.1 (x + 3) = σ1.2.1 (x + 3) ∧ σ5.2.1 (x + 4) = σ1.2.1 (x + 4) := ⟨r4.1.trans r3.1, r4.2.1.trans r3.2.1, r4.2.2.trans r3.2.2⟩
      have g5 : ∀ j, j ≠ 1 → j ≠ 10 → σ5.1 x j = (fun j => if j = 4 then (B.2.2.2.1 : Int) else if j = 5 then (B3.2.2.2.1 : Int) else σ1.1 x j) j := by
        intro j h1 h10
        rw [rd5.2.2.2.2.2.2.2.2.2.2.2 j h1 h10]
        show up2 (up2 σ3.1 x 4 (B.2.2.2.1 : Int)) x 5 (B3.2.2.2.1 : Int) x j = if j = 4 then (B.2.2.2.1 : Int) else if j = 5 then (B3.2.2.2.1 : Int) else σ1.1 x j
        by_cases e2 : j = 5
        · rw [if_neg (by omega), if_pos e2, e2, up2_at]
        · rw [up2_k (k := 5) (j := j) _ _ e2]
          by_cases e1 : j = 4
          · rw [if_pos e1, e1, up2_at]
          · rw [if_neg e1, if_neg e2, up2_k (k := 4) (j := j) _ _ e1, rd3.2.2.2.2.2.2.2.2.2.2.2 j h1 h10]
            show up2 σ1.1 333 4 0 x j = _
            rw [up2_ne _ _ _ xe.2.1]
      refine q_aload_n dX1_readLaw_90 rfl rfl ?_
      refine sg1 (kf := 3) (v := .ref x) dX1_readLaw_91 flX1_32 (show kd 333 = 1 from rfl) (by decide) (by show some (va_rf ((σ5).2.2.2.2 333 3)) = _; rw [show (σ5).2.2.2.2 333 3 = some x from rd5.2.2.1]; rfl) ?_
      refine q_iload_n dX1_readLaw_94 rfl rfl ?_
      refine z_iconst dX1_readLaw_95 ?_
      refine z_iconst dX1_readLaw_96 ?_
      refine s_callV (ci := 4) (a := x) (As := [.int (iZ 1), .int (iZ 0), .int (iZ 0)]) (S := []) dX1_readLaw_97 okX4_addClause mlX1_96 rfl (by omega) rfl (Nat.le_of_ble_eq_true rfl) K.1 (by decide) rfl (x_addClause (d := d - 1) (N := N) K.1 σ5 (a := 1) (b := 0) (c := 0) ((g5 9 (by decide) (by decide)).trans h9) (by omega)) (fun v_ σ_ hq => ?_)
      obtain ⟨rfl, e9⟩ := hq
      rw [if_pos hN] at e9
      subst e9
      show sE g_tt _ _ _ 100 [some (.ref 333), some (.int (iZ 1)), some (.int (iZ (B.2.2.2.1 : Int)))] [] (acS σ5 x N 1 0 0)
      exact s_vret dX1_readLaw_100 rfl ⟨rfl, _, (rd_ac (rd_self K5 rd5).1 (rd_self K5 rd5).2 N 1 0 0).1, (rd_ac (rd_self K5 rd5).1 (rd_self K5 rd5).2 N 1 0 0).2, rdQ_exp (by decide) K.2.2.2.1 (rdQ_ad q3), B3.2.2.2.1, ex_len, cl_ac ch5 r5 g5⟩
    · exfalso
      revert c_2
      decide
  · exfalso
    revert c_1
    decide
