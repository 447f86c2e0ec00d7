/-! ===== the class's reader: one level above another ===== -/
/-- a reading method keeps to p -/
def RC (σ : gS) (x n : Nat) (tk st : Nat → Int) (so : Int) (M : gM) (D : Nat) (o : Int) (nd : Nat) (p : Nat → rE) : Prop := ∀ (d : Nat) (σ1 : gS) (B : rB), D ≤ d → rdR σ x tk so σ1 B → okB n B → sC M d [.ref 333, .int (iZ o)] σ1 (fun r σ' => r = none ∧ ∃ B', rdR σ x tk so σ' B' ∧ rdQ n st so B nd 0 (p B.2.2.1) B')
theorem op_y {o : Int} {st : Nat → Int} {B : rB} (h : o < 8) : opB o st B = adB B := by unfold opB; rw [if_neg (by omega)]
theorem op_n {o : Int} {st : Nat → Int} {B : rB} (h : ¬ o < 8) : opB o st B = flB 3 st B := by unfold opB; rw [if_pos (by omega)]
theorem emP_r (B : rB) : inR (emP B) := by unfold emP inR; split <;> omega
set_option maxHeartbeats 4000000 in
set_option maxRecDepth 100000 in
theorem x_readOperand {d D nd : Nat} (hd : D + 2 ≤ d) {σ σ1 : gS} {x n : Nat} {tk st nu : Nat → Int} {so : Int} (K : rdK σ x n tk st nu) {B : rB} (rd : rdR σ x tk so σ1 B) (ok : okB n B) {o : Int} (ho : inR o) (ht : tk B.2.2.1 ≠ 39) {p : Nat → rE} (hp : ∀ k, 0 ≤ (p k).2.2.2) (low : o < 8 → RC σ x n tk st so mX1_readOne (D) (o + 1) (nd) (p)) {op : Nat} (hop : op < 64) (ht1 : cTk op = 1) (h12 : op ≠ 12) (h14 : op ≠ 14) : sC mX1_readOperand d [.ref 333, .int (iZ o), .int (iZ (op : Int))] σ1 (fun r σ' => r = none ∧ ∃ B', rdR σ x tk so σ' B' ∧ rdQ n st so B nd 0 (if 8 ≤ o then rF 3 B.2.2.1 else onU (op : Int) 0 (p (B.2.2.1 + 1))) B') := by
  have hk : B.2.2.1 ≤ n := ok.2.1
  have hn := K.2.2.1
  have hk1 : B.2.2.1 < n := k_lt K hk ht
  have okA : okB n (adB B) := okB_ad ok hk1
  refine sC_of rfl (Nat.le_of_ble_eq_true rfl) ?_
  show sE g_tt _ _ _ 0 [some (.ref 333), some (.int (iZ o)), some (.int (iZ (op : Int)))] [] σ1
  refine q_aload_n dX1_readOperand_0 rfl rfl ?_
  refine q_iload_n dX1_readOperand_1 rfl rfl ?_
  refine s_callV (ci := 1) (a := 333) (As := [.int (iZ o)]) (S := []) dX1_readOperand_2 okX1_opens mlX1_113 rfl (by omega) rfl (Nat.le_of_ble_eq_true rfl) (show kd 333 = 1 from rfl) (by decide) rfl (x_opens (d := d - 1) (by omega) (op := o) K rd ok ho ht) (fun v_ σ_ hq => ?_)
  obtain ⟨rfl, rd2⟩ := hq
  rename gS => σ2
  show sE g_tt _ _ _ 5 [some (.ref 333), some (.int (iZ o)), some (.int (iZ (op : Int)))] [.int (iZ (if o < 8 then 1 else 0))] σ2
  refine z_if_eq (tgt := 25) dX1_readOperand_5 (by decide) inR_01 (fun c_1 => ?_) (fun c_1 => ?_)
  · have c_1 := if01_0 c_1
    exact s_vret dX1_readOperand_25 rfl ⟨rfl, _, rd2, by rw [op_n c_1, if_pos (by omega)]; exact rdQ_fail (by omega) ok⟩
  · have c_1 := if01_1 c_1
    refine q_aload_n dX1_readOperand_8 rfl rfl ?_
    refine q_iload_n dX1_readOperand_9 rfl rfl ?_
    refine z_iconst dX1_readOperand_10 ?_
    refine z_iadd dX1_readOperand_11 ?_
    refine s_callV (ci := 1) (a := 333) (As := [.int (iZ (o + 1))]) (S := []) dX1_readOperand_12 okX1_readOne mlX1_110 rfl (by omega) rfl (Nat.le_of_ble_eq_true rfl) (show kd 333 = 1 from rfl) (by decide) rfl (low c_1 (d - 1) σ2 (adB B) (by omega) (by rw [← op_y (st := st) (B := B) c_1]; exact rd2) okA) (fun v_ σ_ hq => ?_)
    obtain ⟨rfl, B3, rd3, q3⟩ := hq
    rename gS => σ3
    show sE g_tt _ _ _ 15 [some (.ref 333), some (.int (iZ o)), some (.int (iZ (op : Int)))] [] σ3
    refine q_aload_n dX1_readOperand_15 rfl rfl ?_
    refine sg1 (kf := 3) (v := .ref x) dX1_readOperand_16 flX1_32 (show kd 333 = 1 from rfl) (by decide) (by show some (va_rf ((σ3).2.2.2.2 333 3)) = _; rw [show (σ3).2.2.2.2 333 3 = some x from rd3.2.2.1]; rfl) ?_
    refine q_iload_n dX1_readOperand_19 rfl rfl ?_
    refine z_iconst dX1_readOperand_20 ?_
    refine s_callV (ci := 4) (a := x) (As := [.int (iZ (op : Int)), .int (iZ 0)]) (S := []) dX1_readOperand_21 okX4_emit mlX1_107 rfl (by omega) rfl (Nat.le_of_ble_eq_true rfl) K.1 (by decide) rfl (x_emit (d := d - 1) (op := (op : Int)) (v := 0) K rd3 q3.1) (fun v_ σ_ hq => ?_)
    obtain ⟨rfl, rd4⟩ := hq
    rename gS => σ4
    show sE g_tt _ _ _ 24 [some (.ref 333), some (.int (iZ o)), some (.int (iZ (op : Int)))] [.int (iZ (emP B3))] σ4
    refine q_pop dX1_readOperand_24 rfl ?_
    exact s_vret dX1_readOperand_25 rfl ⟨rfl, _, rd4, by rw [if_neg (by omega)]; exact rdQ_un hop ht1 h12 h14 ok hn (hp _) (rdQ_ad q3)⟩
theorem ovX {n : Nat} {tk st : Nat → Int} {so : Int} {B B3 B5 : rB} {nd n1 : Nat} {p : Nat → rE} {k : Nat} (_ : 0 ≤ 0) (_ : 0 ≤ 0) (hnd : n1 + 1 ≤ nd) (h39 : tk n = 39) (ok : okB n B) (hn : n ≤ 300) (h1 : rdQ n st so B n1 1 (p k) B3) (h2 : rdQ n st so (exB 10 tk st B3) n1 0 (p (exB 10 tk st B3).2.2.1) B5) : rdQ n st so B nd 0 (ovR (p, p, p, p) (expc tk 10 (p k))) (emB 9 0 B5) := by
  have h1 := rdQ_exp (t := 10) (by decide) h39 h1
  have e : rdQ n st so B nd 0 (jnE 9 (expc tk 10 (p k)) (p (exB 10 tk st B3).2.2.1)) (emB 9 0 B5) := rdQ_join (by decide) (by decide) (by decide) (by decide) ok hn h1 h2 (by omega) (by omega) (by omega) (fun z => by omega)
  have q : B.1 = 0 → (expc tk 10 (p k)).1 = 0 → (exB 10 tk st B3).2.2.1 = (expc tk 10 (p k)).2.1 := fun a b => ((h1.2.2 a).1 b).2.2.1
  refine ⟨e.1, e.2.1, fun a => ?_⟩
  have z := e.2.2 a
  unfold jnE at z
  unfold ovR
  by_cases c : (expc tk 10 (p k)).1 = 0
  · rw [q a c] at z
    exact z
  · rw [if_neg c] at z ⊢
    exact z
set_option maxHeartbeats 4000000 in
set_option maxRecDepth 100000 in
theorem x_readOver {d D nd n1 : Nat} (hd : D + 2 ≤ d) (hnd : n1 + 1 ≤ nd) {σ σ1 : gS} {x n : Nat} {tk st nu : Nat → Int} {so : Int} (K : rdK σ x n tk st nu) {B : rB} (rd : rdR σ x tk so σ1 B) (ok : okB n B) {o : Int} (ho : inR o) (ht : tk B.2.2.1 ≠ 39) {p : Nat → rE} (low : o < 8 → RC σ x n tk st so mX1_readOne (D) (o + 1) (n1) (p)) : sC mX1_readOver d [.ref 333, .int (iZ o)] σ1 (fun r σ' => r = none ∧ ∃ B', rdR σ x tk so σ' B' ∧ rdQ n st so B nd 0 (if 8 ≤ o then rF 3 B.2.2.1 else ovR (p, p, p, p) (expc tk 10 (p (B.2.2.1 + 1)))) B') := by
  have hk : B.2.2.1 ≤ n := ok.2.1
  have hn := K.2.2.1
  have hk1 : B.2.2.1 < n := k_lt K hk ht
  have okA : okB n (adB B) := okB_ad ok hk1
  refine sC_of rfl (Nat.le_of_ble_eq_true rfl) ?_
  show sE g_tt _ _ _ 0 [some (.ref 333), some (.int (iZ o))] [] σ1
  refine q_aload_n dX1_readOver_0 rfl rfl ?_
  refine q_iload_n dX1_readOver_1 rfl rfl ?_
  refine s_callV (ci := 1) (a := 333) (As := [.int (iZ o)]) (S := []) dX1_readOver_2 okX1_opens mlX1_113 rfl (by omega) rfl (Nat.le_of_ble_eq_true rfl) (show kd 333 = 1 from rfl) (by decide) rfl (x_opens (d := d - 1) (by omega) (op := o) K rd ok ho ht) (fun v_ σ_ hq => ?_)
  obtain ⟨rfl, rd2⟩ := hq
  rename gS => σ2
  show sE g_tt _ _ _ 5 [some (.ref 333), some (.int (iZ o))] [.int (iZ (if o < 8 then 1 else 0))] σ2
  refine z_if_eq (tgt := 39) dX1_readOver_5 (by decide) inR_01 (fun c_1 => ?_) (fun c_1 => ?_)
  · have c_1 := if01_0 c_1
    exact s_vret dX1_readOver_39 rfl ⟨rfl, _, rd2, by rw [op_n c_1, if_pos (by omega)]; exact rdQ_fail (by omega) ok⟩
  · have c_1 := if01_1 c_1
    refine q_aload_n dX1_readOver_8 rfl rfl ?_
    refine q_iload_n dX1_readOver_9 rfl rfl ?_
    refine z_iconst dX1_readOver_10 ?_
    refine z_iadd dX1_readOver_11 ?_
    refine s_callV (ci := 1) (a := 333) (As := [.int (iZ (o + 1))]) (S := []) dX1_readOver_12 okX1_readOne mlX1_110 rfl (by omega) rfl (Nat.le_of_ble_eq_true rfl) (show kd 333 = 1 from rfl) (by decide) rfl (low c_1 (d - 1) σ2 (adB B) (by omega) (by rw [← op_y (st := st) (B := B) c_1]; exact rd2) okA) (fun v_ σ_ hq => ?_)
    obtain ⟨rfl, B3, rd3, q3⟩ := hq
    rename gS => σ3
    show sE g_tt _ _ _ 15 [some (.ref 333), some (.int (iZ o))] [] σ3
    refine q_aload_n dX1_readOver_15 rfl rfl ?_
    refine z_bipush dX1_readOver_16 (by decide +kernel) ?_
    refine s_callV (ci := 1) (a := 333) (As := [.int (iZ 10)]) (S := []) dX1_readOver_18 okX1_expect mlX1_93 rfl (by omega) rfl (Nat.le_of_ble_eq_true rfl) (show kd 333 = 1 from rfl) (by decide) rfl (x_expect (d := d - 1) (by omega) (t := 10) K rd3 q3.1 (by omega)) (fun v_ σ_ hq => ?_)
    obtain ⟨rfl, rd4⟩ := hq
    rename gS => σ4
    show sE g_tt _ _ _ 21 [some (.ref 333), some (.int (iZ o))] [] σ4
    refine q_aload_n dX1_readOver_21 rfl rfl ?_
    refine q_iload_n dX1_readOver_22 rfl rfl ?_
    refine z_iconst dX1_readOver_23 ?_
    refine z_iadd dX1_readOver_24 ?_
    refine s_callV (ci := 1) (a := 333) (As := [.int (iZ (o + 1))]) (S := []) dX1_readOver_25 okX1_readOne mlX1_110 rfl (by omega) rfl (Nat.le_of_ble_eq_true rfl) (show kd 333 = 1 from rfl) (by decide) rfl (low c_1 (d - 1) σ4 (exB 10 tk st B3) (by omega) rd4 (okB_ex (by decide) K.2.2.2.1 q3.1)) (fun v_ σ_ hq => ?_)
    obtain ⟨rfl, B5, rd5, q5⟩ := hq
    rename gS => σ5
    show sE g_tt _ _ _ 28 [some (.ref 333), some (.int (iZ o))] [] σ5
    refine q_aload_n dX1_readOver_28 rfl rfl ?_
    refine sg1 (kf := 3) (v := .ref x) dX1_readOver_29 flX1_32 (show kd 333 = 1 from rfl) (by decide) (by show some (va_rf ((σ5).2.2.2.2 333 3)) = _; rw [show (σ5).2.2.2.2 333 3 = some x from rd5.2.2.1]; rfl) ?_
    refine z_bipush dX1_readOver_32 (by decide +kernel) ?_
    refine z_iconst dX1_readOver_34 ?_
    refine s_callV (ci := 4) (a := x) (As := [.int (iZ 9), .int (iZ 0)]) (S := []) dX1_readOver_35 okX4_emit mlX1_107 rfl (by omega) rfl (Nat.le_of_ble_eq_true rfl) K.1 (by decide) rfl (x_emit (d := d - 1) (op := 9) (v := 0) K rd5 q5.1) (fun v_ σ_ hq => ?_)
    obtain ⟨rfl, rd6⟩ := hq
    rename gS => σ6
    show sE g_tt _ _ _ 38 [some (.ref 333), some (.int (iZ o))] [.int (iZ (emP B5))] σ6
    refine q_pop dX1_readOver_38 rfl ?_
    exact s_vret dX1_readOver_39 rfl ⟨rfl, _, rd6, by rw [if_neg (by omega)]; exact ovX (tk := tk) (by omega) (by omega) hnd K.2.2.2.1 ok hn (rdQ_ad q3) q5⟩
theorem ifY {n : Nat} {tk st : Nat → Int} {so : Int} {B B' : rB} {nd s : Nat} {c : rE} {low : lQ} {k1 k2 : Nat} (h : rdQ n st so B nd s (ifX c (expc tk 14 (low.2.1 k1)) (expc tk 15 (low.2.1 k2))) B') (e1 : B.1 = 0 → c.1 = 0 → k1 = c.2.1) (e2 : B.1 = 0 → c.1 = 0 → (expc tk 14 (low.2.1 k1)).1 = 0 → k2 = (expc tk 14 (low.2.1 k1)).2.1) : rdQ n st so B nd s (ifT tk low c) B' := by
  refine ⟨h.1, h.2.1, fun a => ?_⟩
  have z := h.2.2 a
  unfold ifX at z
  unfold ifT
  by_cases c1 : c.1 = 0
  · have e1 := e1 a c1
    have e2 := e2 a c1
    subst e1
    rw [if_pos c1] at z
    rw [if_pos c1]
    unfold ifE
    by_cases c2 : (expc tk 14 (low.2.1 c.2.1)).1 = 0
    · have e2 := e2 c2
      subst e2
      rw [if_pos c2] at z
      rw [if_pos c2]
      exact z
    · rw [if_neg c2] at z
      rw [if_neg c2]
      exact z
  · rw [if_neg c1] at z
    rw [if_neg c1]
    exact z
theorem ifZ {n : Nat} {tk st : Nat → Int} {so : Int} {B B3 B6 B10 : rB} {nd n1 n2 : Nat} {low : lQ} {e : Nat → rE} {k : Nat} (h39 : tk n = 39) (hn : n ≤ 300) (ok : okB n B) (q3 : rdQ n st so (adB B) n1 0 (e k) B3) (q6 : rdQ n st so (emB 12 0 (exB 13 tk st B3)) n2 0 (low.2.1 (emB 12 0 (exB 13 tk st B3)).2.2.1) B6) (q10 : rdQ n st so (laB (emP (exB 13 tk st B3)) (emB 14 0 (exB 14 tk st B6))) n2 0 (low.2.1 (laB (emP (exB 13 tk st B3)) (emB 14 0 (exB 14 tk st B6))).2.2.1) B10) (m1 : n1 ≤ nd) (m2 : n2 ≤ nd) (m : 2 ≤ nd) : rdQ n st so B nd 0 (ifT tk low (expc tk 13 (e k))) (laB (emP (exB 14 tk st B6)) (exB 15 tk st B10)) := by
  have a1 := rdQ_exp (t := 13) (by decide) h39 (rdQ_ad q3)
  have a2 := rdQ_exp (t := 14) (by decide) h39 q6
  have a3 := rdQ_exp (t := 15) (by decide) h39 q10
  refine ifY (rdQ_if hn ok a1 a2 a3 m1 m2 m2 m) (fun x y => ((a1.2.2 x).1 y).2.2.1) (fun x y w => ?_)
  have g := (a1.2.2 x).1 y
  exact ((a2.2.2 g.1).1 w).2.2.1
theorem ifO1 {n : Nat} {tk st : Nat → Int} {so : Int} {B B3 : rB} {n1 : Nat} {e : Nat → rE} {k : Nat} (h39 : tk n = 39) (ok : okB n B) (q3 : rdQ n st so (adB B) n1 0 (e k) B3) : okB n (emB 12 0 (exB 13 tk st B3)) := by
  have a1 := rdQ_exp (t := 13) (by decide) h39 (rdQ_ad q3)
  exact okB_em (by omega) a1.1 (rdQ_room ok a1)
theorem ifO2 {n : Nat} {tk st : Nat → Int} {so : Int} {B6 B5 : rB} {n1 : Nat} {r : rE} (h39 : tk n = 39) (ok : okB n B5) (q6 : rdQ n st so B5 n1 0 r B6) : okB n (emB 14 0 (exB 14 tk st B6)) := by
  have a1 := rdQ_exp (t := 14) (by decide) h39 q6
  exact okB_em (by omega) a1.1 (rdQ_room ok a1)
set_option maxHeartbeats 4000000 in
set_option maxRecDepth 100000 in
theorem x_readIf {d D nd nS nE : Nat} (hd : D + 2 ≤ d) (h1 : nE ≤ nd) (h2 : nS ≤ nd) (h3 : 2 ≤ nd) {σ σ1 : gS} {x n : Nat} {tk st nu : Nat → Int} {so : Int} (K : rdK σ x n tk st nu) {B : rB} (rd : rdR σ x tk so σ1 B) (ok : okB n B) {o : Int} (ho : inR o) (ht : tk B.2.2.1 ≠ 39) {low : lQ} {e : Nat → rE} (lowS : o < 8 → RC σ x n tk st so mX1_readSum (D) (o + 1) (nS) (low.2.1)) (lowE : o < 8 → RC σ x n tk st so mX1_readEither (D) (o + 1) (nE) (e)) : sC mX1_readIf d [.ref 333, .int (iZ o)] σ1 (fun r σ' => r = none ∧ ∃ B', rdR σ x tk so σ' B' ∧ rdQ n st so B nd 0 (if 8 ≤ o then rF 3 B.2.2.1 else ifT tk low (expc tk 13 (e (B.2.2.1 + 1)))) B') := by
  have hk : B.2.2.1 ≤ n := ok.2.1
  have hn := K.2.2.1
  have hk1 : B.2.2.1 < n := k_lt K hk ht
  have okA : okB n (adB B) := okB_ad ok hk1
  refine sC_of rfl (Nat.le_of_ble_eq_true rfl) ?_
  show sE g_tt _ _ _ 0 [some (.ref 333), some (.int (iZ o)), none, none] [] σ1
  refine q_aload_n dX1_readIf_0 rfl rfl ?_
  refine q_iload_n dX1_readIf_1 rfl rfl ?_
  refine s_callV (ci := 1) (a := 333) (As := [.int (iZ o)]) (S := []) dX1_readIf_2 okX1_opens mlX1_113 rfl (by omega) rfl (Nat.le_of_ble_eq_true rfl) (show kd 333 = 1 from rfl) (by decide) rfl (x_opens (d := d - 1) (by omega) (op := o) K rd ok ho ht) (fun v_ σ_ hq => ?_)
  obtain ⟨rfl, rd2⟩ := hq
  rename gS => σ2
  show sE g_tt _ _ _ 5 [some (.ref 333), some (.int (iZ o)), none, none] [.int (iZ (if o < 8 then 1 else 0))] σ2
  refine z_if_eq (tgt := 85) dX1_readIf_5 (by decide) inR_01 (fun c_1 => ?_) (fun c_1 => ?_)
  · have c_1 := if01_0 c_1
    exact s_vret dX1_readIf_85 rfl ⟨rfl, _, rd2, by rw [op_n c_1, if_pos (by omega)]; exact rdQ_fail (by omega) ok⟩
  · have c_1 := if01_1 c_1
    refine q_aload_n dX1_readIf_8 rfl rfl ?_
    refine q_iload_n dX1_readIf_9 rfl rfl ?_
    refine z_iconst dX1_readIf_10 ?_
    refine z_iadd dX1_readIf_11 ?_
    refine s_callV (ci := 1) (a := 333) (As := [.int (iZ (o + 1))]) (S := []) dX1_readIf_12 okX1_readEither mlX1_133 rfl (by omega) rfl (Nat.le_of_ble_eq_true rfl) (show kd 333 = 1 from rfl) (by decide) rfl (lowE c_1 (d - 1) σ2 (adB B) (by omega) (by rw [← op_y (st := st) (B := B) c_1]; exact rd2) okA) (fun v_ σ_ hq => ?_)
    obtain ⟨rfl, B3, rd3, q3⟩ := hq
    rename gS => σ3
    show sE g_tt _ _ _ 15 [some (.ref 333), some (.int (iZ o)), none, none] [] σ3
    refine q_aload_n dX1_readIf_15 rfl rfl ?_
    refine z_bipush dX1_readIf_16 (by decide +kernel) ?_
    refine s_callV (ci := 1) (a := 333) (As := [.int (iZ 13)]) (S := []) dX1_readIf_18 okX1_expect mlX1_93 rfl (by omega) rfl (Nat.le_of_ble_eq_true rfl) (show kd 333 = 1 from rfl) (by decide) rfl (x_expect (d := d - 1) (by omega) (t := 13) K rd3 q3.1 (by omega)) (fun v_ σ_ hq => ?_)
    obtain ⟨rfl, rd4⟩ := hq
    rename gS => σ4
    show sE g_tt _ _ _ 21 [some (.ref 333), some (.int (iZ o)), none, none] [] σ4
    refine q_aload_n dX1_readIf_21 rfl rfl ?_
    refine sg1 (kf := 3) (v := .ref x) dX1_readIf_22 flX1_32 (show kd 333 = 1 from rfl) (by decide) (by show some (va_rf ((σ4).2.2.2.2 333 3)) = _; rw [show (σ4).2.2.2.2 333 3 = some x from rd4.2.2.1]; rfl) ?_
    refine z_bipush dX1_readIf_25 (by decide +kernel) ?_
    refine z_iconst dX1_readIf_27 ?_
    refine s_callV (ci := 4) (a := x) (As := [.int (iZ 12), .int (iZ 0)]) (S := []) dX1_readIf_28 okX4_emit mlX1_107 rfl (by omega) rfl (Nat.le_of_ble_eq_true rfl) K.1 (by decide) rfl (x_emit (d := d - 1) (op := 12) (v := 0) K rd4 (okB_ex (by decide) K.2.2.2.1 q3.1)) (fun v_ σ_ hq => ?_)
    obtain ⟨rfl, rd5⟩ := hq
    rename gS => σ5
    show sE g_tt _ _ _ 31 [some (.ref 333), some (.int (iZ o)), none, none] [.int (iZ (emP (exB 13 tk st B3)))] σ5
    refine q_istore_n dX1_readIf_31 rfl (by decide) ?_
    show sE g_tt _ _ _ 32 [some (.ref 333), some (.int (iZ o)), some (.int (iZ (emP (exB 13 tk st B3)))), none] [] σ5
    refine q_aload_n dX1_readIf_32 rfl rfl ?_
    refine q_iload_n dX1_readIf_33 rfl rfl ?_
    refine z_iconst dX1_readIf_34 ?_
    refine z_iadd dX1_readIf_35 ?_
    refine s_callV (ci := 1) (a := 333) (As := [.int (iZ (o + 1))]) (S := []) dX1_readIf_36 okX1_readSum mlX1_84 rfl (by omega) rfl (Nat.le_of_ble_eq_true rfl) (show kd 333 = 1 from rfl) (by decide) rfl (lowS c_1 (d - 1) σ5 (emB 12 0 (exB 13 tk st B3)) (by omega) rd5 (ifO1 K.2.2.2.1 ok q3)) (fun v_ σ_ hq => ?_)
    obtain ⟨rfl, B6, rd6, q6⟩ := hq
    rename gS => σ6
    show sE g_tt _ _ _ 39 [some (.ref 333), some (.int (iZ o)), some (.int (iZ (emP (exB 13 tk st B3)))), none] [] σ6
    refine q_aload_n dX1_readIf_39 rfl rfl ?_
    refine z_bipush dX1_readIf_40 (by decide +kernel) ?_
    refine s_callV (ci := 1) (a := 333) (As := [.int (iZ 14)]) (S := []) dX1_readIf_42 okX1_expect mlX1_93 rfl (by omega) rfl (Nat.le_of_ble_eq_true rfl) (show kd 333 = 1 from rfl) (by decide) rfl (x_expect (d := d - 1) (by omega) (t := 14) K rd6 q6.1 (by omega)) (fun v_ σ_ hq => ?_)
    obtain ⟨rfl, rd7⟩ := hq
    rename gS => σ7
    show sE g_tt _ _ _ 45 [some (.ref 333), some (.int (iZ o)), some (.int (iZ (emP (exB 13 tk st B3)))), none] [] σ7
    refine q_aload_n dX1_readIf_45 rfl rfl ?_
    refine sg1 (kf := 3) (v := .ref x) dX1_readIf_46 flX1_32 (show kd 333 = 1 from rfl) (by decide) (by show some (va_rf ((σ7).2.2.2.2 333 3)) = _; rw [show (σ7).2.2.2.2 333 3 = some x from rd7.2.2.1]; rfl) ?_
    refine z_bipush dX1_readIf_49 (by decide +kernel) ?_
    refine z_iconst dX1_readIf_51 ?_
    refine s_callV (ci := 4) (a := x) (As := [.int (iZ 14), .int (iZ 0)]) (S := []) dX1_readIf_52 okX4_emit mlX1_107 rfl (by omega) rfl (Nat.le_of_ble_eq_true rfl) K.1 (by decide) rfl (x_emit (d := d - 1) (op := 14) (v := 0) K rd7 (okB_ex (by decide) K.2.2.2.1 q6.1)) (fun v_ σ_ hq => ?_)
    obtain ⟨rfl, rd8⟩ := hq
    rename gS => σ8
    show sE g_tt _ _ _ 55 [some (.ref 333), some (.int (iZ o)), some (.int (iZ (emP (exB 13 tk st B3)))), none] [.int (iZ (emP (exB 14 tk st B6)))] σ8
    refine q_istore_n dX1_readIf_55 rfl (by decide) ?_
    show sE g_tt _ _ _ 56 [some (.ref 333), some (.int (iZ o)), some (.int (iZ (emP (exB 13 tk st B3)))), some (.int (iZ (emP (exB 14 tk st B6))))] [] σ8
    refine q_aload_n dX1_readIf_56 rfl rfl ?_
    refine sg1 (kf := 3) (v := .ref x) dX1_readIf_57 flX1_32 (show kd 333 = 1 from rfl) (by decide) (by show some (va_rf ((σ8).2.2.2.2 333 3)) = _; rw [show (σ8).2.2.2.2 333 3 = some x from rd8.2.2.1]; rfl) ?_
    refine q_iload_n dX1_readIf_60 rfl rfl ?_
    refine s_callV (ci := 4) (a := x) (As := [.int (iZ (emP (exB 13 tk st B3)))]) (S := []) dX1_readIf_61 okX4_landHere mlX1_136 rfl (by omega) rfl (Nat.le_of_ble_eq_true rfl) K.1 (by decide) rfl (x_landHere (d := d - 1) (p := emP (exB 13 tk st B3)) K rd8 (ifO2 K.2.2.2.1 (ifO1 K.2.2.2.1 ok q3) q6) (emP_r _)) (fun v_ σ_ hq => ?_)
    obtain ⟨rfl, rd9⟩ := hq
    rename gS => σ9
    show sE g_tt _ _ _ 64 [some (.ref 333), some (.int (iZ o)), some (.int (iZ (emP (exB 13 tk st B3)))), some (.int (iZ (emP (exB 14 tk st B6))))] [] σ9
    refine q_aload_n dX1_readIf_64 rfl rfl ?_
    refine q_iload_n dX1_readIf_65 rfl rfl ?_
    refine z_iconst dX1_readIf_66 ?_
    refine z_iadd dX1_readIf_67 ?_
    refine s_callV (ci := 1) (a := 333) (As := [.int (iZ (o + 1))]) (S := []) dX1_readIf_68 okX1_readSum mlX1_84 rfl (by omega) rfl (Nat.le_of_ble_eq_true rfl) (show kd 333 = 1 from rfl) (by decide) rfl (lowS c_1 (d - 1) σ9 (laB (emP (exB 13 tk st B3)) (emB 14 0 (exB 14 tk st B6))) (by omega) rd9 (okB_la (ifO2 K.2.2.2.1 (ifO1 K.2.2.2.1 ok q3) q6))) (fun v_ σ_ hq => ?_)
    obtain ⟨rfl, B10, rd10, q10⟩ := hq
    rename gS => σ10
    show sE g_tt _ _ _ 71 [some (.ref 333), some (.int (iZ o)), some (.int (iZ (emP (exB 13 tk st B3)))), some (.int (iZ (emP (exB 14 tk st B6))))] [] σ10
    refine q_aload_n dX1_readIf_71 rfl rfl ?_
    refine z_bipush dX1_readIf_72 (by decide +kernel) ?_
    refine s_callV (ci := 1) (a := 333) (As := [.int (iZ 15)]) (S := []) dX1_readIf_74 okX1_expect mlX1_93 rfl (by omega) rfl (Nat.le_of_ble_eq_true rfl) (show kd 333 = 1 from rfl) (by decide) rfl (x_expect (d := d - 1) (by omega) (t := 15) K rd10 q10.1 (by omega)) (fun v_ σ_ hq => ?_)
    obtain ⟨rfl, rd11⟩ := hq
    rename gS => σ11
    show sE g_tt _ _ _ 77 [some (.ref 333), some (.int (iZ o)), some (.int (iZ (emP (exB 13 tk st B3)))), some (.int (iZ (emP (exB 14 tk st B6))))] [] σ11
    refine q_aload_n dX1_readIf_77 rfl rfl ?_
    refine sg1 (kf := 3) (v := .ref x) dX1_readIf_78 flX1_32 (show kd 333 = 1 from rfl) (by decide) (by show some (va_rf ((σ11).2.2.2.2 333 3)) = _; rw [show (σ11).2.2.2.2 333 3 = some x from rd11.2.2.1]; rfl) ?_
    refine q_iload_n dX1_readIf_81 rfl rfl ?_
    refine s_callV (ci := 4) (a := x) (As := [.int (iZ (emP (exB 14 tk st B6)))]) (S := []) dX1_readIf_82 okX4_landHere mlX1_136 rfl (by omega) rfl (Nat.le_of_ble_eq_true rfl) K.1 (by decide) rfl (x_landHere (d := d - 1) (p := emP (exB 14 tk st B6)) K rd11 (okB_ex (by decide) K.2.2.2.1 q10.1) (emP_r _)) (fun v_ σ_ hq => ?_)
    obtain ⟨rfl, rd12⟩ := hq
    rename gS => σ12
    show sE g_tt _ _ _ 85 [some (.ref 333), some (.int (iZ o)), some (.int (iZ (emP (exB 13 tk st B3)))), some (.int (iZ (emP (exB 14 tk st B6))))] [] σ12
    exact s_vret dX1_readIf_85 rfl ⟨rfl, _, rd12, by rw [if_neg (by omega)]; exact ifZ K.2.2.2.1 hn ok q3 q6 q10 (by omega) (by omega) (by omega)⟩
