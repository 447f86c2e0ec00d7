/-! ===== the class's reader: readOne ===== -/
theorem nuO {n : Nat} {a b : Int} {tk nu st : Nat → Int} {B : rB} (h39 : tk n = 39) (ok : okB n B) : okB n (nuB a b tk nu st B) := by
  unfold nuB
  split
  · exact okB_fl (by omega) ok
  · rename_i c
    split
    · exact okB_fl (by omega) ok
    · split
      · refine okB_ad ok ?_
        have hk := ok.2.1
        rcases Nat.lt_or_ge B.2.2.1 n with q | q
        · exact q
        · have e : B.2.2.1 = n := by omega
          rw [e, h39] at c
          exact absurd c (by decide)
      · exact ok
theorem nuX {n : Nat} {tk nu st : Nat → Int} {so : Int} {B : rB} {nd : Nat} (h39 : tk n = 39) (hn : n ≤ 300) (ok : okB n B) (h0 : B.1 = 0) (ht : tk B.2.2.1 = 38) (hv : 0 ≤ nu B.2.2.1 ∧ nu B.2.2.1 ≤ 10000) (h1 : 1 ≤ nd) : rdQ n st so B nd 0 (if 9999 < nu B.2.2.1 then rF 2 B.2.2.1 else (0, B.2.2.1 + 1, vM 38 (nu B.2.2.1), 0)) (emB 38 (nu B.2.2.1) (nuB 0 9999 tk nu st B)) := by
  have hk := ok.2.1
  have hk1 : B.2.2.1 < n := by
    rcases Nat.lt_or_ge B.2.2.1 n with q | q
    · exact q
    · have e : B.2.2.1 = n := by omega
      rw [e, h39] at ht
      exact absurd ht (by decide)
  unfold nuB
  rw [if_neg (show ¬ ¬ tk B.2.2.1 = 38 from fun w => w ht)]
  by_cases c : 9999 < nu B.2.2.1
  · rw [if_pos c, if_pos (Or.inr c)]
    have q := rdQ_fail (n := n) (st := st) (so := so) (nd := nd) (s := 0) (c := 2) (B := B) (by omega) ok
    exact rdQ_bad q (fun _ => by show ¬ (2 : Int) = 0; decide) (okB_em (by omega) q.1 (fun w => absurd w (rdQ_f1 q (fun _ => by show ¬ (2 : Int) = 0; decide)))) ⟨rfl, rfl⟩
  · rw [if_neg c, if_neg (by omega), if_pos h0]
    have q := rdQ_leaf (n := n) (st := st) (so := so) (nd := nd) (op := 38) (v := nu B.2.2.1) (by omega) hv (by decide) (by decide) (by decide) ok hn hk1 h0 h1
    rw [← q.2]
    exact q.1
theorem far3 {n : Nat} {st : Nat → Int} {so : Int} {B B1 : rB} {nd s : Nat} {c : Int} (hc : c ≠ 0) {k : Nat} (h : rdQ n st so (fbB so B) nd s (rF c k) B1) : rdQ n st so B nd s (rF c k) B1 := ⟨h.1, h.2.1, fun q => ⟨fun z => absurd z hc, (h.2.2 q).2⟩⟩
theorem farX {n : Nat} {st : Nat → Int} {so : Int} {B B1 : rB} {nd s : Nat} {o op : Int} {r : rE} (ok : okB n B) (hr : 0 ≤ r.2.2.2 ∧ r.2.2.2 ≤ 1) {k : Nat} (h : rdQ n st so (fbB so B) nd s (if 8 ≤ o then rF 3 k else onU op 0 r) B1) : rdQ n st so B nd s (if 8 ≤ o then rF 3 k else onU op 1 r) B1 := by
  by_cases c : 8 ≤ o
  · rw [if_pos c] at *
    exact far3 (by decide) h
  · rw [if_neg c] at *
    exact rdQ_far ok hr h
theorem parX {n : Nat} {tk st : Nat → Int} {so : Int} {B B3 : rB} {nd : Nat} {r : rE} (h39 : tk n = 39) (h : rdQ n st so (adB B) nd 0 r B3) : rdQ n st so B nd 0 (expc tk 34 r) (exB 34 tk st B3) := rdQ_m (rdQ_exp (by decide) h39 (rdQ_ad h)) (Nat.le_refl _) (by omega)
section
variable {tk nu : Nat → Int} {sp ok : Int} {low : lQ} {k : Nat}
theorem on_38 (h : tk k = 38) : onB tk nu sp ok low k = if 9999 < nu k then rF 2 k else (0, k + 1, vM 38 (nu k), 0) := by unfold onB; rw [if_pos h]
theorem on_33 (h : tk k = 33) : onB tk nu sp ok low k = if ok = 0 then rF 3 k else expc tk 34 (low.2.1 (k + 1)) := by unfold onB; rw [if_neg (by omega), if_pos h]
theorem on_30 (h : tk k = 30) : onB tk nu sp ok low k = if ok = 0 then rF 3 k else onU 41 0 (low.1 (k + 1)) := by unfold onB; rw [if_neg (by omega), if_neg (by omega), if_pos h]
theorem on_11 (h : tk k = 11) : onB tk nu sp ok low k = if ok = 0 then rF 3 k else onU 11 1 (low.1 (k + 1)) := by unfold onB; rw [if_neg (by omega), if_neg (by omega), if_neg (by omega), if_pos h]
theorem on_9 (h : tk k = 9) : onB tk nu sp ok low k = if ok = 0 then rF 3 k else ovR low (expc tk 10 (low.1 (k + 1))) := by unfold onB; rw [if_neg (by omega), if_neg (by omega), if_neg (by omega), if_neg (by omega), if_pos h]
theorem on_12 (h : tk k = 12) : onB tk nu sp ok low k = if ok = 0 then rF 3 k else ifT tk low (expc tk 13 (low.2.2.2 (k + 1))) := by unfold onB; rw [if_neg (by omega), if_neg (by omega), if_neg (by omega), if_neg (by omega), if_neg (by omega), if_pos h]
theorem on_nm (h : ¬ tk k = 38 ∧ ¬ tk k = 33 ∧ ¬ tk k = 30 ∧ ¬ tk k = 11 ∧ ¬ tk k = 9 ∧ ¬ tk k = 12) : onB tk nu sp ok low k = nmR tk sp k := by
  obtain ⟨h1, h2, h3, h4, h5, h6⟩ := h
  unfold onB nmR
  rw [if_neg h1, if_neg h2, if_neg h3, if_neg h4, if_neg h5, if_neg h6]
end
theorem okx {α : Type} {ok o : Int} (h : ok = 0 ↔ 8 ≤ o) (a b : α) : (if ok = 0 then a else b) = if 8 ≤ o then a else b := by
  by_cases c : 8 ≤ o
  · rw [if_pos c, if_pos (h.2 c)]
  · rw [if_neg c, if_neg (fun w => c (h.1 w))]
set_option maxHeartbeats 4000000 in
set_option maxRecDepth 100000 in
theorem x_readOne {D nd n1 nS nE : Nat} (m1 : n1 + 1 ≤ nd) (m2 : nS ≤ nd) (m3 : nE ≤ nd) (m4 : 2 ≤ nd) {σ : gS} {x n : Nat} {tk st nu : Nat → Int} {so : Int} (K : rdK σ x n tk st nu) (hso : so = 0 ∨ so = 1) {o oki : Int} (ho : inR o) (hok : oki = 0 ↔ 8 ≤ o) {low : lQ} (hl : okL low) (low1 : o < 8 → RC σ x n tk st so mX1_readOne (D) (o + 1) (n1) (low.1)) (lowS : o < 8 → RC σ x n tk st so mX1_readSum (D) (o + 1) (nS) (low.2.1)) (lowE : o < 8 → RC σ x n tk st so mX1_readEither (D) (o + 1) (nE) (low.2.2.2)) : RC σ x n tk st so mX1_readOne (D + 3) (o) (nd) (onB tk nu (1 - so) oki low) := by
  intro d σ1 B hd rd ok
  have hk : B.2.2.1 ≤ n := ok.2.1
  have hfar := ok.2.2.2.2.2
  refine sC_of rfl (Nat.le_of_ble_eq_true rfl) ?_
  show sE g_tt _ _ _ 0 [some (.ref 333), some (.int (iZ o))] [] σ1
  refine q_aload_n dX1_readOne_0 rfl rfl ?_
  refine sg1 (kf := 0) (v := .int (iZ B.1)) dX1_readOne_1 flX1_9 (show kd 333 = 1 from rfl) (by decide) (by show some (Value.int (iZ ((σ1).1 333 0))) = _; rw [show (σ1).1 333 0 = B.1 from rd.2.2.2.1]) ?_
  refine z_if_eq (tgt := 8) dX1_readOne_4 (by decide) ok.1 (fun c_1 => ?_) (fun c_1 => ?_)
  · have h0 : B.1 = 0 := by omega
    refine q_aload_n dX1_readOne_8 rfl rfl ?_
    refine sg1 (kf := 6) (v := .int (iZ (tk B.2.2.1))) dX1_readOne_9 flX1_25 (show kd 333 = 1 from rfl) (by decide) (by show some (Value.int (iZ ((σ1).1 333 6))) = _; rw [show (σ1).1 333 6 = tk B.2.2.1 from rd.2.2.2.2.2.2.2.1]) ?_
    by_cases s_2 : (tk B.2.2.1 : Int) = 9
    · refine z_top s_2 ?_
      refine q_lookup (tgt := 153) (off := 141) dX1_readOne_12 (by decide +kernel) (by decide +kernel) (by decide) ?_
      refine q_aload_n dX1_readOne_153 rfl rfl ?_
      refine q_iload_n dX1_readOne_154 rfl rfl ?_
      refine s_callV (ci := 1) (a := 333) (As := [.int (iZ o)]) (S := []) dX1_readOne_155 okX1_readOver mlX1_124 rfl (by omega) rfl (Nat.le_of_ble_eq_true rfl) (show kd 333 = 1 from rfl) (by decide) rfl (x_readOver (d := d - 1) (D := D) (nd := nd) (n1 := n1) (by omega) (by omega) K rd ok ho (by omega) (p := low.1) low1) (fun v_ σ_ hq => ?_)
      obtain ⟨rfl, B2, rd2, q2⟩ := hq
      rename gS => σ2
      show sE g_tt _ _ _ 158 [some (.ref 333), some (.int (iZ o))] [] σ2
      refine q_goto (tgt := 173) dX1_readOne_158 (by decide) ?_
      exact s_vret dX1_readOne_173 rfl ⟨rfl, B2, rd2, by rw [on_9 (by omega), okx hok]; exact q2⟩
    by_cases s_3 : (tk B.2.2.1 : Int) = 11
    · refine z_top s_3 ?_
      refine q_lookup (tgt := 127) (off := 115) dX1_readOne_12 (by decide +kernel) (by decide +kernel) (by decide) ?_
      refine q_aload_n dX1_readOne_127 rfl rfl ?_
      refine sg1 (kf := 3) (v := .ref x) dX1_readOne_128 flX1_32 (show kd 333 = 1 from rfl) (by decide) (by show some (va_rf ((σ1).2.2.2.2 333 3)) = _; rw [show (σ1).2.2.2.2 333 3 = some x from rd.2.2.1]; rfl) ?_
      refine q_dup dX1_readOne_131 rfl ?_
      refine sg4 (kf := 10) (v := .int (iZ B.2.2.2.2.1)) dX1_readOne_132 flX1_121 K.1 (by decide) (by show some (Value.int (iZ ((σ1).1 x 10))) = _; rw [show (σ1).1 x 10 = B.2.2.2.2.1 from rd.2.2.2.2.2.2.2.2.2.1]) ?_
      refine q_aload_n dX1_readOne_135 rfl rfl ?_
      refine sg1 (kf := 4) (v := .int (iZ so)) dX1_readOne_136 flX1_18 (show kd 333 = 1 from rfl) (by decide) (by show some (Value.int (iZ ((σ1).1 333 4))) = _; rw [show (σ1).1 333 4 = so from rd.2.2.2.2.2.1]) ?_
      refine z_top (y := ((so.toNat : Nat) : Int)) (by omega) ?_
      refine z_top2 (y := ((B.2.2.2.2.1.toNat : Nat) : Int)) (by omega) ?_
      refine z_ior (m := B.2.2.2.2.1.toNat) (k := so.toNat) dX1_readOne_139 ?_
      refine z_top (y := if so = 0 then B.2.2.2.2.1 else 1) (by rcases hso with h8 | h8 <;> rcases hfar with g8 | g8 <;> rw [h8, g8] <;> decide) ?_
      refine sz4_10 dX1_readOne_140 flX1_121 K.1 (by omega) ?_
      have rdF : rdR σ x tk so (sI σ1 x 10 (if so = 0 then B.2.2.2.2.1 else 1)) (fbB so B) := rd_X K rd B.2.2.2.1 (if so = 0 then B.2.2.2.2.1 else 1) B.2.2.2.2.2 (fun a q => up2_ne _ _ _ q) (fun a q => rfl) rfl ((up2_k (a := x) (k := 10) (j := 1) σ1.1 (if so = 0 then B.2.2.2.2.1 else 1) (by decide)).trans rd.2.2.2.2.2.2.2.2.1) (up2_at σ1.1 x 10 (if so = 0 then B.2.2.2.2.1 else 1)) rd.2.2.2.2.2.2.2.2.2.2.1 (fun j a b => up2_k (a := x) (k := 10) (j := j) σ1.1 (if so = 0 then B.2.2.2.2.1 else 1) b)
      refine q_aload_n dX1_readOne_143 rfl rfl ?_
      refine q_iload_n dX1_readOne_144 rfl rfl ?_
      refine z_bipush dX1_readOne_145 (by decide +kernel) ?_
      refine s_callV (ci := 1) (a := 333) (As := [.int (iZ o), .int (iZ 11)]) (S := []) dX1_readOne_147 okX1_readOperand mlX1_117 rfl (by omega) rfl (Nat.le_of_ble_eq_true rfl) (show kd 333 = 1 from rfl) (by decide) rfl (x_readOperand (d := d - 1) (D := D) (nd := n1) (by omega) K rdF (okB_fb ok) ho (show tk B.2.2.1 ≠ 39 by omega) (p := low.1) (fun k => (hl.1 k).2.2.1.1) low1 (op := 11) (by decide) (by decide) (by decide) (by decide)) (fun v_ σ_ hq => ?_)
      obtain ⟨rfl, B2, rd2, q2⟩ := hq
      rename gS => σ2
      show sE g_tt _ _ _ 150 [some (.ref 333), some (.int (iZ o))] [] σ2
      refine q_goto (tgt := 173) dX1_readOne_150 (by decide) ?_
      exact s_vret dX1_readOne_173 rfl ⟨rfl, B2, rd2, by rw [on_11 (by omega), okx hok]; exact rdQ_m (farX ok (hl.1 _).2.2.1 q2) (by omega) (by omega)⟩
    by_cases s_4 : (tk B.2.2.1 : Int) = 12
    · refine z_top s_4 ?_
      refine q_lookup (tgt := 161) (off := 149) dX1_readOne_12 (by decide +kernel) (by decide +kernel) (by decide) ?_
      refine q_aload_n dX1_readOne_161 rfl rfl ?_
      refine q_iload_n dX1_readOne_162 rfl rfl ?_
      refine s_callV (ci := 1) (a := 333) (As := [.int (iZ o)]) (S := []) dX1_readOne_163 okX1_readIf mlX1_127 rfl (by omega) rfl (Nat.le_of_ble_eq_true rfl) (show kd 333 = 1 from rfl) (by decide) rfl (x_readIf (d := d - 1) (D := D) (nd := nd) (nS := nS) (nE := nE) (by omega) (by omega) (by omega) (by omega) K rd ok ho (by omega) (low := low) (e := low.2.2.2) lowS lowE) (fun v_ σ_ hq => ?_)
      obtain ⟨rfl, B2, rd2, q2⟩ := hq
      rename gS => σ2
      show sE g_tt _ _ _ 166 [some (.ref 333), some (.int (iZ o))] [] σ2
      refine q_goto (tgt := 173) dX1_readOne_166 (by decide) ?_
      exact s_vret dX1_readOne_173 rfl ⟨rfl, B2, rd2, by rw [on_12 (by omega), okx hok]; exact q2⟩
    by_cases s_5 : (tk B.2.2.1 : Int) = 30
    · refine z_top s_5 ?_
      refine q_lookup (tgt := 117) (off := 105) dX1_readOne_12 (by decide +kernel) (by decide +kernel) (by decide) ?_
      refine q_aload_n dX1_readOne_117 rfl rfl ?_
      refine q_iload_n dX1_readOne_118 rfl rfl ?_
      refine z_bipush dX1_readOne_119 (by decide +kernel) ?_
      refine s_callV (ci := 1) (a := 333) (As := [.int (iZ o), .int (iZ 41)]) (S := []) dX1_readOne_121 okX1_readOperand mlX1_117 rfl (by omega) rfl (Nat.le_of_ble_eq_true rfl) (show kd 333 = 1 from rfl) (by decide) rfl (x_readOperand (d := d - 1) (D := D) (nd := n1) (by omega) K rd ok ho (by omega) (p := low.1) (fun k => (hl.1 k).2.2.1.1) low1 (op := 41) (by decide) (by decide) (by decide) (by decide)) (fun v_ σ_ hq => ?_)
      obtain ⟨rfl, B2, rd2, q2⟩ := hq
      rename gS => σ2
      show sE g_tt _ _ _ 124 [some (.ref 333), some (.int (iZ o))] [] σ2
      refine q_goto (tgt := 173) dX1_readOne_124 (by decide) ?_
      exact s_vret dX1_readOne_173 rfl ⟨rfl, B2, rd2, by rw [on_30 (by omega), okx hok]; exact rdQ_m q2 (by omega) (by omega)⟩
    by_cases s_6 : (tk B.2.2.1 : Int) = 33
    · refine z_top s_6 ?_
      refine q_lookup (tgt := 93) (off := 81) dX1_readOne_12 (by decide +kernel) (by decide +kernel) (by decide) ?_
      refine q_aload_n dX1_readOne_93 rfl rfl ?_
      refine q_iload_n dX1_readOne_94 rfl rfl ?_
      refine s_callV (ci := 1) (a := 333) (As := [.int (iZ o)]) (S := []) dX1_readOne_95 okX1_opens mlX1_113 rfl (by omega) rfl (Nat.le_of_ble_eq_true rfl) (show kd 333 = 1 from rfl) (by decide) rfl (x_opens (d := d - 1) (by omega) (op := o) K rd ok ho (show tk B.2.2.1 ≠ 39 by omega)) (fun v_ σ_ hq => ?_)
      obtain ⟨rfl, rd2⟩ := hq
      rename gS => σ2
      show sE g_tt _ _ _ 98 [some (.ref 333), some (.int (iZ o))] [.int (iZ (if o < 8 then 1 else 0))] σ2
      refine z_if_eq (tgt := 173) dX1_readOne_98 (by decide) inR_01 (fun c_7 => ?_) (fun c_7 => ?_)
      · have c_7 := if01_0 c_7
        exact s_vret dX1_readOne_173 rfl ⟨rfl, _, rd2, by rw [on_33 (by omega), okx hok, op_n c_7, if_pos (by omega)]; exact rdQ_fail (by omega) ok⟩
      · have c_7 := if01_1 c_7
        refine q_aload_n dX1_readOne_101 rfl rfl ?_
        refine q_iload_n dX1_readOne_102 rfl rfl ?_
        refine z_iconst dX1_readOne_103 ?_
        refine z_iadd dX1_readOne_104 ?_
        refine s_callV (ci := 1) (a := 333) (As := [.int (iZ (o + 1))]) (S := []) dX1_readOne_105 okX1_readSum mlX1_84 rfl (by omega) rfl (Nat.le_of_ble_eq_true rfl) (show kd 333 = 1 from rfl) (by decide) rfl (lowS c_7 (d - 1) σ2 (adB B) (by omega) (by rw [← op_y (st := st) (B := B) c_7]; exact rd2) (okB_ad ok (k_lt K hk (by omega)))) (fun v_ σ_ hq => ?_)
        obtain ⟨rfl, B3, rd3, q3⟩ := hq
        rename gS => σ3
        show sE g_tt _ _ _ 108 [some (.ref 333), some (.int (iZ o))] [] σ3
        refine q_aload_n dX1_readOne_108 rfl rfl ?_
        refine z_bipush dX1_readOne_109 (by decide +kernel) ?_
        refine s_callV (ci := 1) (a := 333) (As := [.int (iZ 34)]) (S := []) dX1_readOne_111 okX1_expect mlX1_93 rfl (by omega) rfl (Nat.le_of_ble_eq_true rfl) (show kd 333 = 1 from rfl) (by decide) rfl (x_expect (d := d - 1) (by omega) (t := 34) K rd3 q3.1 (by omega)) (fun v_ σ_ hq => ?_)
        obtain ⟨rfl, rd4⟩ := hq
        rename gS => σ4
        show sE g_tt _ _ _ 114 [some (.ref 333), some (.int (iZ o))] [] σ4
        refine q_goto (tgt := 173) dX1_readOne_114 (by decide) ?_
        exact s_vret dX1_readOne_173 rfl ⟨rfl, _, rd4, by rw [on_33 (by omega), okx hok, if_neg (by omega)]; exact rdQ_m (parX K.2.2.2.1 q3) (by omega) (by omega)⟩
    by_cases s_8 : (tk B.2.2.1 : Int) = 38
    · refine z_top s_8 ?_
      refine q_lookup (tgt := 72) (off := 60) dX1_readOne_12 (by decide +kernel) (by decide +kernel) (by decide) ?_
      refine q_aload_n dX1_readOne_72 rfl rfl ?_
      refine sg1 (kf := 3) (v := .ref x) dX1_readOne_73 flX1_32 (show kd 333 = 1 from rfl) (by decide) (by show some (va_rf ((σ1).2.2.2.2 333 3)) = _; rw [show (σ1).2.2.2.2 333 3 = some x from rd.2.2.1]; rfl) ?_
      refine z_bipush dX1_readOne_76 (by decide +kernel) ?_
      refine q_aload_n dX1_readOne_78 rfl rfl ?_
      refine z_iconst dX1_readOne_79 ?_
      refine z_sipush dX1_readOne_80 (by decide +kernel) ?_
      refine s_callV (ci := 1) (a := 333) (As := [.int (iZ 0), .int (iZ 9999)]) (S := [.int (iZ 38), .ref x]) dX1_readOne_83 okX1_numberIn mlX1_100 rfl (by omega) rfl (Nat.le_of_ble_eq_true rfl) (show kd 333 = 1 from rfl) (by decide) rfl (x_numberIn (d := d - 1) (by omega) (a := 0) (b := 9999) K rd ok (by unfold inR; omega) (by unfold inR; omega)) (fun v_ σ_ hq => ?_)
      obtain ⟨rfl, rd2⟩ := hq
      rename gS => σ2
      show sE g_tt _ _ _ 86 [some (.ref 333), some (.int (iZ o))] [.int (iZ (nu B.2.2.1)), .int (iZ 38), .ref x] σ2
      refine s_callV (ci := 4) (a := x) (As := [.int (iZ 38), .int (iZ (nu B.2.2.1))]) (S := []) dX1_readOne_86 okX4_emit mlX1_107 rfl (by omega) rfl (Nat.le_of_ble_eq_true rfl) K.1 (by decide) rfl (x_emit (d := d - 1) (op := 38) (v := nu B.2.2.1) K rd2 (nuO K.2.2.2.1 ok)) (fun v_ σ_ hq => ?_)
      obtain ⟨rfl, rd3⟩ := hq
      rename gS => σ3
      show sE g_tt _ _ _ 89 [some (.ref 333), some (.int (iZ o))] [.int (iZ (emP (nuB 0 9999 tk nu st B)))] σ3
      refine q_pop dX1_readOne_89 rfl ?_
      refine q_goto (tgt := 173) dX1_readOne_90 (by decide) ?_
      exact s_vret dX1_readOne_173 rfl ⟨rfl, _, rd3, by rw [on_38 (by omega)]; exact nuX K.2.2.2.1 K.2.2.1 ok h0 (by omega) (K.2.2.2.2 _ hk).2.2.2.1 (by omega)⟩
    refine q_lookup (tgt := 169) (off := 157) dX1_readOne_12 (by decide +kernel) (by rw [iZ_toInt (kt_r K ok.2.1)]; show (if (9 : Int) = tk B.2.2.1 then (141 : Int) else if (11 : Int) = tk B.2.2.1 then (115 : Int) else if (12 : Int) = tk B.2.2.1 then (149 : Int) else if (30 : Int) = tk B.2.2.1 then (105 : Int) else if (33 : Int) = tk B.2.2.1 then (81 : Int) else if (38 : Int) = tk B.2.2.1 then (60 : Int) else 157) = 157; rw [if_neg (by omega), if_neg (by omega), if_neg (by omega), if_neg (by omega), if_neg (by omega), if_neg (by omega)]) (by decide) ?_
    refine q_aload_n dX1_readOne_169 rfl rfl ?_
    refine s_callV (ci := 1) (a := 333) (As := []) (S := []) dX1_readOne_170 okX1_readName mlX1_130 rfl (by omega) rfl (Nat.le_of_ble_eq_true rfl) (show kd 333 = 1 from rfl) (by decide) rfl (x_readName (d := d - 1) (by omega) K rd ok h0 hso) (fun v_ σ_ hq => ?_)
    obtain ⟨rfl, B2, rd2, q2⟩ := hq
    rename gS => σ2
    show sE g_tt _ _ _ 173 [some (.ref 333), some (.int (iZ o))] [] σ2
    exact s_vret dX1_readOne_173 rfl ⟨rfl, B2, rd2, by rw [on_nm (by omega)]; exact rdQ_m q2 (by omega) (by omega)⟩
  · exact s_vret dX1_readOne_7 rfl ⟨rfl, B, rd, rdQ_none ok (by omega)⟩
