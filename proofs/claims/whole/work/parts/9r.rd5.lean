/-! ===== the class's reader: products, sums, asks ===== -/
theorem lpS {n : Nat} {tk st : Nat → Int} {so : Int} {B B1 B3 : rB} {nd nd0 m : Nat} {r1 R : rE} {p : Nat → rE} {a b : Int} (hn : n ≤ 300) (ok : okB n B) (q : rdQ n st so B nd 0 r1 B1) (e : lpR p tk a b (m + 1) r1 R) (h0 : B1.1 = 0) (ht : tk B1.2.2.1 = a ∨ tk B1.2.2.1 = b) (hop : (0 ≤ tk B1.2.2.1 ∧ tk B1.2.2.1 < 64) ∧ cTk (tk B1.2.2.1).toNat = 2 ∧ tk B1.2.2.1 ≠ 12 ∧ tk B1.2.2.1 ≠ 14) (q3 : rdQ n st so (adB B1) nd0 0 (p (B1.2.2.1 + 1)) B3) (hnd : nd0 + 1 ≤ nd) (hb : tk B1.2.2.1 = 16 ∨ tk B1.2.2.1 = 17 → b0E r1 ∧ b0E (p (B1.2.2.1 + 1))) : rdQ n st so B nd 0 (jnE (tk B1.2.2.1) r1 (p (B1.2.2.1 + 1))) (emB (tk B1.2.2.1) 0 B3) ∧ lpR p tk a b m (jnE (tk B1.2.2.1) r1 (p (B1.2.2.1 + 1))) R := by
  obtain ⟨z1, z2, z3⟩ := rdQ_r0 q h0
  refine ⟨rdQ_join hop.1 hop.2.1 hop.2.2.1 hop.2.2.2 ok hn q (rdQ_ad q3) (by omega) (Nat.le_refl _) hnd (fun w x y => ⟨(hb w).1 x, (hb w).2 y⟩), ?_⟩
  rw [z3] at ht ⊢
  exact lp_step e z2 ht
theorem cTk2 {t : Int} (h : t = 29 ∨ t = 30 ∨ t = 31 ∨ t = 32 ∨ t = 16 ∨ t = 17 ∨ (25 ≤ t ∧ t ≤ 28) ∨ t = 36 ∨ t = 37 ∨ t = 9) : (0 ≤ t ∧ t < 64) ∧ cTk t.toNat = 2 ∧ t ≠ 12 ∧ t ≠ 14 := by
  refine ⟨by omega, ?_, by omega, by omega⟩
  unfold cTk
  rw [if_neg (by omega), if_neg (by omega)]
theorem cmX {n : Nat} {tk st : Nat → Int} {so : Int} {B B1 B3 : rB} {nd nS : Nat} {sum : Nat → rE} {k : Nat} (hn : n ≤ 300) (ok : okB n B) (q : rdQ n st so B nS 0 (sum k) B1) (h0 : B1.1 = 0) (ht : (25 ≤ tk B1.2.2.1 ∧ tk B1.2.2.1 ≤ 28) ∨ tk B1.2.2.1 = 36 ∨ tk B1.2.2.1 = 37) (q3 : rdQ n st so (adB B1) nS 0 (sum (B1.2.2.1 + 1)) B3) (hnd : nS + 1 ≤ nd) : rdQ n st so B nd 0 (cmR tk sum (sum k)) (emB (tk B1.2.2.1) 0 B3) := by
  obtain ⟨z1, z2, z3⟩ := rdQ_r0 q h0
  obtain ⟨c1, c2, c3, c4⟩ := cTk2 (t := tk B1.2.2.1) (by omega)
  have e := rdQ_join (nd := nd) (s := 0) c1 c2 c3 c4 ok hn q (rdQ_ad q3) (by omega) (by omega) hnd (fun w => by omega)
  have f : cmR tk sum (sum k) = jnE (tk B1.2.2.1) (sum k) (sum (B1.2.2.1 + 1)) := by
    unfold cmR jnE
    rw [if_pos z2, if_pos z2, ← z3, if_neg]
    unfold cpI
    repeat' split
    all_goals omega
  rw [f]; exact e
theorem cmN {n : Nat} {tk st : Nat → Int} {so : Int} {B B1 : rB} {nd nS : Nat} {sum : Nat → rE} {k : Nat} (q : rdQ n st so B nS 0 (sum k) B1) (ht : B1.1 = 0 → ¬ ((25 ≤ tk B1.2.2.1 ∧ tk B1.2.2.1 ≤ 28) ∨ tk B1.2.2.1 = 36 ∨ tk B1.2.2.1 = 37)) : rdQ n st so B nd 0 (cmR tk sum (sum k)) (flB 1 st B1) := by
  refine ⟨okB_fl (by omega) q.1, fun z => ?_, fun z => ?_⟩
  · have e := q.2.1 z
    have f : B1.1 ≠ 0 := by rw [e.1]; exact z
    unfold flB
    show (if B1.1 = 0 then (1 : Int) else B1.1) = B.1 ∧ (if B1.1 = 0 then st B1.2.2.1 else B1.2.1) = B.2.1
    rw [if_neg f, if_neg f]; exact e
  · unfold cmR
    by_cases c : (sum k).1 = 0
    · have g := (q.2.2 z).1 c
      have t := ht g.1
      rw [if_pos c, ← g.2.2.1, if_pos]
      · refine ⟨fun w => absurd w (by show ¬ (1 : Int) = 0; decide), fun _ => ?_⟩
        unfold flB
        show (if B1.1 = 0 then (1 : Int) else B1.1) = 1 ∧ (if B1.1 = 0 then st B1.2.2.1 else B1.2.1) = st B1.2.2.1
        rw [if_pos g.1, if_pos g.1]; exact ⟨rfl, rfl⟩
      · unfold cpI
        rw [if_neg (by omega), if_neg (by omega), if_neg (by omega), if_neg (by omega), if_neg (by omega), if_neg (by omega)]
        decide
    · rw [if_neg c]
      have e := (q.2.2 z).2 c
      have f : B1.1 ≠ 0 := by rw [e.1]; exact c
      refine ⟨fun w => absurd w c, fun _ => ?_⟩
      unfold flB
      show (if B1.1 = 0 then (1 : Int) else B1.1) = (sum k).1 ∧ (if B1.1 = 0 then st B1.2.2.1 else B1.2.1) = st (sum k).2.1
      rw [if_neg f, if_neg f]; exact e
theorem akX {n : Nat} {tk st : Nat → Int} {so oki : Int} {B B1 : rB} {nd s : Nat} {sum : Nat → rE} {low : lQ} (h : B.1 = 0 → ¬ tk B.2.2.1 = 18) (q : rdQ n st so B nd s (cmR tk sum (sum B.2.2.1)) B1) : rdQ n st so B nd s (akB tk oki low sum B.2.2.1) B1 := by
  refine ⟨q.1, q.2.1, fun z => ?_⟩
  unfold akB
  rw [if_neg (h z)]
  exact q.2.2 z
set_option maxHeartbeats 4000000 in
set_option maxRecDepth 100000 in
theorem lx_readProduct {d D nd nd0 : Nat} (hd : D + 1 ≤ d) (hnd : nd0 + 1 ≤ nd) {σ : gS} {x n : Nat} {tk st nu : Nat → Int} {so : Int} (K : rdK σ x n tk st nu) (hn : n ≤ 300) {o : Int} {p : Nat → rE} (low : RC σ x n tk st so mX1_readOne (D) (o) (nd0) (p)) {B : rB} (ok : okB n B) {R : rE} : ∀ (g : Nat) (i : Nat) (σ1 : gS) (B1 : rB) (r1 : rE) (l3 : Option Value), rdR σ x tk so σ1 B1 → rdQ n st so B nd 0 r1 B1 → lpR p tk 31 32 (300 - i) r1 R → i ≤ 300 → 300 - (i : Int) < (g : Int) → sE g_tt mX1_readProduct d (fun r σ' => r = none ∧ ∃ B', rdR σ x tk so σ' B' ∧ rdQ n st so B nd 0 R B') 7 [some (.ref 333), some (.int (iZ o)), some (.int (iZ (i : Int))), l3] [] σ1 := by
  intro g
  induction g with
  | zero =>
    intro i σ1 B1 r1 l3 rd q e hi hg
    exact absurd hg (by omega)
  | succ g ih =>
    intro i σ1 B1 r1 l3 rd q e hi hg
    refine q_iload_n dX1_readProduct_7 rfl rfl ?_
    refine z_sipush dX1_readProduct_8 (by decide +kernel) ?_
    refine z_icmp_ge (tgt := 69) dX1_readProduct_11 (by decide) (by unfold inR at *; omega) (by unfold inR at *; omega) (fun c_1 => ?_) (fun c_1 => ?_)
    · exact s_vret dX1_readProduct_69 rfl ⟨rfl, B1, rd, lp_end q e (fun z => by first | exact Or.inr (by omega) | exact Or.inl (by omega) | exact absurd z (by omega))⟩
    · refine q_aload_n dX1_readProduct_14 rfl rfl ?_
      refine sg1 (kf := 0) (v := .int (iZ B1.1)) dX1_readProduct_15 flX1_9 (show kd 333 = 1 from rfl) (by decide) (by show some (Value.int (iZ ((σ1).1 333 0))) = _; rw [show (σ1).1 333 0 = B1.1 from rd.2.2.2.1]) ?_
      refine z_if_ne (tgt := 69) dX1_readProduct_18 (by decide) q.1.1 (fun c_2 => ?_) (fun c_2 => ?_)
      · exact s_vret dX1_readProduct_69 rfl ⟨rfl, B1, rd, lp_end q e (fun z => by first | exact Or.inr (by omega) | exact Or.inl (by omega) | exact absurd z (by omega))⟩
      · refine q_aload_n dX1_readProduct_21 rfl rfl ?_
        refine sg1 (kf := 6) (v := .int (iZ (tk B1.2.2.1))) dX1_readProduct_22 flX1_25 (show kd 333 = 1 from rfl) (by decide) (by show some (Value.int (iZ ((σ1).1 333 6))) = _; rw [show (σ1).1 333 6 = tk B1.2.2.1 from rd.2.2.2.2.2.2.2.1]) ?_
        refine z_bipush dX1_readProduct_25 (by decide +kernel) ?_
        refine z_icmp_eq (tgt := 39) dX1_readProduct_27 (by decide) (kt_r K q.1.2.1) (by unfold inR at *; omega) (fun c_3 => ?_) (fun c_3 => ?_)
        · refine q_aload_n dX1_readProduct_39 rfl rfl ?_
          refine sg1 (kf := 6) (v := .int (iZ (tk B1.2.2.1))) dX1_readProduct_40 flX1_25 (show kd 333 = 1 from rfl) (by decide) (by show some (Value.int (iZ ((σ1).1 333 6))) = _; rw [show (σ1).1 333 6 = tk B1.2.2.1 from rd.2.2.2.2.2.2.2.1]) ?_
          refine q_istore_n dX1_readProduct_43 rfl (by decide) ?_
          show sE g_tt _ _ _ 44 [some (.ref 333), some (.int (iZ o)), some (.int (iZ (i : Int))), some (.int (iZ (tk B1.2.2.1)))] [] σ1
          refine q_aload_n dX1_readProduct_44 rfl rfl ?_
          refine s_callV (ci := 1) (a := 333) (As := []) (S := []) dX1_readProduct_45 okX1_advance mlX1_56 rfl (by omega) rfl (Nat.le_of_ble_eq_true rfl) (show kd 333 = 1 from rfl) (by decide) rfl (x_advance (d := d - 1) K rd (k_lt K q.1.2.1 (show tk B1.2.2.1 ≠ 39 by omega))) (fun v_ σ_ hq => ?_)
          obtain ⟨rfl, rd2⟩ := hq
          rename gS => σ2
          show sE g_tt _ _ _ 48 [some (.ref 333), some (.int (iZ o)), some (.int (iZ (i : Int))), some (.int (iZ (tk B1.2.2.1)))] [] σ2
          refine q_aload_n dX1_readProduct_48 rfl rfl ?_
          refine q_iload_n dX1_readProduct_49 rfl rfl ?_
          refine s_callV (ci := 1) (a := 333) (As := [.int (iZ o)]) (S := []) dX1_readProduct_50 okX1_readOne mlX1_110 rfl (by omega) rfl (Nat.le_of_ble_eq_true rfl) (show kd 333 = 1 from rfl) (by decide) rfl (low (d - 1) σ2 (adB B1) (by omega) rd2 (okB_ad q.1 (k_lt K q.1.2.1 (show tk B1.2.2.1 ≠ 39 by omega)))) (fun v_ σ_ hq => ?_)
          obtain ⟨rfl, B3, rd3, q3⟩ := hq
          rename gS => σ3
          show sE g_tt _ _ _ 53 [some (.ref 333), some (.int (iZ o)), some (.int (iZ (i : Int))), some (.int (iZ (tk B1.2.2.1)))] [] σ3
          refine q_aload_n dX1_readProduct_53 rfl rfl ?_
          refine sg1 (kf := 3) (v := .ref x) dX1_readProduct_54 flX1_32 (show kd 333 = 1 from rfl) (by decide) (by show some (va_rf ((σ3).2.2.2.2 333 3)) = _; rw [show (σ3).2.2.2.2 333 3 = some x from rd3.2.2.1]; rfl) ?_
          refine q_iload_n dX1_readProduct_57 rfl rfl ?_
          refine z_iconst dX1_readProduct_58 ?_
          refine s_callV (ci := 4) (a := x) (As := [.int (iZ (tk B1.2.2.1)), .int (iZ 0)]) (S := []) dX1_readProduct_59 okX4_emit mlX1_107 rfl (by omega) rfl (Nat.le_of_ble_eq_true rfl) K.1 (by decide) rfl (x_emit (d := d - 1) (op := tk B1.2.2.1) (v := 0) K rd3 q3.1) (fun v_ σ_ hq => ?_)
          obtain ⟨rfl, rd4⟩ := hq
          rename gS => σ4
          show sE g_tt _ _ _ 62 [some (.ref 333), some (.int (iZ o)), some (.int (iZ (i : Int))), some (.int (iZ (tk B1.2.2.1)))] [.int (iZ (emP B3))] σ4
          refine q_pop dX1_readProduct_62 rfl ?_
          refine z_iinc dX1_readProduct_63 rfl (by decide) ?_
          show sE g_tt _ _ _ 66 [some (.ref 333), some (.int (iZ o)), some (.int (iZ ((i : Int) + 1))), some (.int (iZ (tk B1.2.2.1)))] [] σ4
          refine q_goto (tgt := 7) dX1_readProduct_66 (by decide) ?_
          have s9 := lpS (m := 299 - i) hn ok q (by rw [show 299 - i + 1 = 300 - i by omega]; exact e) (by omega) (by omega) (cTk2 (by omega)) q3 hnd (fun w => (by omega))
          exact ih (i + 1) σ4 (emB (tk B1.2.2.1) 0 B3) _ (some (.int (iZ (tk B1.2.2.1)))) rd4 s9.1 (by rw [show 300 - (i + 1) = 299 - i by omega]; exact s9.2) (by omega) (by omega)
        · refine q_aload_n dX1_readProduct_30 rfl rfl ?_
          refine sg1 (kf := 6) (v := .int (iZ (tk B1.2.2.1))) dX1_readProduct_31 flX1_25 (show kd 333 = 1 from rfl) (by decide) (by show some (Value.int (iZ ((σ1).1 333 6))) = _; rw [show (σ1).1 333 6 = tk B1.2.2.1 from rd.2.2.2.2.2.2.2.1]) ?_
          refine z_bipush dX1_readProduct_34 (by decide +kernel) ?_
          refine z_icmp_ne (tgt := 69) dX1_readProduct_36 (by decide) (kt_r K q.1.2.1) (by unfold inR at *; omega) (fun c_4 => ?_) (fun c_4 => ?_)
          · exact s_vret dX1_readProduct_69 rfl ⟨rfl, B1, rd, lp_end q e (fun z => by first | exact Or.inr (by omega) | exact Or.inl (by omega) | exact absurd z (by omega))⟩
          · refine q_aload_n dX1_readProduct_39 rfl rfl ?_
            refine sg1 (kf := 6) (v := .int (iZ (tk B1.2.2.1))) dX1_readProduct_40 flX1_25 (show kd 333 = 1 from rfl) (by decide) (by show some (Value.int (iZ ((σ1).1 333 6))) = _; rw [show (σ1).1 333 6 = tk B1.2.2.1 from rd.2.2.2.2.2.2.2.1]) ?_
            refine q_istore_n dX1_readProduct_43 rfl (by decide) ?_
            show sE g_tt _ _ _ 44 [some (.ref 333), some (.int (iZ o)), some (.int (iZ (i : Int))), some (.int (iZ (tk B1.2.2.1)))] [] σ1
            refine q_aload_n dX1_readProduct_44 rfl rfl ?_
            refine s_callV (ci := 1) (a := 333) (As := []) (S := []) dX1_readProduct_45 okX1_advance mlX1_56 rfl (by omega) rfl (Nat.le_of_ble_eq_true rfl) (show kd 333 = 1 from rfl) (by decide) rfl (x_advance (d := d - 1) K rd (k_lt K q.1.2.1 (show tk B1.2.2.1 ≠ 39 by omega))) (fun v_ σ_ hq => ?_)
            obtain ⟨rfl, rd2⟩ := hq
            rename gS => σ2
            show sE g_tt _ _ _ 48 [some (.ref 333), some (.int (iZ o)), some (.int (iZ (i : Int))), some (.int (iZ (tk B1.2.2.1)))] [] σ2
            refine q_aload_n dX1_readProduct_48 rfl rfl ?_
            refine q_iload_n dX1_readProduct_49 rfl rfl ?_
            refine s_callV (ci := 1) (a := 333) (As := [.int (iZ o)]) (S := []) dX1_readProduct_50 okX1_readOne mlX1_110 rfl (by omega) rfl (Nat.le_of_ble_eq_true rfl) (show kd 333 = 1 from rfl) (by decide) rfl (low (d - 1) σ2 (adB B1) (by omega) rd2 (okB_ad q.1 (k_lt K q.1.2.1 (show tk B1.2.2.1 ≠ 39 by omega)))) (fun v_ σ_ hq => ?_)
            obtain ⟨rfl, B3, rd3, q3⟩ := hq
            rename gS => σ3
            show sE g_tt _ _ _ 53 [some (.ref 333), some (.int (iZ o)), some (.int (iZ (i : Int))), some (.int (iZ (tk B1.2.2.1)))] [] σ3
            refine q_aload_n dX1_readProduct_53 rfl rfl ?_
            refine sg1 (kf := 3) (v := .ref x) dX1_readProduct_54 flX1_32 (show kd 333 = 1 from rfl) (by decide) (by show some (va_rf ((σ3).2.2.2.2 333 3)) = _; rw [show (σ3).2.2.2.2 333 3 = some x from rd3.2.2.1]; rfl) ?_
            refine q_iload_n dX1_readProduct_57 rfl rfl ?_
            refine z_iconst dX1_readProduct_58 ?_
            refine s_callV (ci := 4) (a := x) (As := [.int (iZ (tk B1.2.2.1)), .int (iZ 0)]) (S := []) dX1_readProduct_59 okX4_emit mlX1_107 rfl (by omega) rfl (Nat.le_of_ble_eq_true rfl) K.1 (by decide) rfl (x_emit (d := d - 1) (op := tk B1.2.2.1) (v := 0) K rd3 q3.1) (fun v_ σ_ hq => ?_)
            obtain ⟨rfl, rd4⟩ := hq
            rename gS => σ4
            show sE g_tt _ _ _ 62 [some (.ref 333), some (.int (iZ o)), some (.int (iZ (i : Int))), some (.int (iZ (tk B1.2.2.1)))] [.int (iZ (emP B3))] σ4
            refine q_pop dX1_readProduct_62 rfl ?_
            refine z_iinc dX1_readProduct_63 rfl (by decide) ?_
            show sE g_tt _ _ _ 66 [some (.ref 333), some (.int (iZ o)), some (.int (iZ ((i : Int) + 1))), some (.int (iZ (tk B1.2.2.1)))] [] σ4
            refine q_goto (tgt := 7) dX1_readProduct_66 (by decide) ?_
            have s9 := lpS (m := 299 - i) hn ok q (by rw [show 299 - i + 1 = 300 - i by omega]; exact e) (by omega) (by omega) (cTk2 (by omega)) q3 hnd (fun w => (by omega))
            exact ih (i + 1) σ4 (emB (tk B1.2.2.1) 0 B3) _ (some (.int (iZ (tk B1.2.2.1)))) rd4 s9.1 (by rw [show 300 - (i + 1) = 299 - i by omega]; exact s9.2) (by omega) (by omega)
set_option maxHeartbeats 4000000 in
set_option maxRecDepth 100000 in
theorem x_readProduct {D nd nd0 : Nat} (hnd : nd0 + 1 ≤ nd) {σ : gS} {x n : Nat} {tk st nu : Nat → Int} {so : Int} (K : rdK σ x n tk st nu) {o : Int} {p : Nat → rE} (low : RC σ x n tk st so mX1_readOne (D) (o) (nd0) (p)) : RC σ x n tk st so mX1_readProduct (D + 1) (o) (nd) (ch p tk 31 32) := by
  intro d σ1 B hd rd ok
  refine sC_of rfl (Nat.le_of_ble_eq_true rfl) ?_
  show sE g_tt _ _ _ 0 [some (.ref 333), some (.int (iZ o)), none, none] [] σ1
  refine q_aload_n dX1_readProduct_0 rfl rfl ?_
  refine q_iload_n dX1_readProduct_1 rfl rfl ?_
  refine s_callV (ci := 1) (a := 333) (As := [.int (iZ o)]) (S := []) dX1_readProduct_2 okX1_readOne mlX1_110 rfl (by omega) rfl (Nat.le_of_ble_eq_true rfl) (show kd 333 = 1 from rfl) (by decide) rfl (low (d - 1) σ1 B (by omega) rd ok) (fun v_ σ_ hq => ?_)
  obtain ⟨rfl, B2, rd2, q2⟩ := hq
  rename gS => σ2
  show sE g_tt _ _ _ 5 [some (.ref 333), some (.int (iZ o)), none, none] [] σ2
  refine z_iconst dX1_readProduct_5 ?_
  refine q_istore_n dX1_readProduct_6 rfl (by decide) ?_
  show sE g_tt _ _ _ 7 [some (.ref 333), some (.int (iZ o)), some (.int (iZ 0)), none] [] σ2
  exact lx_readProduct hd hnd K K.2.2.1 low ok 301 0 σ2 B2 (p B.2.2.1) none rd2 (rdQ_m q2 (by omega) (by omega)) (lp_0 _) (by omega) (by omega)
set_option maxHeartbeats 4000000 in
set_option maxRecDepth 100000 in
theorem lx_readSum {d D nd nd0 : Nat} (hd : D + 1 ≤ d) (hnd : nd0 + 1 ≤ nd) {σ : gS} {x n : Nat} {tk st nu : Nat → Int} {so : Int} (K : rdK σ x n tk st nu) (hn : n ≤ 300) {o : Int} {p : Nat → rE} (low : RC σ x n tk st so mX1_readProduct (D) (o) (nd0) (p)) {B : rB} (ok : okB n B) {R : rE} : ∀ (g : Nat) (i : Nat) (σ1 : gS) (B1 : rB) (r1 : rE) (l3 : Option Value), rdR σ x tk so σ1 B1 → rdQ n st so B nd 0 r1 B1 → lpR p tk 29 30 (300 - i) r1 R → i ≤ 300 → 300 - (i : Int) < (g : Int) → sE g_tt mX1_readSum d (fun r σ' => r = none ∧ ∃ B', rdR σ x tk so σ' B' ∧ rdQ n st so B nd 0 R B') 7 [some (.ref 333), some (.int (iZ o)), some (.int (iZ (i : Int))), l3] [] σ1 := by
  intro g
  induction g with
  | zero =>
    intro i σ1 B1 r1 l3 rd q e hi hg
    exact absurd hg (by omega)
  | succ g ih =>
    intro i σ1 B1 r1 l3 rd q e hi hg
    refine q_iload_n dX1_readSum_7 rfl rfl ?_
    refine z_sipush dX1_readSum_8 (by decide +kernel) ?_
    refine z_icmp_ge (tgt := 69) dX1_readSum_11 (by decide) (by unfold inR at *; omega) (by unfold inR at *; omega) (fun c_1 => ?_) (fun c_1 => ?_)
    · exact s_vret dX1_readSum_69 rfl ⟨rfl, B1, rd, lp_end q e (fun z => by first | exact Or.inr (by omega) | exact Or.inl (by omega) | exact absurd z (by omega))⟩
    · refine q_aload_n dX1_readSum_14 rfl rfl ?_
      refine sg1 (kf := 0) (v := .int (iZ B1.1)) dX1_readSum_15 flX1_9 (show kd 333 = 1 from rfl) (by decide) (by show some (Value.int (iZ ((σ1).1 333 0))) = _; rw [show (σ1).1 333 0 = B1.1 from rd.2.2.2.1]) ?_
      refine z_if_ne (tgt := 69) dX1_readSum_18 (by decide) q.1.1 (fun c_2 => ?_) (fun c_2 => ?_)
      · exact s_vret dX1_readSum_69 rfl ⟨rfl, B1, rd, lp_end q e (fun z => by first | exact Or.inr (by omega) | exact Or.inl (by omega) | exact absurd z (by omega))⟩
      · refine q_aload_n dX1_readSum_21 rfl rfl ?_
        refine sg1 (kf := 6) (v := .int (iZ (tk B1.2.2.1))) dX1_readSum_22 flX1_25 (show kd 333 = 1 from rfl) (by decide) (by show some (Value.int (iZ ((σ1).1 333 6))) = _; rw [show (σ1).1 333 6 = tk B1.2.2.1 from rd.2.2.2.2.2.2.2.1]) ?_
        refine z_bipush dX1_readSum_25 (by decide +kernel) ?_
        refine z_icmp_eq (tgt := 39) dX1_readSum_27 (by decide) (kt_r K q.1.2.1) (by unfold inR at *; omega) (fun c_3 => ?_) (fun c_3 => ?_)
        · refine q_aload_n dX1_readSum_39 rfl rfl ?_
          refine sg1 (kf := 6) (v := .int (iZ (tk B1.2.2.1))) dX1_readSum_40 flX1_25 (show kd 333 = 1 from rfl) (by decide) (by show some (Value.int (iZ ((σ1).1 333 6))) = _; rw [show (σ1).1 333 6 = tk B1.2.2.1 from rd.2.2.2.2.2.2.2.1]) ?_
          refine q_istore_n dX1_readSum_43 rfl (by decide) ?_
          show sE g_tt _ _ _ 44 [some (.ref 333), some (.int (iZ o)), some (.int (iZ (i : Int))), some (.int (iZ (tk B1.2.2.1)))] [] σ1
          refine q_aload_n dX1_readSum_44 rfl rfl ?_
          refine s_callV (ci := 1) (a := 333) (As := []) (S := []) dX1_readSum_45 okX1_advance mlX1_56 rfl (by omega) rfl (Nat.le_of_ble_eq_true rfl) (show kd 333 = 1 from rfl) (by decide) rfl (x_advance (d := d - 1) K rd (k_lt K q.1.2.1 (show tk B1.2.2.1 ≠ 39 by omega))) (fun v_ σ_ hq => ?_)
          obtain ⟨rfl, rd2⟩ := hq
          rename gS => σ2
          show sE g_tt _ _ _ 48 [some (.ref 333), some (.int (iZ o)), some (.int (iZ (i : Int))), some (.int (iZ (tk B1.2.2.1)))] [] σ2
          refine q_aload_n dX1_readSum_48 rfl rfl ?_
          refine q_iload_n dX1_readSum_49 rfl rfl ?_
          refine s_callV (ci := 1) (a := 333) (As := [.int (iZ o)]) (S := []) dX1_readSum_50 okX1_readProduct mlX1_104 rfl (by omega) rfl (Nat.le_of_ble_eq_true rfl) (show kd 333 = 1 from rfl) (by decide) rfl (low (d - 1) σ2 (adB B1) (by omega) rd2 (okB_ad q.1 (k_lt K q.1.2.1 (show tk B1.2.2.1 ≠ 39 by omega)))) (fun v_ σ_ hq => ?_)
          obtain ⟨rfl, B3, rd3, q3⟩ := hq
          rename gS => σ3
          show sE g_tt _ _ _ 53 [some (.ref 333), some (.int (iZ o)), some (.int (iZ (i : Int))), some (.int (iZ (tk B1.2.2.1)))] [] σ3
          refine q_aload_n dX1_readSum_53 rfl rfl ?_
          refine sg1 (kf := 3) (v := .ref x) dX1_readSum_54 flX1_32 (show kd 333 = 1 from rfl) (by decide) (by show some (va_rf ((σ3).2.2.2.2 333 3)) = _; rw [show (σ3).2.2.2.2 333 3 = some x from rd3.2.2.1]; rfl) ?_
          refine q_iload_n dX1_readSum_57 rfl rfl ?_
          refine z_iconst dX1_readSum_58 ?_
          refine s_callV (ci := 4) (a := x) (As := [.int (iZ (tk B1.2.2.1)), .int (iZ 0)]) (S := []) dX1_readSum_59 okX4_emit mlX1_107 rfl (by omega) rfl (Nat.le_of_ble_eq_true rfl) K.1 (by decide) rfl (x_emit (d := d - 1) (op := tk B1.2.2.1) (v := 0) K rd3 q3.1) (fun v_ σ_ hq => ?_)
          obtain ⟨rfl, rd4⟩ := hq
          rename gS => σ4
          show sE g_tt _ _ _ 62 [some (.ref 333), some (.int (iZ o)), some (.int (iZ (i : Int))), some (.int (iZ (tk B1.2.2.1)))] [.int (iZ (emP B3))] σ4
          refine q_pop dX1_readSum_62 rfl ?_
          refine z_iinc dX1_readSum_63 rfl (by decide) ?_
          show sE g_tt _ _ _ 66 [some (.ref 333), some (.int (iZ o)), some (.int (iZ ((i : Int) + 1))), some (.int (iZ (tk B1.2.2.1)))] [] σ4
          refine q_goto (tgt := 7) dX1_readSum_66 (by decide) ?_
          have s9 := lpS (m := 299 - i) hn ok q (by rw [show 299 - i + 1 = 300 - i by omega]; exact e) (by omega) (by omega) (cTk2 (by omega)) q3 hnd (fun w => (by omega))
          exact ih (i + 1) σ4 (emB (tk B1.2.2.1) 0 B3) _ (some (.int (iZ (tk B1.2.2.1)))) rd4 s9.1 (by rw [show 300 - (i + 1) = 299 - i by omega]; exact s9.2) (by omega) (by omega)
        · refine q_aload_n dX1_readSum_30 rfl rfl ?_
          refine sg1 (kf := 6) (v := .int (iZ (tk B1.2.2.1))) dX1_readSum_31 flX1_25 (show kd 333 = 1 from rfl) (by decide) (by show some (Value.int (iZ ((σ1).1 333 6))) = _; rw [show (σ1).1 333 6 = tk B1.2.2.1 from rd.2.2.2.2.2.2.2.1]) ?_
          refine z_bipush dX1_readSum_34 (by decide +kernel) ?_
          refine z_icmp_ne (tgt := 69) dX1_readSum_36 (by decide) (kt_r K q.1.2.1) (by unfold inR at *; omega) (fun c_4 => ?_) (fun c_4 => ?_)
          · exact s_vret dX1_readSum_69 rfl ⟨rfl, B1, rd, lp_end q e (fun z => by first | exact Or.inr (by omega) | exact Or.inl (by omega) | exact absurd z (by omega))⟩
          · refine q_aload_n dX1_readSum_39 rfl rfl ?_
            refine sg1 (kf := 6) (v := .int (iZ (tk B1.2.2.1))) dX1_readSum_40 flX1_25 (show kd 333 = 1 from rfl) (by decide) (by show some (Value.int (iZ ((σ1).1 333 6))) = _; rw [show (σ1).1 333 6 = tk B1.2.2.1 from rd.2.2.2.2.2.2.2.1]) ?_
            refine q_istore_n dX1_readSum_43 rfl (by decide) ?_
            show sE g_tt _ _ _ 44 [some (.ref 333), some (.int (iZ o)), some (.int (iZ (i : Int))), some (.int (iZ (tk B1.2.2.1)))] [] σ1
            refine q_aload_n dX1_readSum_44 rfl rfl ?_
            refine s_callV (ci := 1) (a := 333) (As := []) (S := []) dX1_readSum_45 okX1_advance mlX1_56 rfl (by omega) rfl (Nat.le_of_ble_eq_true rfl) (show kd 333 = 1 from rfl) (by decide) rfl (x_advance (d := d - 1) K rd (k_lt K q.1.2.1 (show tk B1.2.2.1 ≠ 39 by omega))) (fun v_ σ_ hq => ?_)
            obtain ⟨rfl, rd2⟩ := hq
            rename gS => σ2
            show sE g_tt _ _ _ 48 [some (.ref 333), some (.int (iZ o)), some (.int (iZ (i : Int))), some (.int (iZ (tk B1.2.2.1)))] [] σ2
            refine q_aload_n dX1_readSum_48 rfl rfl ?_
            refine q_iload_n dX1_readSum_49 rfl rfl ?_
            refine s_callV (ci := 1) (a := 333) (As := [.int (iZ o)]) (S := []) dX1_readSum_50 okX1_readProduct mlX1_104 rfl (by omega) rfl (Nat.le_of_ble_eq_true rfl) (show kd 333 = 1 from rfl) (by decide) rfl (low (d - 1) σ2 (adB B1) (by omega) rd2 (okB_ad q.1 (k_lt K q.1.2.1 (show tk B1.2.2.1 ≠ 39 by omega)))) (fun v_ σ_ hq => ?_)
            obtain ⟨rfl, B3, rd3, q3⟩ := hq
            rename gS => σ3
            show sE g_tt _ _ _ 53 [some (.ref 333), some (.int (iZ o)), some (.int (iZ (i : Int))), some (.int (iZ (tk B1.2.2.1)))] [] σ3
            refine q_aload_n dX1_readSum_53 rfl rfl ?_
            refine sg1 (kf := 3) (v := .ref x) dX1_readSum_54 flX1_32 (show kd 333 = 1 from rfl) (by decide) (by show some (va_rf ((σ3).2.2.2.2 333 3)) = _; rw [show (σ3).2.2.2.2 333 3 = some x from rd3.2.2.1]; rfl) ?_
            refine q_iload_n dX1_readSum_57 rfl rfl ?_
            refine z_iconst dX1_readSum_58 ?_
            refine s_callV (ci := 4) (a := x) (As := [.int (iZ (tk B1.2.2.1)), .int (iZ 0)]) (S := []) dX1_readSum_59 okX4_emit mlX1_107 rfl (by omega) rfl (Nat.le_of_ble_eq_true rfl) K.1 (by decide) rfl (x_emit (d := d - 1) (op := tk B1.2.2.1) (v := 0) K rd3 q3.1) (fun v_ σ_ hq => ?_)
            obtain ⟨rfl, rd4⟩ := hq
            rename gS => σ4
            show sE g_tt _ _ _ 62 [some (.ref 333), some (.int (iZ o)), some (.int (iZ (i : Int))), some (.int (iZ (tk B1.2.2.1)))] [.int (iZ (emP B3))] σ4
            refine q_pop dX1_readSum_62 rfl ?_
            refine z_iinc dX1_readSum_63 rfl (by decide) ?_
            show sE g_tt _ _ _ 66 [some (.ref 333), some (.int (iZ o)), some (.int (iZ ((i : Int) + 1))), some (.int (iZ (tk B1.2.2.1)))] [] σ4
            refine q_goto (tgt := 7) dX1_readSum_66 (by decide) ?_
            have s9 := lpS (m := 299 - i) hn ok q (by rw [show 299 - i + 1 = 300 - i by omega]; exact e) (by omega) (by omega) (cTk2 (by omega)) q3 hnd (fun w => (by omega))
            exact ih (i + 1) σ4 (emB (tk B1.2.2.1) 0 B3) _ (some (.int (iZ (tk B1.2.2.1)))) rd4 s9.1 (by rw [show 300 - (i + 1) = 299 - i by omega]; exact s9.2) (by omega) (by omega)
set_option maxHeartbeats 4000000 in
set_option maxRecDepth 100000 in
theorem x_readSum {D nd nd0 : Nat} (hnd : nd0 + 1 ≤ nd) {σ : gS} {x n : Nat} {tk st nu : Nat → Int} {so : Int} (K : rdK σ x n tk st nu) {o : Int} {p : Nat → rE} (low : RC σ x n tk st so mX1_readProduct (D) (o) (nd0) (p)) : RC σ x n tk st so mX1_readSum (D + 1) (o) (nd) (ch p tk 29 30) := by
  intro d σ1 B hd rd ok
  refine sC_of rfl (Nat.le_of_ble_eq_true rfl) ?_
  show sE g_tt _ _ _ 0 [some (.ref 333), some (.int (iZ o)), none, none] [] σ1
  refine q_aload_n dX1_readSum_0 rfl rfl ?_
  refine q_iload_n dX1_readSum_1 rfl rfl ?_
  refine s_callV (ci := 1) (a := 333) (As := [.int (iZ o)]) (S := []) dX1_readSum_2 okX1_readProduct mlX1_104 rfl (by omega) rfl (Nat.le_of_ble_eq_true rfl) (show kd 333 = 1 from rfl) (by decide) rfl (low (d - 1) σ1 B (by omega) rd ok) (fun v_ σ_ hq => ?_)
  obtain ⟨rfl, B2, rd2, q2⟩ := hq
  rename gS => σ2
  show sE g_tt _ _ _ 5 [some (.ref 333), some (.int (iZ o)), none, none] [] σ2
  refine z_iconst dX1_readSum_5 ?_
  refine q_istore_n dX1_readSum_6 rfl (by decide) ?_
  show sE g_tt _ _ _ 7 [some (.ref 333), some (.int (iZ o)), some (.int (iZ 0)), none] [] σ2
  exact lx_readSum hd hnd K K.2.2.1 low ok 301 0 σ2 B2 (p B.2.2.1) none rd2 (rdQ_m q2 (by omega) (by omega)) (lp_0 _) (by omega) (by omega)
set_option maxHeartbeats 4000000 in
set_option maxRecDepth 100000 in
theorem lx_readBoth {d D nd nd0 : Nat} (hd : D + 1 ≤ d) (hnd : nd0 + 1 ≤ nd) {σ : gS} {x n : Nat} {tk st nu : Nat → Int} {so : Int} (K : rdK σ x n tk st nu) (hn : n ≤ 300) {o : Int} {p : Nat → rE} (low : RC σ x n tk st so mX1_readAsk (D) (o) (nd0) (p)) (hbp : ∀ k, b0E (p k)) {B : rB} (ok : okB n B) {R : rE} : ∀ (g : Nat) (i : Nat) (σ1 : gS) (B1 : rB) (r1 : rE), rdR σ x tk so σ1 B1 → rdQ n st so B nd 0 r1 B1 → lpR p tk 17 17 (300 - i) r1 R → i ≤ 300 → b0E r1 → 300 - (i : Int) < (g : Int) → sE g_tt mX1_readBoth d (fun r σ' => r = none ∧ ∃ B', rdR σ x tk so σ' B' ∧ rdQ n st so B nd 0 R B') 7 [some (.ref 333), some (.int (iZ o)), some (.int (iZ (i : Int)))] [] σ1 := by
  intro g
  induction g with
  | zero =>
    intro i σ1 B1 r1 rd q e hi b1 hg
    exact absurd hg (by omega)
  | succ g ih =>
    intro i σ1 B1 r1 rd q e hi b1 hg
    refine q_iload_n dX1_readBoth_7 rfl rfl ?_
    refine z_sipush dX1_readBoth_8 (by decide +kernel) ?_
    refine z_icmp_ge (tgt := 56) dX1_readBoth_11 (by decide) (by unfold inR at *; omega) (by unfold inR at *; omega) (fun c_1 => ?_) (fun c_1 => ?_)
    · exact s_vret dX1_readBoth_56 rfl ⟨rfl, B1, rd, lp_end q e (fun z => by first | exact Or.inr (by omega) | exact Or.inl (by omega) | exact absurd z (by omega))⟩
    · refine q_aload_n dX1_readBoth_14 rfl rfl ?_
      refine sg1 (kf := 0) (v := .int (iZ B1.1)) dX1_readBoth_15 flX1_9 (show kd 333 = 1 from rfl) (by decide) (by show some (Value.int (iZ ((σ1).1 333 0))) = _; rw [show (σ1).1 333 0 = B1.1 from rd.2.2.2.1]) ?_
      refine z_if_ne (tgt := 56) dX1_readBoth_18 (by decide) q.1.1 (fun c_2 => ?_) (fun c_2 => ?_)
      · exact s_vret dX1_readBoth_56 rfl ⟨rfl, B1, rd, lp_end q e (fun z => by first | exact Or.inr (by omega) | exact Or.inl (by omega) | exact absurd z (by omega))⟩
      · refine q_aload_n dX1_readBoth_21 rfl rfl ?_
        refine sg1 (kf := 6) (v := .int (iZ (tk B1.2.2.1))) dX1_readBoth_22 flX1_25 (show kd 333 = 1 from rfl) (by decide) (by show some (Value.int (iZ ((σ1).1 333 6))) = _; rw [show (σ1).1 333 6 = tk B1.2.2.1 from rd.2.2.2.2.2.2.2.1]) ?_
        refine z_bipush dX1_readBoth_25 (by decide +kernel) ?_
        refine z_icmp_ne (tgt := 56) dX1_readBoth_27 (by decide) (kt_r K q.1.2.1) (by unfold inR at *; omega) (fun c_3 => ?_) (fun c_3 => ?_)
        · exact s_vret dX1_readBoth_56 rfl ⟨rfl, B1, rd, lp_end q e (fun z => by first | exact Or.inr (by omega) | exact Or.inl (by omega) | exact absurd z (by omega))⟩
        · refine q_aload_n dX1_readBoth_30 rfl rfl ?_
          refine s_callV (ci := 1) (a := 333) (As := []) (S := []) dX1_readBoth_31 okX1_advance mlX1_56 rfl (by omega) rfl (Nat.le_of_ble_eq_true rfl) (show kd 333 = 1 from rfl) (by decide) rfl (x_advance (d := d - 1) K rd (k_lt K q.1.2.1 (show tk B1.2.2.1 ≠ 39 by omega))) (fun v_ σ_ hq => ?_)
          obtain ⟨rfl, rd2⟩ := hq
          rename gS => σ2
          show sE g_tt _ _ _ 34 [some (.ref 333), some (.int (iZ o)), some (.int (iZ (i : Int)))] [] σ2
          refine q_aload_n dX1_readBoth_34 rfl rfl ?_
          refine q_iload_n dX1_readBoth_35 rfl rfl ?_
          refine s_callV (ci := 1) (a := 333) (As := [.int (iZ o)]) (S := []) dX1_readBoth_36 okX1_readAsk mlX1_142 rfl (by omega) rfl (Nat.le_of_ble_eq_true rfl) (show kd 333 = 1 from rfl) (by decide) rfl (low (d - 1) σ2 (adB B1) (by omega) rd2 (okB_ad q.1 (k_lt K q.1.2.1 (show tk B1.2.2.1 ≠ 39 by omega)))) (fun v_ σ_ hq => ?_)
          obtain ⟨rfl, B3, rd3, q3⟩ := hq
          rename gS => σ3
          show sE g_tt _ _ _ 39 [some (.ref 333), some (.int (iZ o)), some (.int (iZ (i : Int)))] [] σ3
          refine q_aload_n dX1_readBoth_39 rfl rfl ?_
          refine sg1 (kf := 3) (v := .ref x) dX1_readBoth_40 flX1_32 (show kd 333 = 1 from rfl) (by decide) (by show some (va_rf ((σ3).2.2.2.2 333 3)) = _; rw [show (σ3).2.2.2.2 333 3 = some x from rd3.2.2.1]; rfl) ?_
          refine z_bipush dX1_readBoth_43 (by decide +kernel) ?_
          refine z_iconst dX1_readBoth_45 ?_
          refine s_callV (ci := 4) (a := x) (As := [.int (iZ 17), .int (iZ 0)]) (S := []) dX1_readBoth_46 okX4_emit mlX1_107 rfl (by omega) rfl (Nat.le_of_ble_eq_true rfl) K.1 (by decide) rfl (x_emit (d := d - 1) (op := 17) (v := 0) K rd3 q3.1) (fun v_ σ_ hq => ?_)
          obtain ⟨rfl, rd4⟩ := hq
          rename gS => σ4
          show sE g_tt _ _ _ 49 [some (.ref 333), some (.int (iZ o)), some (.int (iZ (i : Int)))] [.int (iZ (emP B3))] σ4
          refine q_pop dX1_readBoth_49 rfl ?_
          refine z_iinc dX1_readBoth_50 rfl (by decide) ?_
          show sE g_tt _ _ _ 53 [some (.ref 333), some (.int (iZ o)), some (.int (iZ ((i : Int) + 1)))] [] σ4
          refine q_goto (tgt := 7) dX1_readBoth_53 (by decide) ?_
          have s9 := lpS (m := 299 - i) hn ok q (by rw [show 299 - i + 1 = 300 - i by omega]; exact e) (by omega) (by omega) (cTk2 (by omega)) q3 hnd (fun w => ⟨b1, hbp _⟩)
          have tq : tk B1.2.2.1 = 17 := by omega
          exact ih (i + 1) σ4 (emB (tk B1.2.2.1) 0 B3) _ (by rw [tq]; exact rd4) s9.1 (by rw [show 300 - (i + 1) = 299 - i by omega]; exact s9.2) (by omega) (fun z => b01_jn (by rw [tq]; unfold cmO; omega) z) (by omega)
set_option maxHeartbeats 4000000 in
set_option maxRecDepth 100000 in
theorem x_readBoth {D nd nd0 : Nat} (hnd : nd0 + 1 ≤ nd) {σ : gS} {x n : Nat} {tk st nu : Nat → Int} {so : Int} (K : rdK σ x n tk st nu) {o : Int} {p : Nat → rE} (low : RC σ x n tk st so mX1_readAsk (D) (o) (nd0) (p)) (hbp : ∀ k, b0E (p k)) : RC σ x n tk st so mX1_readBoth (D + 1) (o) (nd) (ch p tk 17 17) := by
  intro d σ1 B hd rd ok
  refine sC_of rfl (Nat.le_of_ble_eq_true rfl) ?_
  show sE g_tt _ _ _ 0 [some (.ref 333), some (.int (iZ o)), none] [] σ1
  refine q_aload_n dX1_readBoth_0 rfl rfl ?_
  refine q_iload_n dX1_readBoth_1 rfl rfl ?_
  refine s_callV (ci := 1) (a := 333) (As := [.int (iZ o)]) (S := []) dX1_readBoth_2 okX1_readAsk mlX1_142 rfl (by omega) rfl (Nat.le_of_ble_eq_true rfl) (show kd 333 = 1 from rfl) (by decide) rfl (low (d - 1) σ1 B (by omega) rd ok) (fun v_ σ_ hq => ?_)
  obtain ⟨rfl, B2, rd2, q2⟩ := hq
  rename gS => σ2
  show sE g_tt _ _ _ 5 [some (.ref 333), some (.int (iZ o)), none] [] σ2
  refine z_iconst dX1_readBoth_5 ?_
  refine q_istore_n dX1_readBoth_6 rfl (by decide) ?_
  show sE g_tt _ _ _ 7 [some (.ref 333), some (.int (iZ o)), some (.int (iZ 0))] [] σ2
  exact lx_readBoth hd hnd K K.2.2.1 low hbp ok 301 0 σ2 B2 (p B.2.2.1) rd2 (rdQ_m q2 (by omega) (by omega)) (lp_0 _) (by omega) (hbp _) (by omega)
set_option maxHeartbeats 4000000 in
set_option maxRecDepth 100000 in
theorem lx_readEither {d D nd nd0 : Nat} (hd : D + 1 ≤ d) (hnd : nd0 + 1 ≤ nd) {σ : gS} {x n : Nat} {tk st nu : Nat → Int} {so : Int} (K : rdK σ x n tk st nu) (hn : n ≤ 300) {o : Int} {p : Nat → rE} (low : RC σ x n tk st so mX1_readBoth (D) (o) (nd0) (p)) (hbp : ∀ k, b0E (p k)) {B : rB} (ok : okB n B) {R : rE} : ∀ (g : Nat) (i : Nat) (σ1 : gS) (B1 : rB) (r1 : rE), rdR σ x tk so σ1 B1 → rdQ n st so B nd 0 r1 B1 → lpR p tk 16 16 (300 - i) r1 R → i ≤ 300 → b0E r1 → 300 - (i : Int) < (g : Int) → sE g_tt mX1_readEither d (fun r σ' => r = none ∧ ∃ B', rdR σ x tk so σ' B' ∧ rdQ n st so B nd 0 R B') 7 [some (.ref 333), some (.int (iZ o)), some (.int (iZ (i : Int)))] [] σ1 := by
  intro g
  induction g with
  | zero =>
    intro i σ1 B1 r1 rd q e hi b1 hg
    exact absurd hg (by omega)
  | succ g ih =>
    intro i σ1 B1 r1 rd q e hi b1 hg
    refine q_iload_n dX1_readEither_7 rfl rfl ?_
    refine z_sipush dX1_readEither_8 (by decide +kernel) ?_
    refine z_icmp_ge (tgt := 56) dX1_readEither_11 (by decide) (by unfold inR at *; omega) (by unfold inR at *; omega) (fun c_1 => ?_) (fun c_1 => ?_)
    · exact s_vret dX1_readEither_56 rfl ⟨rfl, B1, rd, lp_end q e (fun z => by first | exact Or.inr (by omega) | exact Or.inl (by omega) | exact absurd z (by omega))⟩
    · refine q_aload_n dX1_readEither_14 rfl rfl ?_
      refine sg1 (kf := 0) (v := .int (iZ B1.1)) dX1_readEither_15 flX1_9 (show kd 333 = 1 from rfl) (by decide) (by show some (Value.int (iZ ((σ1).1 333 0))) = _; rw [show (σ1).1 333 0 = B1.1 from rd.2.2.2.1]) ?_
      refine z_if_ne (tgt := 56) dX1_readEither_18 (by decide) q.1.1 (fun c_2 => ?_) (fun c_2 => ?_)
      · exact s_vret dX1_readEither_56 rfl ⟨rfl, B1, rd, lp_end q e (fun z => by first | exact Or.inr (by omega) | exact Or.inl (by omega) | exact absurd z (by omega))⟩
      · refine q_aload_n dX1_readEither_21 rfl rfl ?_
        refine sg1 (kf := 6) (v := .int (iZ (tk B1.2.2.1))) dX1_readEither_22 flX1_25 (show kd 333 = 1 from rfl) (by decide) (by show some (Value.int (iZ ((σ1).1 333 6))) = _; rw [show (σ1).1 333 6 = tk B1.2.2.1 from rd.2.2.2.2.2.2.2.1]) ?_
        refine z_bipush dX1_readEither_25 (by decide +kernel) ?_
        refine z_icmp_ne (tgt := 56) dX1_readEither_27 (by decide) (kt_r K q.1.2.1) (by unfold inR at *; omega) (fun c_3 => ?_) (fun c_3 => ?_)
        · exact s_vret dX1_readEither_56 rfl ⟨rfl, B1, rd, lp_end q e (fun z => by first | exact Or.inr (by omega) | exact Or.inl (by omega) | exact absurd z (by omega))⟩
        · refine q_aload_n dX1_readEither_30 rfl rfl ?_
          refine s_callV (ci := 1) (a := 333) (As := []) (S := []) dX1_readEither_31 okX1_advance mlX1_56 rfl (by omega) rfl (Nat.le_of_ble_eq_true rfl) (show kd 333 = 1 from rfl) (by decide) rfl (x_advance (d := d - 1) K rd (k_lt K q.1.2.1 (show tk B1.2.2.1 ≠ 39 by omega))) (fun v_ σ_ hq => ?_)
          obtain ⟨rfl, rd2⟩ := hq
          rename gS => σ2
          show sE g_tt _ _ _ 34 [some (.ref 333), some (.int (iZ o)), some (.int (iZ (i : Int)))] [] σ2
          refine q_aload_n dX1_readEither_34 rfl rfl ?_
          refine q_iload_n dX1_readEither_35 rfl rfl ?_
          refine s_callV (ci := 1) (a := 333) (As := [.int (iZ o)]) (S := []) dX1_readEither_36 okX1_readBoth mlX1_139 rfl (by omega) rfl (Nat.le_of_ble_eq_true rfl) (show kd 333 = 1 from rfl) (by decide) rfl (low (d - 1) σ2 (adB B1) (by omega) rd2 (okB_ad q.1 (k_lt K q.1.2.1 (show tk B1.2.2.1 ≠ 39 by omega)))) (fun v_ σ_ hq => ?_)
          obtain ⟨rfl, B3, rd3, q3⟩ := hq
          rename gS => σ3
          show sE g_tt _ _ _ 39 [some (.ref 333), some (.int (iZ o)), some (.int (iZ (i : Int)))] [] σ3
          refine q_aload_n dX1_readEither_39 rfl rfl ?_
          refine sg1 (kf := 3) (v := .ref x) dX1_readEither_40 flX1_32 (show kd 333 = 1 from rfl) (by decide) (by show some (va_rf ((σ3).2.2.2.2 333 3)) = _; rw [show (σ3).2.2.2.2 333 3 = some x from rd3.2.2.1]; rfl) ?_
          refine z_bipush dX1_readEither_43 (by decide +kernel) ?_
          refine z_iconst dX1_readEither_45 ?_
          refine s_callV (ci := 4) (a := x) (As := [.int (iZ 16), .int (iZ 0)]) (S := []) dX1_readEither_46 okX4_emit mlX1_107 rfl (by omega) rfl (Nat.le_of_ble_eq_true rfl) K.1 (by decide) rfl (x_emit (d := d - 1) (op := 16) (v := 0) K rd3 q3.1) (fun v_ σ_ hq => ?_)
          obtain ⟨rfl, rd4⟩ := hq
          rename gS => σ4
          show sE g_tt _ _ _ 49 [some (.ref 333), some (.int (iZ o)), some (.int (iZ (i : Int)))] [.int (iZ (emP B3))] σ4
          refine q_pop dX1_readEither_49 rfl ?_
          refine z_iinc dX1_readEither_50 rfl (by decide) ?_
          show sE g_tt _ _ _ 53 [some (.ref 333), some (.int (iZ o)), some (.int (iZ ((i : Int) + 1)))] [] σ4
          refine q_goto (tgt := 7) dX1_readEither_53 (by decide) ?_
          have s9 := lpS (m := 299 - i) hn ok q (by rw [show 299 - i + 1 = 300 - i by omega]; exact e) (by omega) (by omega) (cTk2 (by omega)) q3 hnd (fun w => ⟨b1, hbp _⟩)
          have tq : tk B1.2.2.1 = 16 := by omega
          exact ih (i + 1) σ4 (emB (tk B1.2.2.1) 0 B3) _ (by rw [tq]; exact rd4) s9.1 (by rw [show 300 - (i + 1) = 299 - i by omega]; exact s9.2) (by omega) (fun z => b01_jn (by rw [tq]; unfold cmO; omega) z) (by omega)
set_option maxHeartbeats 4000000 in
set_option maxRecDepth 100000 in
theorem x_readEither {D nd nd0 : Nat} (hnd : nd0 + 1 ≤ nd) {σ : gS} {x n : Nat} {tk st nu : Nat → Int} {so : Int} (K : rdK σ x n tk st nu) {o : Int} {p : Nat → rE} (low : RC σ x n tk st so mX1_readBoth (D) (o) (nd0) (p)) (hbp : ∀ k, b0E (p k)) : RC σ x n tk st so mX1_readEither (D + 1) (o) (nd) (ch p tk 16 16) := by
  intro d σ1 B hd rd ok
  refine sC_of rfl (Nat.le_of_ble_eq_true rfl) ?_
  show sE g_tt _ _ _ 0 [some (.ref 333), some (.int (iZ o)), none] [] σ1
  refine q_aload_n dX1_readEither_0 rfl rfl ?_
  refine q_iload_n dX1_readEither_1 rfl rfl ?_
  refine s_callV (ci := 1) (a := 333) (As := [.int (iZ o)]) (S := []) dX1_readEither_2 okX1_readBoth mlX1_139 rfl (by omega) rfl (Nat.le_of_ble_eq_true rfl) (show kd 333 = 1 from rfl) (by decide) rfl (low (d - 1) σ1 B (by omega) rd ok) (fun v_ σ_ hq => ?_)
  obtain ⟨rfl, B2, rd2, q2⟩ := hq
  rename gS => σ2
  show sE g_tt _ _ _ 5 [some (.ref 333), some (.int (iZ o)), none] [] σ2
  refine z_iconst dX1_readEither_5 ?_
  refine q_istore_n dX1_readEither_6 rfl (by decide) ?_
  show sE g_tt _ _ _ 7 [some (.ref 333), some (.int (iZ o)), some (.int (iZ 0))] [] σ2
  exact lx_readEither hd hnd K K.2.2.1 low hbp ok 301 0 σ2 B2 (p B.2.2.1) rd2 (rdQ_m q2 (by omega) (by omega)) (lp_0 _) (by omega) (hbp _) (by omega)
set_option maxHeartbeats 4000000 in
set_option maxRecDepth 100000 in
theorem x_readAsk {D nd nA nS : Nat} (m1 : nA ≤ nd) (m2 : nS + 1 ≤ nd) {σ : gS} {x n : Nat} {tk st nu : Nat → Int} {so : Int} (K : rdK σ x n tk st nu) {o oki : Int} (ho : inR o) (hok : oki = 0 ↔ 8 ≤ o) {low : lQ} (hl : okL low) {sum : Nat → rE} (lowA : o < 8 → RC σ x n tk st so mX1_readAsk (D) (o + 1) (nA) (low.2.2.1)) (lowS : RC σ x n tk st so mX1_readSum (D) (o) (nS) (sum)) : RC σ x n tk st so mX1_readAsk (D + 2) (o) (nd) (akB tk oki low sum) := by
  intro d σ1 B hd rd ok
  refine sC_of rfl (Nat.le_of_ble_eq_true rfl) ?_
  show sE g_tt _ _ _ 0 [some (.ref 333), some (.int (iZ o)), none, none] [] σ1
  refine q_aload_n dX1_readAsk_0 rfl rfl ?_
  refine sg1 (kf := 0) (v := .int (iZ B.1)) dX1_readAsk_1 flX1_9 (show kd 333 = 1 from rfl) (by decide) (by show some (Value.int (iZ ((σ1).1 333 0))) = _; rw [show (σ1).1 333 0 = B.1 from rd.2.2.2.1]) ?_
  refine z_if_ne (tgt := 43) dX1_readAsk_4 (by decide) ok.1 (fun c_1 => ?_) (fun c_1 => ?_)
  · refine q_aload_n dX1_readAsk_43 rfl rfl ?_
    refine q_iload_n dX1_readAsk_44 rfl rfl ?_
    refine s_callV (ci := 1) (a := 333) (As := [.int (iZ o)]) (S := []) dX1_readAsk_45 okX1_readSum mlX1_84 rfl (by omega) rfl (Nat.le_of_ble_eq_true rfl) (show kd 333 = 1 from rfl) (by decide) rfl (lowS (d - 1) σ1 B (by omega) rd ok) (fun v_ σ_ hq => ?_)
    obtain ⟨rfl, B2, rd2, q2⟩ := hq
    rename gS => σ2
    show sE g_tt _ _ _ 48 [some (.ref 333), some (.int (iZ o)), none, none] [] σ2
    refine q_aload_n dX1_readAsk_48 rfl rfl ?_
    refine sg1 (kf := 6) (v := .int (iZ (tk B2.2.2.1))) dX1_readAsk_49 flX1_25 (show kd 333 = 1 from rfl) (by decide) (by show some (Value.int (iZ ((σ2).1 333 6))) = _; rw [show (σ2).1 333 6 = tk B2.2.2.1 from rd2.2.2.2.2.2.2.2.1]) ?_
    refine q_istore_n dX1_readAsk_52 rfl (by decide) ?_
    show sE g_tt _ _ _ 53 [some (.ref 333), some (.int (iZ o)), some (.int (iZ (tk B2.2.2.1))), none] [] σ2
    refine q_iload_n dX1_readAsk_53 rfl rfl ?_
    refine z_bipush dX1_readAsk_54 (by decide +kernel) ?_
    refine z_icmp_lt (tgt := 65) dX1_readAsk_56 (by decide) (kt_r K q2.1.2.1) (by unfold inR at *; omega) (fun c_2 => ?_) (fun c_2 => ?_)
    · refine q_iload_n dX1_readAsk_65 rfl rfl ?_
      refine z_bipush dX1_readAsk_66 (by decide +kernel) ?_
      refine z_icmp_eq (tgt := 77) dX1_readAsk_68 (by decide) (kt_r K q2.1.2.1) (by unfold inR at *; omega) (fun c_3 => ?_) (fun c_3 => ?_)
      · refine z_iconst dX1_readAsk_77 ?_
        refine q_goto (tgt := 82) dX1_readAsk_78 (by decide) ?_
        refine q_istore_n dX1_readAsk_82 rfl (by decide) ?_
        show sE g_tt _ _ _ 83 [some (.ref 333), some (.int (iZ o)), some (.int (iZ (tk B2.2.2.1))), some (.int (iZ 1))] [] σ2
        refine q_iload_n dX1_readAsk_83 rfl rfl ?_
        refine z_if_eq (tgt := 116) dX1_readAsk_84 (by decide) (by unfold inR at *; omega) (fun c_4 => ?_) (fun c_4 => ?_)
        · exfalso
          revert c_4
          decide
        · refine q_aload_n dX1_readAsk_87 rfl rfl ?_
          refine sg1 (kf := 0) (v := .int (iZ B2.1)) dX1_readAsk_88 flX1_9 (show kd 333 = 1 from rfl) (by decide) (by show some (Value.int (iZ ((σ2).1 333 0))) = _; rw [show (σ2).1 333 0 = B2.1 from rd2.2.2.2.1]) ?_
          refine z_if_ne (tgt := 116) dX1_readAsk_91 (by decide) q2.1.1 (fun c_5 => ?_) (fun c_5 => ?_)
          · refine q_aload_n dX1_readAsk_116 rfl rfl ?_
            refine z_iconst dX1_readAsk_117 ?_
            refine s_callV (ci := 1) (a := 333) (As := [.int (iZ 1)]) (S := []) dX1_readAsk_118 okX1_fail mlX1_59 rfl (by omega) rfl (Nat.le_of_ble_eq_true rfl) (show kd 333 = 1 from rfl) (by decide) rfl (x_fail (d := d - 1) (c := 1) K rd2 q2.1) (fun v_ σ_ hq => ?_)
            obtain ⟨rfl, rd3⟩ := hq
            rename gS => σ3
            show sE g_tt _ _ _ 121 [some (.ref 333), some (.int (iZ o)), some (.int (iZ (tk B2.2.2.1))), some (.int (iZ 1))] [] σ3
            exact s_vret dX1_readAsk_121 rfl ⟨rfl, _, rd3, akX (fun z => by omega) (cmN (B1 := B2) q2 (fun z => by omega))⟩
          · refine q_aload_n dX1_readAsk_94 rfl rfl ?_
            refine s_callV (ci := 1) (a := 333) (As := []) (S := []) dX1_readAsk_95 okX1_advance mlX1_56 rfl (by omega) rfl (Nat.le_of_ble_eq_true rfl) (show kd 333 = 1 from rfl) (by decide) rfl (x_advance (d := d - 1) K rd2 (k_lt K q2.1.2.1 (show tk B2.2.2.1 ≠ 39 by omega))) (fun v_ σ_ hq => ?_)
            obtain ⟨rfl, rd3⟩ := hq
            rename gS => σ3
            show sE g_tt _ _ _ 98 [some (.ref 333), some (.int (iZ o)), some (.int (iZ (tk B2.2.2.1))), some (.int (iZ 1))] [] σ3
            refine q_aload_n dX1_readAsk_98 rfl rfl ?_
            refine q_iload_n dX1_readAsk_99 rfl rfl ?_
            refine s_callV (ci := 1) (a := 333) (As := [.int (iZ o)]) (S := []) dX1_readAsk_100 okX1_readSum mlX1_84 rfl (by omega) rfl (Nat.le_of_ble_eq_true rfl) (show kd 333 = 1 from rfl) (by decide) rfl (lowS (d - 1) σ3 (adB B2) (by omega) rd3 (okB_ad q2.1 (k_lt K q2.1.2.1 (show tk B2.2.2.1 ≠ 39 by omega)))) (fun v_ σ_ hq => ?_)
            obtain ⟨rfl, B4, rd4, q4⟩ := hq
            rename gS => σ4
            show sE g_tt _ _ _ 103 [some (.ref 333), some (.int (iZ o)), some (.int (iZ (tk B2.2.2.1))), some (.int (iZ 1))] [] σ4
            refine q_aload_n dX1_readAsk_103 rfl rfl ?_
            refine sg1 (kf := 3) (v := .ref x) dX1_readAsk_104 flX1_32 (show kd 333 = 1 from rfl) (by decide) (by show some (va_rf ((σ4).2.2.2.2 333 3)) = _; rw [show (σ4).2.2.2.2 333 3 = some x from rd4.2.2.1]; rfl) ?_
            refine q_iload_n dX1_readAsk_107 rfl rfl ?_
            refine z_iconst dX1_readAsk_108 ?_
            refine s_callV (ci := 4) (a := x) (As := [.int (iZ (tk B2.2.2.1)), .int (iZ 0)]) (S := []) dX1_readAsk_109 okX4_emit mlX1_107 rfl (by omega) rfl (Nat.le_of_ble_eq_true rfl) K.1 (by decide) rfl (x_emit (d := d - 1) (op := tk B2.2.2.1) (v := 0) K rd4 q4.1) (fun v_ σ_ hq => ?_)
            obtain ⟨rfl, rd5⟩ := hq
            rename gS => σ5
            show sE g_tt _ _ _ 112 [some (.ref 333), some (.int (iZ o)), some (.int (iZ (tk B2.2.2.1))), some (.int (iZ 1))] [.int (iZ (emP B4))] σ5
            refine q_pop dX1_readAsk_112 rfl ?_
            refine q_goto (tgt := 121) dX1_readAsk_113 (by decide) ?_
            exact s_vret dX1_readAsk_121 rfl ⟨rfl, _, rd5, akX (fun z => by omega) (cmX K.2.2.1 ok q2 (by omega) (by omega) q4 (by omega))⟩
      · refine q_iload_n dX1_readAsk_71 rfl rfl ?_
        refine z_bipush dX1_readAsk_72 (by decide +kernel) ?_
        refine z_icmp_ne (tgt := 81) dX1_readAsk_74 (by decide) (kt_r K q2.1.2.1) (by unfold inR at *; omega) (fun c_6 => ?_) (fun c_6 => ?_)
        · refine z_iconst dX1_readAsk_81 ?_
          refine q_istore_n dX1_readAsk_82 rfl (by decide) ?_
          show sE g_tt _ _ _ 83 [some (.ref 333), some (.int (iZ o)), some (.int (iZ (tk B2.2.2.1))), some (.int (iZ 0))] [] σ2
          refine q_iload_n dX1_readAsk_83 rfl rfl ?_
          refine z_if_eq (tgt := 116) dX1_readAsk_84 (by decide) (by unfold inR at *; omega) (fun c_7 => ?_) (fun c_7 => ?_)
          · refine q_aload_n dX1_readAsk_116 rfl rfl ?_
            refine z_iconst dX1_readAsk_117 ?_
            refine s_callV (ci := 1) (a := 333) (As := [.int (iZ 1)]) (S := []) dX1_readAsk_118 okX1_fail mlX1_59 rfl (by omega) rfl (Nat.le_of_ble_eq_true rfl) (show kd 333 = 1 from rfl) (by decide) rfl (x_fail (d := d - 1) (c := 1) K rd2 q2.1) (fun v_ σ_ hq => ?_)
            obtain ⟨rfl, rd3⟩ := hq
            rename gS => σ3
            show sE g_tt _ _ _ 121 [some (.ref 333), some (.int (iZ o)), some (.int (iZ (tk B2.2.2.1))), some (.int (iZ 0))] [] σ3
            exact s_vret dX1_readAsk_121 rfl ⟨rfl, _, rd3, akX (fun z => by omega) (cmN (B1 := B2) q2 (fun z => by omega))⟩
          · exfalso
            revert c_7
            decide
        · refine z_iconst dX1_readAsk_77 ?_
          refine q_goto (tgt := 82) dX1_readAsk_78 (by decide) ?_
          refine q_istore_n dX1_readAsk_82 rfl (by decide) ?_
          show sE g_tt _ _ _ 83 [some (.ref 333), some (.int (iZ o)), some (.int (iZ (tk B2.2.2.1))), some (.int (iZ 1))] [] σ2
          refine q_iload_n dX1_readAsk_83 rfl rfl ?_
          refine z_if_eq (tgt := 116) dX1_readAsk_84 (by decide) (by unfold inR at *; omega) (fun c_8 => ?_) (fun c_8 => ?_)
          · exfalso
            revert c_8
            decide
          · refine q_aload_n dX1_readAsk_87 rfl rfl ?_
            refine sg1 (kf := 0) (v := .int (iZ B2.1)) dX1_readAsk_88 flX1_9 (show kd 333 = 1 from rfl) (by decide) (by show some (Value.int (iZ ((σ2).1 333 0))) = _; rw [show (σ2).1 333 0 = B2.1 from rd2.2.2.2.1]) ?_
            refine z_if_ne (tgt := 116) dX1_readAsk_91 (by decide) q2.1.1 (fun c_9 => ?_) (fun c_9 => ?_)
            · refine q_aload_n dX1_readAsk_116 rfl rfl ?_
              refine z_iconst dX1_readAsk_117 ?_
              refine s_callV (ci := 1) (a := 333) (As := [.int (iZ 1)]) (S := []) dX1_readAsk_118 okX1_fail mlX1_59 rfl (by omega) rfl (Nat.le_of_ble_eq_true rfl) (show kd 333 = 1 from rfl) (by decide) rfl (x_fail (d := d - 1) (c := 1) K rd2 q2.1) (fun v_ σ_ hq => ?_)
              obtain ⟨rfl, rd3⟩ := hq
              rename gS => σ3
              show sE g_tt _ _ _ 121 [some (.ref 333), some (.int (iZ o)), some (.int (iZ (tk B2.2.2.1))), some (.int (iZ 1))] [] σ3
              exact s_vret dX1_readAsk_121 rfl ⟨rfl, _, rd3, akX (fun z => by omega) (cmN (B1 := B2) q2 (fun z => by omega))⟩
            · refine q_aload_n dX1_readAsk_94 rfl rfl ?_
              refine s_callV (ci := 1) (a := 333) (As := []) (S := []) dX1_readAsk_95 okX1_advance mlX1_56 rfl (by omega) rfl (Nat.le_of_ble_eq_true rfl) (show kd 333 = 1 from rfl) (by decide) rfl (x_advance (d := d - 1) K rd2 (k_lt K q2.1.2.1 (show tk B2.2.2.1 ≠ 39 by omega))) (fun v_ σ_ hq => ?_)
              obtain ⟨rfl, rd3⟩ := hq
              rename gS => σ3
              show sE g_tt _ _ _ 98 [some (.ref 333), some (.int (iZ o)), some (.int (iZ (tk B2.2.2.1))), some (.int (iZ 1))] [] σ3
              refine q_aload_n dX1_readAsk_98 rfl rfl ?_
              refine q_iload_n dX1_readAsk_99 rfl rfl ?_
              refine s_callV (ci := 1) (a := 333) (As := [.int (iZ o)]) (S := []) dX1_readAsk_100 okX1_readSum mlX1_84 rfl (by omega) rfl (Nat.le_of_ble_eq_true rfl) (show kd 333 = 1 from rfl) (by decide) rfl (lowS (d - 1) σ3 (adB B2) (by omega) rd3 (okB_ad q2.1 (k_lt K q2.1.2.1 (show tk B2.2.2.1 ≠ 39 by omega)))) (fun v_ σ_ hq => ?_)
              obtain ⟨rfl, B4, rd4, q4⟩ := hq
              rename gS => σ4
              show sE g_tt _ _ _ 103 [some (.ref 333), some (.int (iZ o)), some (.int (iZ (tk B2.2.2.1))), some (.int (iZ 1))] [] σ4
              refine q_aload_n dX1_readAsk_103 rfl rfl ?_
              refine sg1 (kf := 3) (v := .ref x) dX1_readAsk_104 flX1_32 (show kd 333 = 1 from rfl) (by decide) (by show some (va_rf ((σ4).2.2.2.2 333 3)) = _; rw [show (σ4).2.2.2.2 333 3 = some x from rd4.2.2.1]; rfl) ?_
              refine q_iload_n dX1_readAsk_107 rfl rfl ?_
              refine z_iconst dX1_readAsk_108 ?_
              refine s_callV (ci := 4) (a := x) (As := [.int (iZ (tk B2.2.2.1)), .int (iZ 0)]) (S := []) dX1_readAsk_109 okX4_emit mlX1_107 rfl (by omega) rfl (Nat.le_of_ble_eq_true rfl) K.1 (by decide) rfl (x_emit (d := d - 1) (op := tk B2.2.2.1) (v := 0) K rd4 q4.1) (fun v_ σ_ hq => ?_)
              obtain ⟨rfl, rd5⟩ := hq
              rename gS => σ5
              show sE g_tt _ _ _ 112 [some (.ref 333), some (.int (iZ o)), some (.int (iZ (tk B2.2.2.1))), some (.int (iZ 1))] [.int (iZ (emP B4))] σ5
              refine q_pop dX1_readAsk_112 rfl ?_
              refine q_goto (tgt := 121) dX1_readAsk_113 (by decide) ?_
              exact s_vret dX1_readAsk_121 rfl ⟨rfl, _, rd5, akX (fun z => by omega) (cmX K.2.2.1 ok q2 (by omega) (by omega) q4 (by omega))⟩
    · refine q_iload_n dX1_readAsk_59 rfl rfl ?_
      refine z_bipush dX1_readAsk_60 (by decide +kernel) ?_
      refine z_icmp_le (tgt := 77) dX1_readAsk_62 (by decide) (kt_r K q2.1.2.1) (by unfold inR at *; omega) (fun c_10 => ?_) (fun c_10 => ?_)
      · refine z_iconst dX1_readAsk_77 ?_
        refine q_goto (tgt := 82) dX1_readAsk_78 (by decide) ?_
        refine q_istore_n dX1_readAsk_82 rfl (by decide) ?_
        show sE g_tt _ _ _ 83 [some (.ref 333), some (.int (iZ o)), some (.int (iZ (tk B2.2.2.1))), some (.int (iZ 1))] [] σ2
        refine q_iload_n dX1_readAsk_83 rfl rfl ?_
        refine z_if_eq (tgt := 116) dX1_readAsk_84 (by decide) (by unfold inR at *; omega) (fun c_11 => ?_) (fun c_11 => ?_)
        · exfalso
          revert c_11
          decide
        · refine q_aload_n dX1_readAsk_87 rfl rfl ?_
          refine sg1 (kf := 0) (v := .int (iZ B2.1)) dX1_readAsk_88 flX1_9 (show kd 333 = 1 from rfl) (by decide) (by show some (Value.int (iZ ((σ2).1 333 0))) = _; rw [show (σ2).1 333 0 = B2.1 from rd2.2.2.2.1]) ?_
          refine z_if_ne (tgt := 116) dX1_readAsk_91 (by decide) q2.1.1 (fun c_12 => ?_) (fun c_12 => ?_)
          · refine q_aload_n dX1_readAsk_116 rfl rfl ?_
            refine z_iconst dX1_readAsk_117 ?_
            refine s_callV (ci := 1) (a := 333) (As := [.int (iZ 1)]) (S := []) dX1_readAsk_118 okX1_fail mlX1_59 rfl (by omega) rfl (Nat.le_of_ble_eq_true rfl) (show kd 333 = 1 from rfl) (by decide) rfl (x_fail (d := d - 1) (c := 1) K rd2 q2.1) (fun v_ σ_ hq => ?_)
            obtain ⟨rfl, rd3⟩ := hq
            rename gS => σ3
            show sE g_tt _ _ _ 121 [some (.ref 333), some (.int (iZ o)), some (.int (iZ (tk B2.2.2.1))), some (.int (iZ 1))] [] σ3
            exact s_vret dX1_readAsk_121 rfl ⟨rfl, _, rd3, akX (fun z => by omega) (cmN (B1 := B2) q2 (fun z => by omega))⟩
          · refine q_aload_n dX1_readAsk_94 rfl rfl ?_
            refine s_callV (ci := 1) (a := 333) (As := []) (S := []) dX1_readAsk_95 okX1_advance mlX1_56 rfl (by omega) rfl (Nat.le_of_ble_eq_true rfl) (show kd 333 = 1 from rfl) (by decide) rfl (x_advance (d := d - 1) K rd2 (k_lt K q2.1.2.1 (show tk B2.2.2.1 ≠ 39 by omega))) (fun v_ σ_ hq => ?_)
            obtain ⟨rfl, rd3⟩ := hq
            rename gS => σ3
            show sE g_tt _ _ _ 98 [some (.ref 333), some (.int (iZ o)), some (.int (iZ (tk B2.2.2.1))), some (.int (iZ 1))] [] σ3
            refine q_aload_n dX1_readAsk_98 rfl rfl ?_
            refine q_iload_n dX1_readAsk_99 rfl rfl ?_
            refine s_callV (ci := 1) (a := 333) (As := [.int (iZ o)]) (S := []) dX1_readAsk_100 okX1_readSum mlX1_84 rfl (by omega) rfl (Nat.le_of_ble_eq_true rfl) (show kd 333 = 1 from rfl) (by decide) rfl (lowS (d - 1) σ3 (adB B2) (by omega) rd3 (okB_ad q2.1 (k_lt K q2.1.2.1 (show tk B2.2.2.1 ≠ 39 by omega)))) (fun v_ σ_ hq => ?_)
            obtain ⟨rfl, B4, rd4, q4⟩ := hq
            rename gS => σ4
            show sE g_tt _ _ _ 103 [some (.ref 333), some (.int (iZ o)), some (.int (iZ (tk B2.2.2.1))), some (.int (iZ 1))] [] σ4
            refine q_aload_n dX1_readAsk_103 rfl rfl ?_
            refine sg1 (kf := 3) (v := .ref x) dX1_readAsk_104 flX1_32 (show kd 333 = 1 from rfl) (by decide) (by show some (va_rf ((σ4).2.2.2.2 333 3)) = _; rw [show (σ4).2.2.2.2 333 3 = some x from rd4.2.2.1]; rfl) ?_
            refine q_iload_n dX1_readAsk_107 rfl rfl ?_
            refine z_iconst dX1_readAsk_108 ?_
            refine s_callV (ci := 4) (a := x) (As := [.int (iZ (tk B2.2.2.1)), .int (iZ 0)]) (S := []) dX1_readAsk_109 okX4_emit mlX1_107 rfl (by omega) rfl (Nat.le_of_ble_eq_true rfl) K.1 (by decide) rfl (x_emit (d := d - 1) (op := tk B2.2.2.1) (v := 0) K rd4 q4.1) (fun v_ σ_ hq => ?_)
            obtain ⟨rfl, rd5⟩ := hq
            rename gS => σ5
            show sE g_tt _ _ _ 112 [some (.ref 333), some (.int (iZ o)), some (.int (iZ (tk B2.2.2.1))), some (.int (iZ 1))] [.int (iZ (emP B4))] σ5
            refine q_pop dX1_readAsk_112 rfl ?_
            refine q_goto (tgt := 121) dX1_readAsk_113 (by decide) ?_
            exact s_vret dX1_readAsk_121 rfl ⟨rfl, _, rd5, akX (fun z => by omega) (cmX K.2.2.1 ok q2 (by omega) (by omega) q4 (by omega))⟩
      · refine q_iload_n dX1_readAsk_65 rfl rfl ?_
        refine z_bipush dX1_readAsk_66 (by decide +kernel) ?_
        refine z_icmp_eq (tgt := 77) dX1_readAsk_68 (by decide) (kt_r K q2.1.2.1) (by unfold inR at *; omega) (fun c_13 => ?_) (fun c_13 => ?_)
        · refine z_iconst dX1_readAsk_77 ?_
          refine q_goto (tgt := 82) dX1_readAsk_78 (by decide) ?_
          refine q_istore_n dX1_readAsk_82 rfl (by decide) ?_
          show sE g_tt _ _ _ 83 [some (.ref 333), some (.int (iZ o)), some (.int (iZ (tk B2.2.2.1))), some (.int (iZ 1))] [] σ2
          refine q_iload_n dX1_readAsk_83 rfl rfl ?_
          refine z_if_eq (tgt := 116) dX1_readAsk_84 (by decide) (by unfold inR at *; omega) (fun c_14 => ?_) (fun c_14 => ?_)
          · exfalso
            revert c_14
            decide
          · refine q_aload_n dX1_readAsk_87 rfl rfl ?_
            refine sg1 (kf := 0) (v := .int (iZ B2.1)) dX1_readAsk_88 flX1_9 (show kd 333 = 1 from rfl) (by decide) (by show some (Value.int (iZ ((σ2).1 333 0))) = _; rw [show (σ2).1 333 0 = B2.1 from rd2.2.2.2.1]) ?_
            refine z_if_ne (tgt := 116) dX1_readAsk_91 (by decide) q2.1.1 (fun c_15 => ?_) (fun c_15 => ?_)
            · refine q_aload_n dX1_readAsk_116 rfl rfl ?_
              refine z_iconst dX1_readAsk_117 ?_
              refine s_callV (ci := 1) (a := 333) (As := [.int (iZ 1)]) (S := []) dX1_readAsk_118 okX1_fail mlX1_59 rfl (by omega) rfl (Nat.le_of_ble_eq_true rfl) (show kd 333 = 1 from rfl) (by decide) rfl (x_fail (d := d - 1) (c := 1) K rd2 q2.1) (fun v_ σ_ hq => ?_)
              obtain ⟨rfl, rd3⟩ := hq
              rename gS => σ3
              show sE g_tt _ _ _ 121 [some (.ref 333), some (.int (iZ o)), some (.int (iZ (tk B2.2.2.1))), some (.int (iZ 1))] [] σ3
              exact s_vret dX1_readAsk_121 rfl ⟨rfl, _, rd3, akX (fun z => by omega) (cmN (B1 := B2) q2 (fun z => by omega))⟩
            · refine q_aload_n dX1_readAsk_94 rfl rfl ?_
              refine s_callV (ci := 1) (a := 333) (As := []) (S := []) dX1_readAsk_95 okX1_advance mlX1_56 rfl (by omega) rfl (Nat.le_of_ble_eq_true rfl) (show kd 333 = 1 from rfl) (by decide) rfl (x_advance (d := d - 1) K rd2 (k_lt K q2.1.2.1 (show tk B2.2.2.1 ≠ 39 by omega))) (fun v_ σ_ hq => ?_)
              obtain ⟨rfl, rd3⟩ := hq
              rename gS => σ3
              show sE g_tt _ _ _ 98 [some (.ref 333), some (.int (iZ o)), some (.int (iZ (tk B2.2.2.1))), some (.int (iZ 1))] [] σ3
              refine q_aload_n dX1_readAsk_98 rfl rfl ?_
              refine q_iload_n dX1_readAsk_99 rfl rfl ?_
              refine s_callV (ci := 1) (a := 333) (As := [.int (iZ o)]) (S := []) dX1_readAsk_100 okX1_readSum mlX1_84 rfl (by omega) rfl (Nat.le_of_ble_eq_true rfl) (show kd 333 = 1 from rfl) (by decide) rfl (lowS (d - 1) σ3 (adB B2) (by omega) rd3 (okB_ad q2.1 (k_lt K q2.1.2.1 (show tk B2.2.2.1 ≠ 39 by omega)))) (fun v_ σ_ hq => ?_)
              obtain ⟨rfl, B4, rd4, q4⟩ := hq
              rename gS => σ4
              show sE g_tt _ _ _ 103 [some (.ref 333), some (.int (iZ o)), some (.int (iZ (tk B2.2.2.1))), some (.int (iZ 1))] [] σ4
              refine q_aload_n dX1_readAsk_103 rfl rfl ?_
              refine sg1 (kf := 3) (v := .ref x) dX1_readAsk_104 flX1_32 (show kd 333 = 1 from rfl) (by decide) (by show some (va_rf ((σ4).2.2.2.2 333 3)) = _; rw [show (σ4).2.2.2.2 333 3 = some x from rd4.2.2.1]; rfl) ?_
              refine q_iload_n dX1_readAsk_107 rfl rfl ?_
              refine z_iconst dX1_readAsk_108 ?_
              refine s_callV (ci := 4) (a := x) (As := [.int (iZ (tk B2.2.2.1)), .int (iZ 0)]) (S := []) dX1_readAsk_109 okX4_emit mlX1_107 rfl (by omega) rfl (Nat.le_of_ble_eq_true rfl) K.1 (by decide) rfl (x_emit (d := d - 1) (op := tk B2.2.2.1) (v := 0) K rd4 q4.1) (fun v_ σ_ hq => ?_)
              obtain ⟨rfl, rd5⟩ := hq
              rename gS => σ5
              show sE g_tt _ _ _ 112 [some (.ref 333), some (.int (iZ o)), some (.int (iZ (tk B2.2.2.1))), some (.int (iZ 1))] [.int (iZ (emP B4))] σ5
              refine q_pop dX1_readAsk_112 rfl ?_
              refine q_goto (tgt := 121) dX1_readAsk_113 (by decide) ?_
              exact s_vret dX1_readAsk_121 rfl ⟨rfl, _, rd5, akX (fun z => by omega) (cmX K.2.2.1 ok q2 (by omega) (by omega) q4 (by omega))⟩
        · refine q_iload_n dX1_readAsk_71 rfl rfl ?_
          refine z_bipush dX1_readAsk_72 (by decide +kernel) ?_
          refine z_icmp_ne (tgt := 81) dX1_readAsk_74 (by decide) (kt_r K q2.1.2.1) (by unfold inR at *; omega) (fun c_16 => ?_) (fun c_16 => ?_)
          · refine z_iconst dX1_readAsk_81 ?_
            refine q_istore_n dX1_readAsk_82 rfl (by decide) ?_
            show sE g_tt _ _ _ 83 [some (.ref 333), some (.int (iZ o)), some (.int (iZ (tk B2.2.2.1))), some (.int (iZ 0))] [] σ2
            refine q_iload_n dX1_readAsk_83 rfl rfl ?_
            refine z_if_eq (tgt := 116) dX1_readAsk_84 (by decide) (by unfold inR at *; omega) (fun c_17 => ?_) (fun c_17 => ?_)
            · refine q_aload_n dX1_readAsk_116 rfl rfl ?_
              refine z_iconst dX1_readAsk_117 ?_
              refine s_callV (ci := 1) (a := 333) (As := [.int (iZ 1)]) (S := []) dX1_readAsk_118 okX1_fail mlX1_59 rfl (by omega) rfl (Nat.le_of_ble_eq_true rfl) (show kd 333 = 1 from rfl) (by decide) rfl (x_fail (d := d - 1) (c := 1) K rd2 q2.1) (fun v_ σ_ hq => ?_)
              obtain ⟨rfl, rd3⟩ := hq
              rename gS => σ3
              show sE g_tt _ _ _ 121 [some (.ref 333), some (.int (iZ o)), some (.int (iZ (tk B2.2.2.1))), some (.int (iZ 0))] [] σ3
              exact s_vret dX1_readAsk_121 rfl ⟨rfl, _, rd3, akX (fun z => by omega) (cmN (B1 := B2) q2 (fun z => by omega))⟩
            · exfalso
              revert c_17
              decide
          · refine z_iconst dX1_readAsk_77 ?_
            refine q_goto (tgt := 82) dX1_readAsk_78 (by decide) ?_
            refine q_istore_n dX1_readAsk_82 rfl (by decide) ?_
            show sE g_tt _ _ _ 83 [some (.ref 333), some (.int (iZ o)), some (.int (iZ (tk B2.2.2.1))), some (.int (iZ 1))] [] σ2
            refine q_iload_n dX1_readAsk_83 rfl rfl ?_
            refine z_if_eq (tgt := 116) dX1_readAsk_84 (by decide) (by unfold inR at *; omega) (fun c_18 => ?_) (fun c_18 => ?_)
            · exfalso
              revert c_18
              decide
            · refine q_aload_n dX1_readAsk_87 rfl rfl ?_
              refine sg1 (kf := 0) (v := .int (iZ B2.1)) dX1_readAsk_88 flX1_9 (show kd 333 = 1 from rfl) (by decide) (by show some (Value.int (iZ ((σ2).1 333 0))) = _; rw [show (σ2).1 333 0 = B2.1 from rd2.2.2.2.1]) ?_
              refine z_if_ne (tgt := 116) dX1_readAsk_91 (by decide) q2.1.1 (fun c_19 => ?_) (fun c_19 => ?_)
              · refine q_aload_n dX1_readAsk_116 rfl rfl ?_
                refine z_iconst dX1_readAsk_117 ?_
                refine s_callV (ci := 1) (a := 333) (As := [.int (iZ 1)]) (S := []) dX1_readAsk_118 okX1_fail mlX1_59 rfl (by omega) rfl (Nat.le_of_ble_eq_true rfl) (show kd 333 = 1 from rfl) (by decide) rfl (x_fail (d := d - 1) (c := 1) K rd2 q2.1) (fun v_ σ_ hq => ?_)
                obtain ⟨rfl, rd3⟩ := hq
                rename gS => σ3
                show sE g_tt _ _ _ 121 [some (.ref 333), some (.int (iZ o)), some (.int (iZ (tk B2.2.2.1))), some (.int (iZ 1))] [] σ3
                exact s_vret dX1_readAsk_121 rfl ⟨rfl, _, rd3, akX (fun z => by omega) (cmN (B1 := B2) q2 (fun z => by omega))⟩
              · refine q_aload_n dX1_readAsk_94 rfl rfl ?_
                refine s_callV (ci := 1) (a := 333) (As := []) (S := []) dX1_readAsk_95 okX1_advance mlX1_56 rfl (by omega) rfl (Nat.le_of_ble_eq_true rfl) (show kd 333 = 1 from rfl) (by decide) rfl (x_advance (d := d - 1) K rd2 (k_lt K q2.1.2.1 (show tk B2.2.2.1 ≠ 39 by omega))) (fun v_ σ_ hq => ?_)
                obtain ⟨rfl, rd3⟩ := hq
                rename gS => σ3
                show sE g_tt _ _ _ 98 [some (.ref 333), some (.int (iZ o)), some (.int (iZ (tk B2.2.2.1))), some (.int (iZ 1))] [] σ3
                refine q_aload_n dX1_readAsk_98 rfl rfl ?_
                refine q_iload_n dX1_readAsk_99 rfl rfl ?_
                refine s_callV (ci := 1) (a := 333) (As := [.int (iZ o)]) (S := []) dX1_readAsk_100 okX1_readSum mlX1_84 rfl (by omega) rfl (Nat.le_of_ble_eq_true rfl) (show kd 333 = 1 from rfl) (by decide) rfl (lowS (d - 1) σ3 (adB B2) (by omega) rd3 (okB_ad q2.1 (k_lt K q2.1.2.1 (show tk B2.2.2.1 ≠ 39 by omega)))) (fun v_ σ_ hq => ?_)
                obtain ⟨rfl, B4, rd4, q4⟩ := hq
                rename gS => σ4
                show sE g_tt _ _ _ 103 [some (.ref 333), some (.int (iZ o)), some (.int (iZ (tk B2.2.2.1))), some (.int (iZ 1))] [] σ4
                refine q_aload_n dX1_readAsk_103 rfl rfl ?_
                refine sg1 (kf := 3) (v := .ref x) dX1_readAsk_104 flX1_32 (show kd 333 = 1 from rfl) (by decide) (by show some (va_rf ((σ4).2.2.2.2 333 3)) = _; rw [show (σ4).2.2.2.2 333 3 = some x from rd4.2.2.1]; rfl) ?_
                refine q_iload_n dX1_readAsk_107 rfl rfl ?_
                refine z_iconst dX1_readAsk_108 ?_
                refine s_callV (ci := 4) (a := x) (As := [.int (iZ (tk B2.2.2.1)), .int (iZ 0)]) (S := []) dX1_readAsk_109 okX4_emit mlX1_107 rfl (by omega) rfl (Nat.le_of_ble_eq_true rfl) K.1 (by decide) rfl (x_emit (d := d - 1) (op := tk B2.2.2.1) (v := 0) K rd4 q4.1) (fun v_ σ_ hq => ?_)
                obtain ⟨rfl, rd5⟩ := hq
                rename gS => σ5
                show sE g_tt _ _ _ 112 [some (.ref 333), some (.int (iZ o)), some (.int (iZ (tk B2.2.2.1))), some (.int (iZ 1))] [.int (iZ (emP B4))] σ5
                refine q_pop dX1_readAsk_112 rfl ?_
                refine q_goto (tgt := 121) dX1_readAsk_113 (by decide) ?_
                exact s_vret dX1_readAsk_121 rfl ⟨rfl, _, rd5, akX (fun z => by omega) (cmX K.2.2.1 ok q2 (by omega) (by omega) q4 (by omega))⟩
  · refine q_aload_n dX1_readAsk_7 rfl rfl ?_
    refine sg1 (kf := 6) (v := .int (iZ (tk B.2.2.1))) dX1_readAsk_8 flX1_25 (show kd 333 = 1 from rfl) (by decide) (by show some (Value.int (iZ ((σ1).1 333 6))) = _; rw [show (σ1).1 333 6 = tk B.2.2.1 from rd.2.2.2.2.2.2.2.1]) ?_
    refine z_bipush dX1_readAsk_11 (by decide +kernel) ?_
    refine z_icmp_ne (tgt := 43) dX1_readAsk_13 (by decide) (kt_r K ok.2.1) (by unfold inR at *; omega) (fun c_20 => ?_) (fun c_20 => ?_)
    · refine q_aload_n dX1_readAsk_43 rfl rfl ?_
      refine q_iload_n dX1_readAsk_44 rfl rfl ?_
      refine s_callV (ci := 1) (a := 333) (As := [.int (iZ o)]) (S := []) dX1_readAsk_45 okX1_readSum mlX1_84 rfl (by omega) rfl (Nat.le_of_ble_eq_true rfl) (show kd 333 = 1 from rfl) (by decide) rfl (lowS (d - 1) σ1 B (by omega) rd ok) (fun v_ σ_ hq => ?_)
      obtain ⟨rfl, B2, rd2, q2⟩ := hq
      rename gS => σ2
      show sE g_tt _ _ _ 48 [some (.ref 333), some (.int (iZ o)), none, none] [] σ2
      refine q_aload_n dX1_readAsk_48 rfl rfl ?_
      refine sg1 (kf := 6) (v := .int (iZ (tk B2.2.2.1))) dX1_readAsk_49 flX1_25 (show kd 333 = 1 from rfl) (by decide) (by show some (Value.int (iZ ((σ2).1 333 6))) = _; rw [show (σ2).1 333 6 = tk B2.2.2.1 from rd2.2.2.2.2.2.2.2.1]) ?_
      refine q_istore_n dX1_readAsk_52 rfl (by decide) ?_
      show sE g_tt _ _ _ 53 [some (.ref 333), some (.int (iZ o)), some (.int (iZ (tk B2.2.2.1))), none] [] σ2
      refine q_iload_n dX1_readAsk_53 rfl rfl ?_
      refine z_bipush dX1_readAsk_54 (by decide +kernel) ?_
      refine z_icmp_lt (tgt := 65) dX1_readAsk_56 (by decide) (kt_r K q2.1.2.1) (by unfold inR at *; omega) (fun c_21 => ?_) (fun c_21 => ?_)
      · refine q_iload_n dX1_readAsk_65 rfl rfl ?_
        refine z_bipush dX1_readAsk_66 (by decide +kernel) ?_
        refine z_icmp_eq (tgt := 77) dX1_readAsk_68 (by decide) (kt_r K q2.1.2.1) (by unfold inR at *; omega) (fun c_22 => ?_) (fun c_22 => ?_)
        · refine z_iconst dX1_readAsk_77 ?_
          refine q_goto (tgt := 82) dX1_readAsk_78 (by decide) ?_
          refine q_istore_n dX1_readAsk_82 rfl (by decide) ?_
          show sE g_tt _ _ _ 83 [some (.ref 333), some (.int (iZ o)), some (.int (iZ (tk B2.2.2.1))), some (.int (iZ 1))] [] σ2
          refine q_iload_n dX1_readAsk_83 rfl rfl ?_
          refine z_if_eq (tgt := 116) dX1_readAsk_84 (by decide) (by unfold inR at *; omega) (fun c_23 => ?_) (fun c_23 => ?_)
          · exfalso
            revert c_23
            decide
          · refine q_aload_n dX1_readAsk_87 rfl rfl ?_
            refine sg1 (kf := 0) (v := .int (iZ B2.1)) dX1_readAsk_88 flX1_9 (show kd 333 = 1 from rfl) (by decide) (by show some (Value.int (iZ ((σ2).1 333 0))) = _; rw [show (σ2).1 333 0 = B2.1 from rd2.2.2.2.1]) ?_
            refine z_if_ne (tgt := 116) dX1_readAsk_91 (by decide) q2.1.1 (fun c_24 => ?_) (fun c_24 => ?_)
            · refine q_aload_n dX1_readAsk_116 rfl rfl ?_
              refine z_iconst dX1_readAsk_117 ?_
              refine s_callV (ci := 1) (a := 333) (As := [.int (iZ 1)]) (S := []) dX1_readAsk_118 okX1_fail mlX1_59 rfl (by omega) rfl (Nat.le_of_ble_eq_true rfl) (show kd 333 = 1 from rfl) (by decide) rfl (x_fail (d := d - 1) (c := 1) K rd2 q2.1) (fun v_ σ_ hq => ?_)
              obtain ⟨rfl, rd3⟩ := hq
              rename gS => σ3
              show sE g_tt _ _ _ 121 [some (.ref 333), some (.int (iZ o)), some (.int (iZ (tk B2.2.2.1))), some (.int (iZ 1))] [] σ3
              exact s_vret dX1_readAsk_121 rfl ⟨rfl, _, rd3, akX (fun z => by omega) (cmN (B1 := B2) q2 (fun z => by omega))⟩
            · refine q_aload_n dX1_readAsk_94 rfl rfl ?_
              refine s_callV (ci := 1) (a := 333) (As := []) (S := []) dX1_readAsk_95 okX1_advance mlX1_56 rfl (by omega) rfl (Nat.le_of_ble_eq_true rfl) (show kd 333 = 1 from rfl) (by decide) rfl (x_advance (d := d - 1) K rd2 (k_lt K q2.1.2.1 (show tk B2.2.2.1 ≠ 39 by omega))) (fun v_ σ_ hq => ?_)
              obtain ⟨rfl, rd3⟩ := hq
              rename gS => σ3
              show sE g_tt _ _ _ 98 [some (.ref 333), some (.int (iZ o)), some (.int (iZ (tk B2.2.2.1))), some (.int (iZ 1))] [] σ3
              refine q_aload_n dX1_readAsk_98 rfl rfl ?_
              refine q_iload_n dX1_readAsk_99 rfl rfl ?_
              refine s_callV (ci := 1) (a := 333) (As := [.int (iZ o)]) (S := []) dX1_readAsk_100 okX1_readSum mlX1_84 rfl (by omega) rfl (Nat.le_of_ble_eq_true rfl) (show kd 333 = 1 from rfl) (by decide) rfl (lowS (d - 1) σ3 (adB B2) (by omega) rd3 (okB_ad q2.1 (k_lt K q2.1.2.1 (show tk B2.2.2.1 ≠ 39 by omega)))) (fun v_ σ_ hq => ?_)
              obtain ⟨rfl, B4, rd4, q4⟩ := hq
              rename gS => σ4
              show sE g_tt _ _ _ 103 [some (.ref 333), some (.int (iZ o)), some (.int (iZ (tk B2.2.2.1))), some (.int (iZ 1))] [] σ4
              refine q_aload_n dX1_readAsk_103 rfl rfl ?_
              refine sg1 (kf := 3) (v := .ref x) dX1_readAsk_104 flX1_32 (show kd 333 = 1 from rfl) (by decide) (by show some (va_rf ((σ4).2.2.2.2 333 3)) = _; rw [show (σ4).2.2.2.2 333 3 = some x from rd4.2.2.1]; rfl) ?_
              refine q_iload_n dX1_readAsk_107 rfl rfl ?_
              refine z_iconst dX1_readAsk_108 ?_
              refine s_callV (ci := 4) (a := x) (As := [.int (iZ (tk B2.2.2.1)), .int (iZ 0)]) (S := []) dX1_readAsk_109 okX4_emit mlX1_107 rfl (by omega) rfl (Nat.le_of_ble_eq_true rfl) K.1 (by decide) rfl (x_emit (d := d - 1) (op := tk B2.2.2.1) (v := 0) K rd4 q4.1) (fun v_ σ_ hq => ?_)
              obtain ⟨rfl, rd5⟩ := hq
              rename gS => σ5
              show sE g_tt _ _ _ 112 [some (.ref 333), some (.int (iZ o)), some (.int (iZ (tk B2.2.2.1))), some (.int (iZ 1))] [.int (iZ (emP B4))] σ5
              refine q_pop dX1_readAsk_112 rfl ?_
              refine q_goto (tgt := 121) dX1_readAsk_113 (by decide) ?_
              exact s_vret dX1_readAsk_121 rfl ⟨rfl, _, rd5, akX (fun z => by omega) (cmX K.2.2.1 ok q2 (by omega) (by omega) q4 (by omega))⟩
        · refine q_iload_n dX1_readAsk_71 rfl rfl ?_
          refine z_bipush dX1_readAsk_72 (by decide +kernel) ?_
          refine z_icmp_ne (tgt := 81) dX1_readAsk_74 (by decide) (kt_r K q2.1.2.1) (by unfold inR at *; omega) (fun c_25 => ?_) (fun c_25 => ?_)
          · refine z_iconst dX1_readAsk_81 ?_
            refine q_istore_n dX1_readAsk_82 rfl (by decide) ?_
            show sE g_tt _ _ _ 83 [some (.ref 333), some (.int (iZ o)), some (.int (iZ (tk B2.2.2.1))), some (.int (iZ 0))] [] σ2
            refine q_iload_n dX1_readAsk_83 rfl rfl ?_
            refine z_if_eq (tgt := 116) dX1_readAsk_84 (by decide) (by unfold inR at *; omega) (fun c_26 => ?_) (fun c_26 => ?_)
            · refine q_aload_n dX1_readAsk_116 rfl rfl ?_
              refine z_iconst dX1_readAsk_117 ?_
              refine s_callV (ci := 1) (a := 333) (As := [.int (iZ 1)]) (S := []) dX1_readAsk_118 okX1_fail mlX1_59 rfl (by omega) rfl (Nat.le_of_ble_eq_true rfl) (show kd 333 = 1 from rfl) (by decide) rfl (x_fail (d := d - 1) (c := 1) K rd2 q2.1) (fun v_ σ_ hq => ?_)
              obtain ⟨rfl, rd3⟩ := hq
              rename gS => σ3
              show sE g_tt _ _ _ 121 [some (.ref 333), some (.int (iZ o)), some (.int (iZ (tk B2.2.2.1))), some (.int (iZ 0))] [] σ3
              exact s_vret dX1_readAsk_121 rfl ⟨rfl, _, rd3, akX (fun z => by omega) (cmN (B1 := B2) q2 (fun z => by omega))⟩
            · exfalso
              revert c_26
              decide
          · refine z_iconst dX1_readAsk_77 ?_
            refine q_goto (tgt := 82) dX1_readAsk_78 (by decide) ?_
            refine q_istore_n dX1_readAsk_82 rfl (by decide) ?_
            show sE g_tt _ _ _ 83 [some (.ref 333), some (.int (iZ o)), some (.int (iZ (tk B2.2.2.1))), some (.int (iZ 1))] [] σ2
            refine q_iload_n dX1_readAsk_83 rfl rfl ?_
            refine z_if_eq (tgt := 116) dX1_readAsk_84 (by decide) (by unfold inR at *; omega) (fun c_27 => ?_) (fun c_27 => ?_)
            · exfalso
              revert c_27
              decide
            · refine q_aload_n dX1_readAsk_87 rfl rfl ?_
              refine sg1 (kf := 0) (v := .int (iZ B2.1)) dX1_readAsk_88 flX1_9 (show kd 333 = 1 from rfl) (by decide) (by show some (Value.int (iZ ((σ2).1 333 0))) = _; rw [show (σ2).1 333 0 = B2.1 from rd2.2.2.2.1]) ?_
              refine z_if_ne (tgt := 116) dX1_readAsk_91 (by decide) q2.1.1 (fun c_28 => ?_) (fun c_28 => ?_)
              · refine q_aload_n dX1_readAsk_116 rfl rfl ?_
                refine z_iconst dX1_readAsk_117 ?_
                refine s_callV (ci := 1) (a := 333) (As := [.int (iZ 1)]) (S := []) dX1_readAsk_118 okX1_fail mlX1_59 rfl (by omega) rfl (Nat.le_of_ble_eq_true rfl) (show kd 333 = 1 from rfl) (by decide) rfl (x_fail (d := d - 1) (c := 1) K rd2 q2.1) (fun v_ σ_ hq => ?_)
                obtain ⟨rfl, rd3⟩ := hq
                rename gS => σ3
                show sE g_tt _ _ _ 121 [some (.ref 333), some (.int (iZ o)), some (.int (iZ (tk B2.2.2.1))), some (.int (iZ 1))] [] σ3
                exact s_vret dX1_readAsk_121 rfl ⟨rfl, _, rd3, akX (fun z => by omega) (cmN (B1 := B2) q2 (fun z => by omega))⟩
              · refine q_aload_n dX1_readAsk_94 rfl rfl ?_
                refine s_callV (ci := 1) (a := 333) (As := []) (S := []) dX1_readAsk_95 okX1_advance mlX1_56 rfl (by omega) rfl (Nat.le_of_ble_eq_true rfl) (show kd 333 = 1 from rfl) (by decide) rfl (x_advance (d := d - 1) K rd2 (k_lt K q2.1.2.1 (show tk B2.2.2.1 ≠ 39 by omega))) (fun v_ σ_ hq => ?_)
                obtain ⟨rfl, rd3⟩ := hq
                rename gS => σ3
                show sE g_tt _ _ _ 98 [some (.ref 333), some (.int (iZ o)), some (.int (iZ (tk B2.2.2.1))), some (.int (iZ 1))] [] σ3
                refine q_aload_n dX1_readAsk_98 rfl rfl ?_
                refine q_iload_n dX1_readAsk_99 rfl rfl ?_
                refine s_callV (ci := 1) (a := 333) (As := [.int (iZ o)]) (S := []) dX1_readAsk_100 okX1_readSum mlX1_84 rfl (by omega) rfl (Nat.le_of_ble_eq_true rfl) (show kd 333 = 1 from rfl) (by decide) rfl (lowS (d - 1) σ3 (adB B2) (by omega) rd3 (okB_ad q2.1 (k_lt K q2.1.2.1 (show tk B2.2.2.1 ≠ 39 by omega)))) (fun v_ σ_ hq => ?_)
                obtain ⟨rfl, B4, rd4, q4⟩ := hq
                rename gS => σ4
                show sE g_tt _ _ _ 103 [some (.ref 333), some (.int (iZ o)), some (.int (iZ (tk B2.2.2.1))), some (.int (iZ 1))] [] σ4
                refine q_aload_n dX1_readAsk_103 rfl rfl ?_
                refine sg1 (kf := 3) (v := .ref x) dX1_readAsk_104 flX1_32 (show kd 333 = 1 from rfl) (by decide) (by show some (va_rf ((σ4).2.2.2.2 333 3)) = _; rw [show (σ4).2.2.2.2 333 3 = some x from rd4.2.2.1]; rfl) ?_
                refine q_iload_n dX1_readAsk_107 rfl rfl ?_
                refine z_iconst dX1_readAsk_108 ?_
                refine s_callV (ci := 4) (a := x) (As := [.int (iZ (tk B2.2.2.1)), .int (iZ 0)]) (S := []) dX1_readAsk_109 okX4_emit mlX1_107 rfl (by omega) rfl (Nat.le_of_ble_eq_true rfl) K.1 (by decide) rfl (x_emit (d := d - 1) (op := tk B2.2.2.1) (v := 0) K rd4 q4.1) (fun v_ σ_ hq => ?_)
                obtain ⟨rfl, rd5⟩ := hq
                rename gS => σ5
                show sE g_tt _ _ _ 112 [some (.ref 333), some (.int (iZ o)), some (.int (iZ (tk B2.2.2.1))), some (.int (iZ 1))] [.int (iZ (emP B4))] σ5
                refine q_pop dX1_readAsk_112 rfl ?_
                refine q_goto (tgt := 121) dX1_readAsk_113 (by decide) ?_
                exact s_vret dX1_readAsk_121 rfl ⟨rfl, _, rd5, akX (fun z => by omega) (cmX K.2.2.1 ok q2 (by omega) (by omega) q4 (by omega))⟩
      · refine q_iload_n dX1_readAsk_59 rfl rfl ?_
        refine z_bipush dX1_readAsk_60 (by decide +kernel) ?_
        refine z_icmp_le (tgt := 77) dX1_readAsk_62 (by decide) (kt_r K q2.1.2.1) (by unfold inR at *; omega) (fun c_29 => ?_) (fun c_29 => ?_)
        · refine z_iconst dX1_readAsk_77 ?_
          refine q_goto (tgt := 82) dX1_readAsk_78 (by decide) ?_
          refine q_istore_n dX1_readAsk_82 rfl (by decide) ?_
          show sE g_tt _ _ _ 83 [some (.ref 333), some (.int (iZ o)), some (.int (iZ (tk B2.2.2.1))), some (.int (iZ 1))] [] σ2
          refine q_iload_n dX1_readAsk_83 rfl rfl ?_
          refine z_if_eq (tgt := 116) dX1_readAsk_84 (by decide) (by unfold inR at *; omega) (fun c_30 => ?_) (fun c_30 => ?_)
          · exfalso
            revert c_30
            decide
          · refine q_aload_n dX1_readAsk_87 rfl rfl ?_
            refine sg1 (kf := 0) (v := .int (iZ B2.1)) dX1_readAsk_88 flX1_9 (show kd 333 = 1 from rfl) (by decide) (by show some (Value.int (iZ ((σ2).1 333 0))) = _; rw [show (σ2).1 333 0 = B2.1 from rd2.2.2.2.1]) ?_
            refine z_if_ne (tgt := 116) dX1_readAsk_91 (by decide) q2.1.1 (fun c_31 => ?_) (fun c_31 => ?_)
            · refine q_aload_n dX1_readAsk_116 rfl rfl ?_
              refine z_iconst dX1_readAsk_117 ?_
              refine s_callV (ci := 1) (a := 333) (As := [.int (iZ 1)]) (S := []) dX1_readAsk_118 okX1_fail mlX1_59 rfl (by omega) rfl (Nat.le_of_ble_eq_true rfl) (show kd 333 = 1 from rfl) (by decide) rfl (x_fail (d := d - 1) (c := 1) K rd2 q2.1) (fun v_ σ_ hq => ?_)
              obtain ⟨rfl, rd3⟩ := hq
              rename gS => σ3
              show sE g_tt _ _ _ 121 [some (.ref 333), some (.int (iZ o)), some (.int (iZ (tk B2.2.2.1))), some (.int (iZ 1))] [] σ3
              exact s_vret dX1_readAsk_121 rfl ⟨rfl, _, rd3, akX (fun z => by omega) (cmN (B1 := B2) q2 (fun z => by omega))⟩
            · refine q_aload_n dX1_readAsk_94 rfl rfl ?_
              refine s_callV (ci := 1) (a := 333) (As := []) (S := []) dX1_readAsk_95 okX1_advance mlX1_56 rfl (by omega) rfl (Nat.le_of_ble_eq_true rfl) (show kd 333 = 1 from rfl) (by decide) rfl (x_advance (d := d - 1) K rd2 (k_lt K q2.1.2.1 (show tk B2.2.2.1 ≠ 39 by omega))) (fun v_ σ_ hq => ?_)
              obtain ⟨rfl, rd3⟩ := hq
              rename gS => σ3
              show sE g_tt _ _ _ 98 [some (.ref 333), some (.int (iZ o)), some (.int (iZ (tk B2.2.2.1))), some (.int (iZ 1))] [] σ3
              refine q_aload_n dX1_readAsk_98 rfl rfl ?_
              refine q_iload_n dX1_readAsk_99 rfl rfl ?_
              refine s_callV (ci := 1) (a := 333) (As := [.int (iZ o)]) (S := []) dX1_readAsk_100 okX1_readSum mlX1_84 rfl (by omega) rfl (Nat.le_of_ble_eq_true rfl) (show kd 333 = 1 from rfl) (by decide) rfl (lowS (d - 1) σ3 (adB B2) (by omega) rd3 (okB_ad q2.1 (k_lt K q2.1.2.1 (show tk B2.2.2.1 ≠ 39 by omega)))) (fun v_ σ_ hq => ?_)
              obtain ⟨rfl, B4, rd4, q4⟩ := hq
              rename gS => σ4
              show sE g_tt _ _ _ 103 [some (.ref 333), some (.int (iZ o)), some (.int (iZ (tk B2.2.2.1))), some (.int (iZ 1))] [] σ4
              refine q_aload_n dX1_readAsk_103 rfl rfl ?_
              refine sg1 (kf := 3) (v := .ref x) dX1_readAsk_104 flX1_32 (show kd 333 = 1 from rfl) (by decide) (by show some (va_rf ((σ4).2.2.2.2 333 3)) = _; rw [show (σ4).2.2.2.2 333 3 = some x from rd4.2.2.1]; rfl) ?_
              refine q_iload_n dX1_readAsk_107 rfl rfl ?_
              refine z_iconst dX1_readAsk_108 ?_
              refine s_callV (ci := 4) (a := x) (As := [.int (iZ (tk B2.2.2.1)), .int (iZ 0)]) (S := []) dX1_readAsk_109 okX4_emit mlX1_107 rfl (by omega) rfl (Nat.le_of_ble_eq_true rfl) K.1 (by decide) rfl (x_emit (d := d - 1) (op := tk B2.2.2.1) (v := 0) K rd4 q4.1) (fun v_ σ_ hq => ?_)
              obtain ⟨rfl, rd5⟩ := hq
              rename gS => σ5
              show sE g_tt _ _ _ 112 [some (.ref 333), some (.int (iZ o)), some (.int (iZ (tk B2.2.2.1))), some (.int (iZ 1))] [.int (iZ (emP B4))] σ5
              refine q_pop dX1_readAsk_112 rfl ?_
              refine q_goto (tgt := 121) dX1_readAsk_113 (by decide) ?_
              exact s_vret dX1_readAsk_121 rfl ⟨rfl, _, rd5, akX (fun z => by omega) (cmX K.2.2.1 ok q2 (by omega) (by omega) q4 (by omega))⟩
        · refine q_iload_n dX1_readAsk_65 rfl rfl ?_
          refine z_bipush dX1_readAsk_66 (by decide +kernel) ?_
          refine z_icmp_eq (tgt := 77) dX1_readAsk_68 (by decide) (kt_r K q2.1.2.1) (by unfold inR at *; omega) (fun c_32 => ?_) (fun c_32 => ?_)
          · refine z_iconst dX1_readAsk_77 ?_
            refine q_goto (tgt := 82) dX1_readAsk_78 (by decide) ?_
            refine q_istore_n dX1_readAsk_82 rfl (by decide) ?_
            show sE g_tt _ _ _ 83 [some (.ref 333), some (.int (iZ o)), some (.int (iZ (tk B2.2.2.1))), some (.int (iZ 1))] [] σ2
            refine q_iload_n dX1_readAsk_83 rfl rfl ?_
            refine z_if_eq (tgt := 116) dX1_readAsk_84 (by decide) (by unfold inR at *; omega) (fun c_33 => ?_) (fun c_33 => ?_)
            · exfalso
              revert c_33
              decide
            · refine q_aload_n dX1_readAsk_87 rfl rfl ?_
              refine sg1 (kf := 0) (v := .int (iZ B2.1)) dX1_readAsk_88 flX1_9 (show kd 333 = 1 from rfl) (by decide) (by show some (Value.int (iZ ((σ2).1 333 0))) = _; rw [show (σ2).1 333 0 = B2.1 from rd2.2.2.2.1]) ?_
              refine z_if_ne (tgt := 116) dX1_readAsk_91 (by decide) q2.1.1 (fun c_34 => ?_) (fun c_34 => ?_)
              · refine q_aload_n dX1_readAsk_116 rfl rfl ?_
                refine z_iconst dX1_readAsk_117 ?_
                refine s_callV (ci := 1) (a := 333) (As := [.int (iZ 1)]) (S := []) dX1_readAsk_118 okX1_fail mlX1_59 rfl (by omega) rfl (Nat.le_of_ble_eq_true rfl) (show kd 333 = 1 from rfl) (by decide) rfl (x_fail (d := d - 1) (c := 1) K rd2 q2.1) (fun v_ σ_ hq => ?_)
                obtain ⟨rfl, rd3⟩ := hq
                rename gS => σ3
                show sE g_tt _ _ _ 121 [some (.ref 333), some (.int (iZ o)), some (.int (iZ (tk B2.2.2.1))), some (.int (iZ 1))] [] σ3
                exact s_vret dX1_readAsk_121 rfl ⟨rfl, _, rd3, akX (fun z => by omega) (cmN (B1 := B2) q2 (fun z => by omega))⟩
              · refine q_aload_n dX1_readAsk_94 rfl rfl ?_
                refine s_callV (ci := 1) (a := 333) (As := []) (S := []) dX1_readAsk_95 okX1_advance mlX1_56 rfl (by omega) rfl (Nat.le_of_ble_eq_true rfl) (show kd 333 = 1 from rfl) (by decide) rfl (x_advance (d := d - 1) K rd2 (k_lt K q2.1.2.1 (show tk B2.2.2.1 ≠ 39 by omega))) (fun v_ σ_ hq => ?_)
                obtain ⟨rfl, rd3⟩ := hq
                rename gS => σ3
                show sE g_tt _ _ _ 98 [some (.ref 333), some (.int (iZ o)), some (.int (iZ (tk B2.2.2.1))), some (.int (iZ 1))] [] σ3
                refine q_aload_n dX1_readAsk_98 rfl rfl ?_
                refine q_iload_n dX1_readAsk_99 rfl rfl ?_
                refine s_callV (ci := 1) (a := 333) (As := [.int (iZ o)]) (S := []) dX1_readAsk_100 okX1_readSum mlX1_84 rfl (by omega) rfl (Nat.le_of_ble_eq_true rfl) (show kd 333 = 1 from rfl) (by decide) rfl (lowS (d - 1) σ3 (adB B2) (by omega) rd3 (okB_ad q2.1 (k_lt K q2.1.2.1 (show tk B2.2.2.1 ≠ 39 by omega)))) (fun v_ σ_ hq => ?_)
                obtain ⟨rfl, B4, rd4, q4⟩ := hq
                rename gS => σ4
                show sE g_tt _ _ _ 103 [some (.ref 333), some (.int (iZ o)), some (.int (iZ (tk B2.2.2.1))), some (.int (iZ 1))] [] σ4
                refine q_aload_n dX1_readAsk_103 rfl rfl ?_
                refine sg1 (kf := 3) (v := .ref x) dX1_readAsk_104 flX1_32 (show kd 333 = 1 from rfl) (by decide) (by show some (va_rf ((σ4).2.2.2.2 333 3)) = _; rw [show (σ4).2.2.2.2 333 3 = some x from rd4.2.2.1]; rfl) ?_
                refine q_iload_n dX1_readAsk_107 rfl rfl ?_
                refine z_iconst dX1_readAsk_108 ?_
                refine s_callV (ci := 4) (a := x) (As := [.int (iZ (tk B2.2.2.1)), .int (iZ 0)]) (S := []) dX1_readAsk_109 okX4_emit mlX1_107 rfl (by omega) rfl (Nat.le_of_ble_eq_true rfl) K.1 (by decide) rfl (x_emit (d := d - 1) (op := tk B2.2.2.1) (v := 0) K rd4 q4.1) (fun v_ σ_ hq => ?_)
                obtain ⟨rfl, rd5⟩ := hq
                rename gS => σ5
                show sE g_tt _ _ _ 112 [some (.ref 333), some (.int (iZ o)), some (.int (iZ (tk B2.2.2.1))), some (.int (iZ 1))] [.int (iZ (emP B4))] σ5
                refine q_pop dX1_readAsk_112 rfl ?_
                refine q_goto (tgt := 121) dX1_readAsk_113 (by decide) ?_
                exact s_vret dX1_readAsk_121 rfl ⟨rfl, _, rd5, akX (fun z => by omega) (cmX K.2.2.1 ok q2 (by omega) (by omega) q4 (by omega))⟩
          · refine q_iload_n dX1_readAsk_71 rfl rfl ?_
            refine z_bipush dX1_readAsk_72 (by decide +kernel) ?_
            refine z_icmp_ne (tgt := 81) dX1_readAsk_74 (by decide) (kt_r K q2.1.2.1) (by unfold inR at *; omega) (fun c_35 => ?_) (fun c_35 => ?_)
            · refine z_iconst dX1_readAsk_81 ?_
              refine q_istore_n dX1_readAsk_82 rfl (by decide) ?_
              show sE g_tt _ _ _ 83 [some (.ref 333), some (.int (iZ o)), some (.int (iZ (tk B2.2.2.1))), some (.int (iZ 0))] [] σ2
              refine q_iload_n dX1_readAsk_83 rfl rfl ?_
              refine z_if_eq (tgt := 116) dX1_readAsk_84 (by decide) (by unfold inR at *; omega) (fun c_36 => ?_) (fun c_36 => ?_)
              · refine q_aload_n dX1_readAsk_116 rfl rfl ?_
                refine z_iconst dX1_readAsk_117 ?_
                refine s_callV (ci := 1) (a := 333) (As := [.int (iZ 1)]) (S := []) dX1_readAsk_118 okX1_fail mlX1_59 rfl (by omega) rfl (Nat.le_of_ble_eq_true rfl) (show kd 333 = 1 from rfl) (by decide) rfl (x_fail (d := d - 1) (c := 1) K rd2 q2.1) (fun v_ σ_ hq => ?_)
                obtain ⟨rfl, rd3⟩ := hq
                rename gS => σ3
                show sE g_tt _ _ _ 121 [some (.ref 333), some (.int (iZ o)), some (.int (iZ (tk B2.2.2.1))), some (.int (iZ 0))] [] σ3
                exact s_vret dX1_readAsk_121 rfl ⟨rfl, _, rd3, akX (fun z => by omega) (cmN (B1 := B2) q2 (fun z => by omega))⟩
              · exfalso
                revert c_36
                decide
            · refine z_iconst dX1_readAsk_77 ?_
              refine q_goto (tgt := 82) dX1_readAsk_78 (by decide) ?_
              refine q_istore_n dX1_readAsk_82 rfl (by decide) ?_
              show sE g_tt _ _ _ 83 [some (.ref 333), some (.int (iZ o)), some (.int (iZ (tk B2.2.2.1))), some (.int (iZ 1))] [] σ2
              refine q_iload_n dX1_readAsk_83 rfl rfl ?_
              refine z_if_eq (tgt := 116) dX1_readAsk_84 (by decide) (by unfold inR at *; omega) (fun c_37 => ?_) (fun c_37 => ?_)
              · exfalso
                revert c_37
                decide
              · refine q_aload_n dX1_readAsk_87 rfl rfl ?_
                refine sg1 (kf := 0) (v := .int (iZ B2.1)) dX1_readAsk_88 flX1_9 (show kd 333 = 1 from rfl) (by decide) (by show some (Value.int (iZ ((σ2).1 333 0))) = _; rw [show (σ2).1 333 0 = B2.1 from rd2.2.2.2.1]) ?_
                refine z_if_ne (tgt := 116) dX1_readAsk_91 (by decide) q2.1.1 (fun c_38 => ?_) (fun c_38 => ?_)
                · refine q_aload_n dX1_readAsk_116 rfl rfl ?_
                  refine z_iconst dX1_readAsk_117 ?_
                  refine s_callV (ci := 1) (a := 333) (As := [.int (iZ 1)]) (S := []) dX1_readAsk_118 okX1_fail mlX1_59 rfl (by omega) rfl (Nat.le_of_ble_eq_true rfl) (show kd 333 = 1 from rfl) (by decide) rfl (x_fail (d := d - 1) (c := 1) K rd2 q2.1) (fun v_ σ_ hq => ?_)
                  obtain ⟨rfl, rd3⟩ := hq
                  rename gS => σ3
                  show sE g_tt _ _ _ 121 [some (.ref 333), some (.int (iZ o)), some (.int (iZ (tk B2.2.2.1))), some (.int (iZ 1))] [] σ3
                  exact s_vret dX1_readAsk_121 rfl ⟨rfl, _, rd3, akX (fun z => by omega) (cmN (B1 := B2) q2 (fun z => by omega))⟩
                · refine q_aload_n dX1_readAsk_94 rfl rfl ?_
                  refine s_callV (ci := 1) (a := 333) (As := []) (S := []) dX1_readAsk_95 okX1_advance mlX1_56 rfl (by omega) rfl (Nat.le_of_ble_eq_true rfl) (show kd 333 = 1 from rfl) (by decide) rfl (x_advance (d := d - 1) K rd2 (k_lt K q2.1.2.1 (show tk B2.2.2.1 ≠ 39 by omega))) (fun v_ σ_ hq => ?_)
                  obtain ⟨rfl, rd3⟩ := hq
                  rename gS => σ3
                  show sE g_tt _ _ _ 98 [some (.ref 333), some (.int (iZ o)), some (.int (iZ (tk B2.2.2.1))), some (.int (iZ 1))] [] σ3
                  refine q_aload_n dX1_readAsk_98 rfl rfl ?_
                  refine q_iload_n dX1_readAsk_99 rfl rfl ?_
                  refine s_callV (ci := 1) (a := 333) (As := [.int (iZ o)]) (S := []) dX1_readAsk_100 okX1_readSum mlX1_84 rfl (by omega) rfl (Nat.le_of_ble_eq_true rfl) (show kd 333 = 1 from rfl) (by decide) rfl (lowS (d - 1) σ3 (adB B2) (by omega) rd3 (okB_ad q2.1 (k_lt K q2.1.2.1 (show tk B2.2.2.1 ≠ 39 by omega)))) (fun v_ σ_ hq => ?_)
                  obtain ⟨rfl, B4, rd4, q4⟩ := hq
                  rename gS => σ4
                  show sE g_tt _ _ _ 103 [some (.ref 333), some (.int (iZ o)), some (.int (iZ (tk B2.2.2.1))), some (.int (iZ 1))] [] σ4
                  refine q_aload_n dX1_readAsk_103 rfl rfl ?_
                  refine sg1 (kf := 3) (v := .ref x) dX1_readAsk_104 flX1_32 (show kd 333 = 1 from rfl) (by decide) (by show some (va_rf ((σ4).2.2.2.2 333 3)) = _; rw [show (σ4).2.2.2.2 333 3 = some x from rd4.2.2.1]; rfl) ?_
                  refine q_iload_n dX1_readAsk_107 rfl rfl ?_
                  refine z_iconst dX1_readAsk_108 ?_
                  refine s_callV (ci := 4) (a := x) (As := [.int (iZ (tk B2.2.2.1)), .int (iZ 0)]) (S := []) dX1_readAsk_109 okX4_emit mlX1_107 rfl (by omega) rfl (Nat.le_of_ble_eq_true rfl) K.1 (by decide) rfl (x_emit (d := d - 1) (op := tk B2.2.2.1) (v := 0) K rd4 q4.1) (fun v_ σ_ hq => ?_)
                  obtain ⟨rfl, rd5⟩ := hq
                  rename gS => σ5
                  show sE g_tt _ _ _ 112 [some (.ref 333), some (.int (iZ o)), some (.int (iZ (tk B2.2.2.1))), some (.int (iZ 1))] [.int (iZ (emP B4))] σ5
                  refine q_pop dX1_readAsk_112 rfl ?_
                  refine q_goto (tgt := 121) dX1_readAsk_113 (by decide) ?_
                  exact s_vret dX1_readAsk_121 rfl ⟨rfl, _, rd5, akX (fun z => by omega) (cmX K.2.2.1 ok q2 (by omega) (by omega) q4 (by omega))⟩
    · refine q_aload_n dX1_readAsk_16 rfl rfl ?_
      refine q_iload_n dX1_readAsk_17 rfl rfl ?_
      refine s_callV (ci := 1) (a := 333) (As := [.int (iZ o)]) (S := []) dX1_readAsk_18 okX1_opens mlX1_113 rfl (by omega) rfl (Nat.le_of_ble_eq_true rfl) (show kd 333 = 1 from rfl) (by decide) rfl (x_opens (d := d - 1) (by omega) (op := o) K rd ok ho (show tk B.2.2.1 ≠ 39 by omega)) (fun v_ σ_ hq => ?_)
      obtain ⟨rfl, rd2⟩ := hq
      rename gS => σ2
      show sE g_tt _ _ _ 21 [some (.ref 333), some (.int (iZ o)), none, none] [.int (iZ (if o < 8 then 1 else 0))] σ2
      refine z_if_eq (tgt := 42) dX1_readAsk_21 (by decide) inR_01 (fun c_39 => ?_) (fun c_39 => ?_)
      · have c_39 := if01_0 c_39
        exact s_vret dX1_readAsk_42 rfl ⟨rfl, _, rd2, by unfold akB; rw [if_pos (by omega), okx hok, if_pos (by omega)]; rw [op_n c_39]; exact rdQ_fail (B := B) (by omega) ok⟩
      · have c_39 := if01_1 c_39
        refine q_aload_n dX1_readAsk_24 rfl rfl ?_
        refine q_iload_n dX1_readAsk_25 rfl rfl ?_
        refine z_iconst dX1_readAsk_26 ?_
        refine z_iadd dX1_readAsk_27 ?_
        refine s_callV (ci := 1) (a := 333) (As := [.int (iZ (o + 1))]) (S := []) dX1_readAsk_28 okX1_readAsk mlX1_142 rfl (by omega) rfl (Nat.le_of_ble_eq_true rfl) (show kd 333 = 1 from rfl) (by decide) rfl (lowA c_39 (d - 1) σ2 (adB B) (by omega) (by rw [← op_y (st := st) (B := B) c_39]; exact rd2) (okB_ad ok (k_lt K ok.2.1 (by omega)))) (fun v_ σ_ hq => ?_)
        obtain ⟨rfl, B3, rd3, q3⟩ := hq
        rename gS => σ3
        show sE g_tt _ _ _ 31 [some (.ref 333), some (.int (iZ o)), none, none] [] σ3
        refine q_aload_n dX1_readAsk_31 rfl rfl ?_
        refine sg1 (kf := 3) (v := .ref x) dX1_readAsk_32 flX1_32 (show kd 333 = 1 from rfl) (by decide) (by show some (va_rf ((σ3).2.2.2.2 333 3)) = _; rw [show (σ3).2.2.2.2 333 3 = some x from rd3.2.2.1]; rfl) ?_
        refine z_bipush dX1_readAsk_35 (by decide +kernel) ?_
        refine z_iconst dX1_readAsk_37 ?_
        refine s_callV (ci := 4) (a := x) (As := [.int (iZ 18), .int (iZ 0)]) (S := []) dX1_readAsk_38 okX4_emit mlX1_107 rfl (by omega) rfl (Nat.le_of_ble_eq_true rfl) K.1 (by decide) rfl (x_emit (d := d - 1) (op := 18) (v := 0) K rd3 q3.1) (fun v_ σ_ hq => ?_)
        obtain ⟨rfl, rd4⟩ := hq
        rename gS => σ4
        show sE g_tt _ _ _ 41 [some (.ref 333), some (.int (iZ o)), none, none] [.int (iZ (emP B3))] σ4
        refine q_pop dX1_readAsk_41 rfl ?_
        exact s_vret dX1_readAsk_42 rfl ⟨rfl, _, rd4, by unfold akB; rw [if_pos (by omega), okx hok, if_neg (by omega)]; exact rdQ_m (rdQ_un (op := 18) (by decide) (by decide) (by decide) (by decide) ok K.2.2.1 (hl.2.2.1 _).2.2.1.1 (rdQ_ad q3)) (by omega) (by omega)⟩
