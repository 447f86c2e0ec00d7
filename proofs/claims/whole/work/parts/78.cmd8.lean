/-! ===== a script played ===== -/
theorem kd_tx2 {x : Nat} (h : kd x = 4) : kd (x + 2) = 100 + 24 ∧ kd (x + 3) = 100 + 24 ∧ kd (x + 4) = 100 + 24 := by
  rcases (kd_tx h).2.2 with e | e | e | e | e <;> subst e <;> exact ⟨rfl, rfl, rfl⟩
/-- the clauses of the text at place x are those of slot tx of the model's row T: N of them -/
def scN (σ : gS) (T : Nat → Int) (x tx N : Nat) : Prop := kd x = 4 ∧ N ≤ 24 ∧ T (681 * tx) = (N : Int) ∧ σ.1 x 9 = (N : Int) ∧ ∀ k, k < N → clV (T (681 * tx + 1 + 3 * k)) (T (681 * tx + 1 + 3 * k + 1)) (T (681 * tx + 1 + 3 * k + 2)) ∧ σ.2.1 (x + 2) k = T (681 * tx + 1 + 3 * k) ∧ clV (T (681 * tx + 1 + 3 * k)) (σ.2.1 (x + 3) k) (σ.2.1 (x + 4) k) ∧ ∀ W V A F, mAct W V (T (681 * tx + 1 + 3 * k)) (σ.2.1 (x + 3) k) (σ.2.1 (x + 4) k) A F = mAct W V (T (681 * tx + 1 + 3 * k)) (T (681 * tx + 1 + 3 * k + 1)) (T (681 * tx + 1 + 3 * k + 2)) A F
theorem scN_ch {σ σ1 : gS} {T : Nat → Int} {x tx N : Nat} (h : scN σ T x tx N) {S : Nat → Prop} (c : chg S σ σ1) (q : ∀ a, (a = 322 ∨ (323 < a ∧ a < 327) ∨ (340 ≤ a ∧ a < 364)) → ¬ stkP a → ¬ S a) : scN σ1 T x tx N := by
  have hx := (kd_tx h.1).2.2
  have c0 := c.1 x (q _ (by omega) (by unfold stkP; omega))
  have c2 := c.1 (x + 2) (q _ (by omega) (by unfold stkP; omega))
  have c3 := c.1 (x + 3) (q _ (by omega) (by unfold stkP; omega))
  have c4 := c.1 (x + 4) (q _ (by omega) (by unfold stkP; omega))
  exact ⟨h.1, h.2.1, h.2.2.1, by rw [c0.1]; exact h.2.2.2.1, fun k hk => by rw [c2.2.1, c3.2.1, c4.2.1]; exact h.2.2.2.2 k hk⟩
theorem scN_cmd {σ σ1 : gS} {T : Nat → Int} {x tx N : Nat} (h : scN σ T x tx N) (c : chg cmdP σ σ1) : scN σ1 T x tx N := scN_ch h c (fun a x y => by unfold cmdP inT scrQ; unfold stkP at *; omega)
set_option maxHeartbeats 4000000 in
set_option maxRecDepth 100000 in
theorem lx_played {d N tx x : Nat} (hd : 8 ≤ d) (σ : gS) {W V : wF} {I : Nat → Int} {nt : Int} (hn4 : nt ≤ 4) (htx : tx < 4) {T : Nat → Int} (hW : wOK T 100000 nt W) (hV : vOK T 100000 nt V) : ∀ (n : Nat) (B F : Nat → Int) (k : Nat) (σ1 : gS) (c1 : Int), F 23 = 1 → 0 ≤ F 26 → okR c1 nt B → okR c1 (I 1) I → clR σ1 W V B I → scN σ1 T x tx N → chg cmdP σ σ1 → c1 + 2 * ((N : Int) - (k : Int)) ≤ 88000 → k ≤ N → (N : Int) - (k : Int) < (n : Int) → sE g_tt mX6_played d (fun r σ' => r = some (.int (iZ ((mPlay W V T tx (N - k) k B F).1))) ∧ chg cmdP σ σ' ∧ clR σ' W V (mPlay W V T tx (N - k) k B F).2.1 I) 20 [some (.ref 0), some (.int (iZ (tx : Int))), some (.ref x), some (.int (iZ (k : Int)))] [] σ1 := by
  intro n
  induction n with
  | zero =>
    intro B F k σ1 c1 hF h26 okB oi1 C1 sc s1 hc hk hn
    exact absurd hn (by omega)
  | succ n ih =>
    intro B F k σ1 c1 hF h26 okB oi1 C1 sc s1 hc hk hn
    have N24 := sc.2.1
    have b3 := okB.2.2.2.1
    have c8 := okR_80 okB
    refine q_iload_n dX6_played_20 rfl rfl ?_
    refine q_aload_n dX6_played_21 rfl rfl ?_
    refine sg4 (kf := 9) (v := .int (iZ (N : Int))) dX6_played_22 flX6_154 sc.1 (by decide) (by show some (Value.int (iZ (σ1.1 x 9))) = _; rw [sc.2.2.2.1]) ?_
    refine z_icmp_ge (tgt := 61) dX6_played_25 (by decide) (by unfold inR at *; omega) (by unfold inR at *; omega) (fun c_1 => ?_) (fun c_1 => ?_)
    · refine z_iconst dX6_played_61 ?_
      exact s_iretZ dX6_played_62 rfl ⟨by rw [show N - k = 0 by omega, mPlay], s1, by rw [show N - k = 0 by omega, mPlay]; exact C1⟩
    · refine q_aload_n dX6_played_28 rfl rfl ?_
      refine q_aload_n dX6_played_29 rfl rfl ?_
      refine sg4 (kf := 6) (v := .ref (x + 2)) dX6_played_30 flX6_157 sc.1 (by decide) rfl ?_
      refine q_iload_n dX6_played_33 rfl rfl ?_
      refine s_iald (n := 24) (x := T (681 * tx + 1 + 3 * k)) dX6_played_34 (kd_tx2 sc.1).1 (by omega) (by omega) (by decide) (sc.2.2.2.2 k (by omega)).2.1 ?_
      refine q_aload_n dX6_played_35 rfl rfl ?_
      refine sg4 (kf := 7) (v := .ref (x + 3)) dX6_played_36 flX6_160 sc.1 (by decide) rfl ?_
      refine q_iload_n dX6_played_39 rfl rfl ?_
      refine s_iald (n := 24) (x := σ1.2.1 (x + 3) k) dX6_played_40 (kd_tx2 sc.1).2.1 (by omega) (by omega) (by decide) rfl ?_
      refine q_aload_n dX6_played_41 rfl rfl ?_
      refine sg4 (kf := 8) (v := .ref (x + 4)) dX6_played_42 flX6_163 sc.1 (by decide) rfl ?_
      refine q_iload_n dX6_played_45 rfl rfl ?_
      refine s_iald (n := 24) (x := σ1.2.1 (x + 4) k) dX6_played_46 (kd_tx2 sc.1).2.2 (by omega) (by omega) (by decide) rfl ?_
      refine s_callV (ci := 6) (a := 0) (As := [.int (iZ (T (681 * tx + 1 + 3 * k))), .int (iZ (σ1.2.1 (x + 3) k)), .int (iZ (σ1.2.1 (x + 4) k))]) (S := []) dX6_played_47 okX6_perform mlX6_150 rfl (by omega) rfl (Nat.le_of_ble_eq_true rfl) (show kd 0 = 6 from rfl) (by decide) rfl (x_perform (d := d - 1) (by omega) (sc.2.2.2.2 k (by omega)).2.2.1 F hF σ1 (by omega) hn4 okB oi1 C1 hW hV) (fun v_ σ_ hq => ?_)
      rw [(sc.2.2.2.2 k (by omega)).2.2.2 W V B F] at hq
      obtain ⟨rfl, s2, C2⟩ := hq
      rename gS => σ2
      have mk := mAct_ok hW hV (sc.2.2.2.2 k (by omega)).1 (F := F) okB.1 (by omega) (by omega) b3.1 b3.2 h26
      have ak := mk.2.2.1
      have m01 := mk.2.2.2
      show sE g_tt _ _ _ 50 [some (.ref 0), some (.int (iZ (tx : Int))), some (.ref x), some (.int (iZ (k : Int)))] [.int (iZ ((mAct W V (T (681 * tx + 1 + 3 * k)) (T (681 * tx + 1 + 3 * k + 1)) (T (681 * tx + 1 + 3 * k + 2)) B F).1))] σ2
      refine z_if_ne (tgt := 55) dX6_played_50 (by decide) (by unfold inR at *; omega) (fun c_2 => ?_) (fun c_2 => ?_)
      · refine z_iinc dX6_played_55 rfl (by decide) ?_
        show sE g_tt _ _ _ 58 [some (.ref 0), some (.int (iZ (tx : Int))), some (.ref x), some (.int (iZ ((k : Int) + 1)))] [] σ2
        refine q_goto (tgt := 20) dX6_played_58 (by decide) ?_
        rw [show N - k = (N - (k + 1)) + 1 by omega, mPlay, if_neg c_2]
        exact ih (mAct W V (T (681 * tx + 1 + 3 * k)) (T (681 * tx + 1 + 3 * k + 1)) (T (681 * tx + 1 + 3 * k + 2)) B F).2.1 (mAct W V (T (681 * tx + 1 + 3 * k)) (T (681 * tx + 1 + 3 * k + 1)) (T (681 * tx + 1 + 3 * k + 2)) B F).2.2 (k + 1) σ2 (c1 + 2) (by rw [(ak).1 23 (by decide) (by decide) (by decide) (by decide) (by decide) (by decide) (by decide)]; exact hF) ak.2 (okR_act hW hV (by omega) (sc.2.2.2.2 k (by omega)).1 okB) (okR_mono oi1 (by omega)) C2 (scN_cmd sc s2) (chg_tr s1 s2) (by omega) (by omega) (by omega)
      · refine q_iload_n dX6_played_53 rfl rfl ?_
        exact s_iretZ dX6_played_54 rfl ⟨by rw [show N - k = (N - (k + 1)) + 1 by omega, mPlay, if_pos c_2], chg_tr s1 s2, by rw [show N - k = (N - (k + 1)) + 1 by omega, mPlay, if_pos c_2]; exact C2⟩
set_option maxHeartbeats 4000000 in
set_option maxRecDepth 100000 in
theorem x_played {d N tx : Nat} (hd : 8 ≤ d) (htx : tx < 4) (F : Nat → Int) (hF : F 23 = 1) (h26 : 0 ≤ F 26) (σ : gS) {W V : wF} {A I : Nat → Int} {c nt : Int} (hc : c ≤ 87900) (hn4 : nt ≤ 4) (ok : okR c nt A) (oi : okR c (I 1) I) (C : clR σ W V A I) {T : Nat → Int} (hW : wOK T 100000 nt W) (hV : vOK T 100000 nt V) (hx1 : (tx : Int) < A 1) (sc : scN σ T (340 + 6 * tx) tx N) : sC mX6_played d [.ref 0, .int (iZ (tx : Int))] σ (fun r σ' => r = some (.int (iZ ((mPlay W V T tx N 0 A F).1))) ∧ chg cmdP σ σ' ∧ clR σ' W V ((mPlay W V T tx N 0 A F).2.1) I) := by
  have N24 := sc.2.1
  refine sC_of rfl (Nat.le_of_ble_eq_true rfl) ?_
  show sE g_tt _ _ _ 0 [some (.ref 0), some (.int (iZ (tx : Int))), none, none] [] σ
  refine q_aload_n dX6_played_0 rfl rfl ?_
  refine q_iload_n dX6_played_1 rfl rfl ?_
  refine s_callV (ci := 6) (a := 0) (As := [.int (iZ (tx : Int))]) (S := []) dX6_played_2 okX6_isText mlX6_109 rfl (by omega) rfl (Nat.le_of_ble_eq_true rfl) (show kd 0 = 6 from rfl) (by decide) rfl (x_isText (d := d - 1) (p := (tx : Int)) (by unfold inR; omega) σ (by omega) hn4 ok oi C) (fun v_ σ_ hq => ?_)
  obtain ⟨rfl, e9⟩ := hq
  have e9 := e9.symm
  subst e9
  show sE g_tt _ _ _ 5 [some (.ref 0), some (.int (iZ (tx : Int))), none, none] [.int (iZ (if 0 ≤ (tx : Int) ∧ (tx : Int) < A 1 then 1 else 0))] σ
  refine z_if_ne (tgt := 11) dX6_played_5 (by decide) inR_01 (fun c_1 => ?_) (fun c_1 => ?_)
  · have c_1 := if01_1 c_1
    refine q_aload_n dX6_played_11 rfl rfl ?_
    refine sg6 (kf := 2) (v := .ref 321) dX6_played_12 flX6_21 (show kd 0 = 6 from rfl) (by decide) rfl ?_
    refine q_iload_n dX6_played_15 rfl rfl ?_
    refine s_aaldT (n := 4) (x := (340 + 6 * tx)) dX6_played_16 (show kd 321 = 400000 + 4 from rfl) (by omega) (by omega) (by decide) (C.2.2.2.1 tx (by omega)) ?_
    refine q_astore_n dX6_played_17 rfl (by decide) ?_
    show sE g_tt _ _ _ 18 [some (.ref 0), some (.int (iZ (tx : Int))), some (.ref (340 + 6 * tx)), none] [] σ
    refine z_iconst dX6_played_18 ?_
    refine q_istore_n dX6_played_19 rfl (by decide) ?_
    show sE g_tt _ _ _ 20 [some (.ref 0), some (.int (iZ (tx : Int))), some (.ref (340 + 6 * tx)), some (.int (iZ 0))] [] σ
    exact lx_played (N := N) (tx := tx) (x := 340 + 6 * tx) hd σ hn4 htx hW hV 25 A F 0 σ c hF h26 ok oi C sc (chg_rf _ _) (by omega) (by omega) (by omega)
  · have c_1 := if01_0 c_1
    exfalso
    omega
set_option maxHeartbeats 4000000 in
set_option maxRecDepth 100000 in
theorem x_played0 {d : Nat} (hd : 1 ≤ d) {t : Int} (ht : inR t) (σ : gS) {W V : wF} {A I : Nat → Int} {c nt : Int} (hc : c ≤ 88000) (hn4 : nt ≤ 4) (ok : okR c nt A) (oi : okR c (I 1) I) (C : clR σ W V A I) (hno : ¬ (0 ≤ t ∧ t < A 1)) : sC mX6_played d [.ref 0, .int (iZ t)] σ (fun r σ' => r = some (.int (iZ (-2))) ∧ σ' = σ) := by
  refine sC_of rfl (Nat.le_of_ble_eq_true rfl) ?_
  show sE g_tt _ _ _ 0 [some (.ref 0), some (.int (iZ t)), none, none] [] σ
  refine q_aload_n dX6_played_0 rfl rfl ?_
  refine q_iload_n dX6_played_1 rfl rfl ?_
  refine s_callV (ci := 6) (a := 0) (As := [.int (iZ t)]) (S := []) dX6_played_2 okX6_isText mlX6_109 rfl (by omega) rfl (Nat.le_of_ble_eq_true rfl) (show kd 0 = 6 from rfl) (by decide) rfl (x_isText (d := d - 1) (p := t) ht σ hc hn4 ok oi C) (fun v_ σ_ hq => ?_)
  obtain ⟨rfl, e9⟩ := hq
  have e9 := e9.symm
  subst e9
  show sE g_tt _ _ _ 5 [some (.ref 0), some (.int (iZ t)), none, none] [.int (iZ (if 0 ≤ t ∧ t < A 1 then 1 else 0))] σ
  refine z_if_ne (tgt := 11) dX6_played_5 (by decide) inR_01 (fun c_1 => ?_) (fun c_1 => ?_)
  · have c_1 := if01_1 c_1
    exfalso
    omega
  · have c_1 := if01_0 c_1
    refine z_bipush dX6_played_8 (by decide +kernel) ?_
    exact s_iretZ dX6_played_10 rfl ⟨rfl, rfl⟩
