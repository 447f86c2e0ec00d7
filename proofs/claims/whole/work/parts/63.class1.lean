/-! ===== the class and the model's row ===== -/
def scrQ (a : Nat) : Prop := stkP a ∨ a = 335 ∨ a = 336 ∨ (337 ≤ a ∧ a < 340) ∨ (364 ≤ a ∧ a < 384)
/-- the class is as the rows say: A now, I the image; its laws say W, V -/
def clR (σ : gS) (W V : wF) (A I : Nat → Int) : Prop := twR σ 1 A ∧ twR σ 161 I ∧ (∀ t, -1 ≤ t → t < A 1 → lawR σ W V t) ∧ (∀ i, i < 4 → σ.2.2.2.2 321 i = some (340 + 6 * i)) ∧ ∀ i, i < 4 → σ.2.2.2.2 334 i = some (364 + 5 * i)
theorem clR_ch {σ σ1 : gS} {W V : wF} {A I : Nat → Int} {c nt : Int} (ok : okR c nt A) (oi : okR c (I 1) I) (C : clR σ W V A I) (h : chg scrQ σ σ1) : clR σ1 W V A I := by
  refine ⟨twR_ch C.1 h (fun a x y => by unfold scrQ stkP; omega) ok.2.2.2.1.2, twR_ch C.2.1 h (fun a x y => by unfold scrQ stkP; omega) oi.2.2.2.1.2, fun t h1 h2 => lawR_ch (C.2.2.1 t h1 h2) h (fun a x y => by unfold scrQ; unfold stkP at *; omega), fun i hi => ?_, fun i hi => ?_⟩
  · rw [(h.1 321 (by unfold scrQ stkP; omega)).2.2.1]; exact C.2.2.2.1 i hi
  · rw [(h.1 334 (by unfold scrQ stkP; omega)).2.2.1]; exact C.2.2.2.2 i hi
theorem ok_gd {c nt : Int} {A : Nat → Int} (hc : c ≤ 88000) (hn4 : nt ≤ 4) (ok : okR c nt A) : gd 88000 4 A := gd_ntm (gd_mono ok.1 hc) hn4
theorem ok_2 {c nt : Int} {A : Nat → Int} (ok : okR c nt A) : -1 ≤ A 2 ∧ A 2 < A 1 := by
  have g := ok.1.2.2.2.2.2.2.2.2.2
  have e := ok.2.2.1
  exact ⟨g.1, by rw [e]; exact g.2⟩
theorem atS_scr {s : Nat} (h : 364 ≤ s ∧ s + 5 ≤ 384) {a : Nat} (q : atS s a) : scrQ a := by
  rcases q with q | q
  · exact Or.inl q
  · exact Or.inr (Or.inr (Or.inr (Or.inr (by omega))))
theorem scr5 {s : Nat} (h : 364 ≤ s ∧ s + 5 ≤ 384) {a : Nat} (q : s ≤ a ∧ a < s + 5) : scrQ a := Or.inr (Or.inr (Or.inr (Or.inr (by omega))))
theorem scr1 {a b : Nat} (h : 364 ≤ b ∧ b < 384) (q : a = b) : scrQ a := Or.inr (Or.inr (Or.inr (Or.inr (by omega))))
set_option maxHeartbeats 4000000 in
set_option maxRecDepth 100000 in
theorem x_isPerson {d : Nat} {p : Int} (hp : inR p) (σ : gS) {W V : wF} {A I : Nat → Int} {c nt : Int} (hc : c ≤ 88000) (hn4 : nt ≤ 4) (ok : okR c nt A) (oi : okR c (I 1) I) (C : clR σ W V A I) : sC mX6_isPerson d [.ref 0, .int (iZ p)] σ (fun r σ' => r = some (.int (iZ (if 0 ≤ p ∧ p < A 0 then 1 else 0))) ∧ σ' = σ) := by
  have g := ok_gd hc hn4 ok
  have g0 := g.1
  have n1 := ok.2.2.1
  have a2 := ok_2 ok
  refine sC_of rfl (Nat.le_of_ble_eq_true rfl) ?_
  show sE g_tt _ _ _ 0 [some (.ref 0), some (.int (iZ p))] [] σ
  refine q_iload_n dX6_isPerson_0 rfl rfl ?_
  refine z_if_lt (tgt := 27) dX6_isPerson_1 (by decide) (by unfold inR at *; omega) (fun c_1 => ?_) (fun c_1 => ?_)
  · refine z_iconst dX6_isPerson_27 ?_
    exact s_zret dX6_isPerson_28 rfl (by omega) ⟨by first | ((repeat (first | rw [if_pos (by omega)] | rw [if_neg (by omega)])); done) | (exfalso; omega), rfl⟩
  · refine q_iload_n dX6_isPerson_4 rfl rfl ?_
    refine q_aload_n dX6_isPerson_5 rfl rfl ?_
    refine sg6 (kf := 0) (v := .ref 1) dX6_isPerson_6 flX6_10 (show kd 0 = 6 from rfl) (by decide) rfl ?_
    refine sg5 (kf := 0) (v := .ref 2) dX6_isPerson_9 flX6_72 (show kd 1 = 5 from rfl) (by decide) rfl ?_
    refine sg2 (kf := 2) (v := .int (iZ (A 0))) dX6_isPerson_12 flX6_76 (show kd 2 = 2 from rfl) (by decide) (by show some (Value.int (iZ (σ.1 2 2))) = _; rw [show σ.1 2 2 = A 0 from C.1.1.2.2.1.1]) ?_
    refine z_icmp_ge (tgt := 27) dX6_isPerson_15 (by decide) (by unfold inR at *; omega) (by unfold inR at *; omega) (fun c_2 => ?_) (fun c_2 => ?_)
    · refine z_iconst dX6_isPerson_27 ?_
      exact s_zret dX6_isPerson_28 rfl (by omega) ⟨by first | ((repeat (first | rw [if_pos (by omega)] | rw [if_neg (by omega)])); done) | (exfalso; omega), rfl⟩
    · refine q_iload_n dX6_isPerson_18 rfl rfl ?_
      refine z_iconst dX6_isPerson_19 ?_
      refine z_icmp_ge (tgt := 27) dX6_isPerson_20 (by decide) (by unfold inR at *; omega) (by unfold inR at *; omega) (fun c_3 => ?_) (fun c_3 => ?_)
      · refine z_iconst dX6_isPerson_27 ?_
        exact s_zret dX6_isPerson_28 rfl (by omega) ⟨by first | ((repeat (first | rw [if_pos (by omega)] | rw [if_neg (by omega)])); done) | (exfalso; omega), rfl⟩
      · refine z_iconst dX6_isPerson_23 ?_
        refine q_goto (tgt := 28) dX6_isPerson_24 (by decide) ?_
        exact s_zret dX6_isPerson_28 rfl (by omega) ⟨by first | ((repeat (first | rw [if_pos (by omega)] | rw [if_neg (by omega)])); done) | (exfalso; omega), rfl⟩
set_option maxHeartbeats 4000000 in
set_option maxRecDepth 100000 in
theorem x_isText {d : Nat} {p : Int} (hp : inR p) (σ : gS) {W V : wF} {A I : Nat → Int} {c nt : Int} (hc : c ≤ 88000) (hn4 : nt ≤ 4) (ok : okR c nt A) (oi : okR c (I 1) I) (C : clR σ W V A I) : sC mX6_isText d [.ref 0, .int (iZ p)] σ (fun r σ' => r = some (.int (iZ (if 0 ≤ p ∧ p < A 1 then 1 else 0))) ∧ σ' = σ) := by
  have g := ok_gd hc hn4 ok
  have g0 := g.1
  have n1 := ok.2.2.1
  have a2 := ok_2 ok
  have n0 : 0 ≤ A 1 := by omega
  refine sC_of rfl (Nat.le_of_ble_eq_true rfl) ?_
  show sE g_tt _ _ _ 0 [some (.ref 0), some (.int (iZ p))] [] σ
  refine q_iload_n dX6_isText_0 rfl rfl ?_
  refine z_if_lt (tgt := 24) dX6_isText_1 (by decide) (by unfold inR at *; omega) (fun c_1 => ?_) (fun c_1 => ?_)
  · refine z_iconst dX6_isText_24 ?_
    exact s_zret dX6_isText_25 rfl (by omega) ⟨by first | ((repeat (first | rw [if_pos (by omega)] | rw [if_neg (by omega)])); done) | (exfalso; omega), rfl⟩
  · refine q_iload_n dX6_isText_4 rfl rfl ?_
    refine q_aload_n dX6_isText_5 rfl rfl ?_
    refine sg6 (kf := 0) (v := .ref 1) dX6_isText_6 flX6_10 (show kd 0 = 6 from rfl) (by decide) rfl ?_
    refine sg5 (kf := 7) (v := .int (iZ (A 1))) dX6_isText_9 flX6_94 (show kd 1 = 5 from rfl) (by decide) (by show some (Value.int (iZ (σ.1 1 7))) = _; rw [C.1.2.1.2.2.1]) ?_
    refine z_icmp_ge (tgt := 24) dX6_isText_12 (by decide) (by unfold inR at *; omega) (by unfold inR at *; omega) (fun c_2 => ?_) (fun c_2 => ?_)
    · refine z_iconst dX6_isText_24 ?_
      exact s_zret dX6_isText_25 rfl (by omega) ⟨by first | ((repeat (first | rw [if_pos (by omega)] | rw [if_neg (by omega)])); done) | (exfalso; omega), rfl⟩
    · refine q_iload_n dX6_isText_15 rfl rfl ?_
      refine z_iconst dX6_isText_16 ?_
      refine z_icmp_ge (tgt := 24) dX6_isText_17 (by decide) (by unfold inR at *; omega) (by unfold inR at *; omega) (fun c_3 => ?_) (fun c_3 => ?_)
      · refine z_iconst dX6_isText_24 ?_
        exact s_zret dX6_isText_25 rfl (by omega) ⟨by first | ((repeat (first | rw [if_pos (by omega)] | rw [if_neg (by omega)])); done) | (exfalso; omega), rfl⟩
      · refine z_iconst dX6_isText_20 ?_
        refine q_goto (tgt := 25) dX6_isText_21 (by decide) ?_
        exact s_zret dX6_isText_25 rfl (by omega) ⟨by first | ((repeat (first | rw [if_pos (by omega)] | rw [if_neg (by omega)])); done) | (exfalso; omega), rfl⟩
set_option maxHeartbeats 4000000 in
set_option maxRecDepth 100000 in
theorem x_rule {d : Nat} (hd : 1 ≤ d) (σ : gS) {W V : wF} {A I : Nat → Int} {c nt : Int} (hc : c ≤ 88000) (hn4 : nt ≤ 4) (ok : okR c nt A) (oi : okR c (I 1) I) (C : clR σ W V A I) : sC mX6_rule d [.ref 0] σ (fun r σ' => r = some (.ref (txp (A 2))) ∧ σ' = σ) := by
  have g := ok_gd hc hn4 ok
  have g0 := g.1
  have n1 := ok.2.2.1
  have a2 := ok_2 ok
  refine sC_of rfl (Nat.le_of_ble_eq_true rfl) ?_
  show sE g_tt _ _ _ 0 [some (.ref 0)] [] σ
  refine q_aload_n dX6_rule_0 rfl rfl ?_
  refine q_aload_n dX6_rule_1 rfl rfl ?_
  refine sg6 (kf := 0) (v := .ref 1) dX6_rule_2 flX6_10 (show kd 0 = 6 from rfl) (by decide) rfl ?_
  refine sg5 (kf := 8) (v := .int (iZ (A 2))) dX6_rule_5 flX6_112 (show kd 1 = 5 from rfl) (by decide) (by show some (Value.int (iZ (σ.1 1 8))) = _; rw [C.1.2.1.2.2.2]) ?_
  refine s_callV (ci := 6) (a := 0) (As := [.int (iZ (A 2))]) (S := []) dX6_rule_8 okX6_isText mlX6_109 rfl (by omega) rfl (Nat.le_of_ble_eq_true rfl) (show kd 0 = 6 from rfl) (by decide) rfl (x_isText (d := d - 1) (p := A 2) (by unfold inR at *; omega) σ hc hn4 ok oi C) (fun v_ σ_ hq => ?_)
  obtain ⟨rfl, e9⟩ := hq
  have e9 := e9.symm
  subst e9
  show sE g_tt _ _ _ 11 [some (.ref 0)] [.int (iZ (if 0 ≤ A 2 ∧ A 2 < A 1 then 1 else 0))] σ
  refine z_if_eq (tgt := 29) dX6_rule_11 (by decide) inR_01 (fun c_1 => ?_) (fun c_1 => ?_)
  · have c_1 := if01_0 c_1
    refine q_aload_n dX6_rule_29 rfl rfl ?_
    refine sg6 (kf := 3) (v := .ref 322) dX6_rule_30 flX6_26 (show kd 0 = 6 from rfl) (by decide) rfl ?_
    exact s_aret dX6_rule_33 rfl ⟨by unfold txp; rw [if_pos (by omega)], rfl⟩
  · have c_1 := if01_1 c_1
    refine q_aload_n dX6_rule_14 rfl rfl ?_
    refine sg6 (kf := 2) (v := .ref 321) dX6_rule_15 flX6_21 (show kd 0 = 6 from rfl) (by decide) rfl ?_
    refine q_aload_n dX6_rule_18 rfl rfl ?_
    refine sg6 (kf := 0) (v := .ref 1) dX6_rule_19 flX6_10 (show kd 0 = 6 from rfl) (by decide) rfl ?_
    refine sg5 (kf := 8) (v := .int (iZ (A 2))) dX6_rule_22 flX6_112 (show kd 1 = 5 from rfl) (by decide) (by show some (Value.int (iZ (σ.1 1 8))) = _; rw [C.1.2.1.2.2.2]) ?_
    refine s_aaldT (n := 4) (x := (340 + 6 * ((A 2).toNat))) dX6_rule_25 (show kd 321 = 400000 + 4 from rfl) (by omega) (by omega) (by decide) (C.2.2.2.1 ((A 2).toNat) (by omega)) ?_
    refine q_goto (tgt := 33) dX6_rule_26 (by decide) ?_
    exact s_aret dX6_rule_33 rfl ⟨by unfold txp; rw [if_neg (by omega)], rfl⟩
set_option maxHeartbeats 4000000 in
set_option maxRecDepth 100000 in
theorem x_atRest {d : Nat} (hd : 6 ≤ d) (σ : gS) {W V : wF} {A I : Nat → Int} {c nt : Int} (hc : c ≤ 88000) (hn4 : nt ≤ 4) (ok : okR c nt A) (oi : okR c (I 1) I) (C : clR σ W V A I) : sC mX6_atRest d [.ref 0] σ (fun r σ' => r = some (.ref 364) ∧ chg scrQ σ σ' ∧ trS 0 σ' 364 (rA W A) ∧ σ'.1 364 11 = rM W A ∧ (∀ j, j < 8 → σ'.2.1 (364 + 4) j = (((rL W A).count j : Nat) : Int))) := by
  have g := ok_gd hc hn4 ok
  have g0 := g.1
  have n1 := ok.2.2.1
  have a2 := ok_2 ok
  refine sC_of rfl (Nat.le_of_ble_eq_true rfl) ?_
  show sE g_tt _ _ _ 0 [some (.ref 0), none] [] σ
  refine q_aload_n dX6_atRest_0 rfl rfl ?_
  refine sg6 (kf := 6) (v := .ref 334) dX6_atRest_1 flX6_48 (show kd 0 = 6 from rfl) (by decide) rfl ?_
  refine z_iconst dX6_atRest_4 ?_
  refine s_aaldS (n := 4) (x := 364) dX6_atRest_5 (show kd 334 = 300000 + 4 from rfl) (by omega) (by omega) (by decide) (C.2.2.2.2 0 (by omega)) ?_
  refine q_astore_n dX6_atRest_6 rfl (by decide) ?_
  show sE g_tt _ _ _ 7 [some (.ref 0), some (.ref 364)] [] σ
  refine q_aload_n dX6_atRest_7 rfl rfl ?_
  refine q_aload_n dX6_atRest_8 rfl rfl ?_
  refine sg6 (kf := 0) (v := .ref 1) dX6_atRest_9 flX6_10 (show kd 0 = 6 from rfl) (by decide) rfl ?_
  refine sg5 (kf := 0) (v := .ref 2) dX6_atRest_12 flX6_72 (show kd 1 = 5 from rfl) (by decide) rfl ?_
  refine s_callV (ci := 2) (a := 364) (As := [.ref 2]) (S := []) dX6_atRest_15 okX2_take mlX6_218 rfl (by omega) rfl (Nat.le_of_ble_eq_true rfl) (show kd 364 = 2 from rfl) (by decide) rfl (t_take (d := d - 1) (s := 364) (o := 2) (by omega) rfl σ rfl (by decide)) (fun v_ σ_ hq => ?_)
  obtain ⟨rfl, hc1, ht1⟩ := hq
  rename gS => σ1
  have s1 : chg scrQ σ σ1 := chg_mono hc1 (fun a q => scr5 (by omega) q)
  have C1 := clR_ch ok oi C s1
  have t1 : trS 0 σ1 364 A := trS_off (ht1 1 A g0.2 (fun _ => ok.1.2.2.2.2.1.2) C.1.1)
  show sE g_tt _ _ _ 18 [some (.ref 0), some (.ref 364)] [] σ1
  refine q_aload_n dX6_atRest_18 rfl rfl ?_
  refine q_aload_n dX6_atRest_19 rfl rfl ?_
  refine s_callV (ci := 6) (a := 0) (As := []) (S := [.ref 364]) dX6_atRest_20 okX6_rule mlX6_125 rfl (by omega) rfl (Nat.le_of_ble_eq_true rfl) (show kd 0 = 6 from rfl) (by decide) rfl (x_rule (d := d - 1) (by omega) σ1 hc hn4 ok oi C1) (fun v_ σ_ hq => ?_)
  obtain ⟨rfl, e9⟩ := hq
  have e9 := e9.symm
  subst e9
  show sE g_tt _ _ _ 23 [some (.ref 0), some (.ref 364)] [.ref (txp (A 2)), .ref 364] σ1
  refine s_callV (ci := 2) (a := 364) (As := [.ref (txp (A 2))]) (S := []) dX6_atRest_23 okX2_settleBy mlX6_140 rfl (by omega) rfl (Nat.le_of_ble_eq_true rfl) (show kd 364 = 2 from rfl) (by decide) rfl (t_settle (d := d - 1) (s := 364) (by omega) rfl σ1 (C1.2.2.1 (A 2) a2.1 a2.2) A zF (gd_mono g (by decide)) rfl t1) (fun v_ σ_ hq => ?_)
  obtain ⟨rfl, hc2, ht2, hm2, hn2⟩ := hq
  rename gS => σ2
  show sE g_tt _ _ _ 26 [some (.ref 0), some (.ref 364)] [.int (iZ ((mS W A zF).1.length : Int))] σ2
  refine q_pop dX6_atRest_26 rfl ?_
  refine q_aload_n dX6_atRest_27 rfl rfl ?_
  exact s_aret dX6_atRest_28 rfl ⟨rfl, chg_tr s1 (chg_mono hc2 (fun a q => atS_scr (by omega) q)), ht2, hm2, hn2⟩
