/-! ===== commands of the class ===== -/
def cmdP (a : Nat) : Prop := inT a ∨ scrQ a
theorem clR_cmd {σ σ' : gS} {W V : wF} {A B I : Nat → Int} {c : Int} (oi : okR c (I 1) I) (C : clR σ W V A I) (h : chg cmdP σ σ') (tw : twR σ' 1 B) (e1 : B 1 = A 1) : clR σ' W V B I := by
  refine ⟨tw, twR_ch C.2.1 h (fun a x y => by unfold cmdP inT scrQ stkP; omega) oi.2.2.2.1.2, fun t h1 h2 => lawR_ch (C.2.2.1 t h1 (by omega)) h (fun a x y => by unfold cmdP inT scrQ; unfold stkP at *; omega), fun i hi => ?_, fun i hi => ?_⟩
  · rw [(h.1 321 (by unfold cmdP inT scrQ stkP; omega)).2.2.1]; exact C.2.2.2.1 i hi
  · rw [(h.1 334 (by unfold cmdP inT scrQ stkP; omega)).2.2.1]; exact C.2.2.2.2 i hi
theorem nowP_cmd {a : Nat} (q : nowP a) : cmdP a := by
  rcases q with q | q
  · exact Or.inl (by unfold inT; omega)
  · exact Or.inr q
theorem atS2_now {a : Nat} (q : atS 2 a) : nowP a := by
  rcases q with q | q
  · exact Or.inr (Or.inl q)
  · exact Or.inl (by omega)
set_option maxHeartbeats 4000000 in
set_option maxRecDepth 100000 in
theorem x_person {d : Nat} (hd : 2 ≤ d) {h : Int} (hh : inR h) (σ : gS) {W V : wF} {A I : Nat → Int} {c nt : Int} (hc : c ≤ 88000) (hn4 : nt ≤ 4) (ok : okR c nt A) (oi : okR c (I 1) I) (C : clR σ W V A I) : sC mX6_person d [.ref 0, .int (iZ h)] σ (fun r σ' => r = some (.int (iZ (if ¬ (0 ≤ h ∧ h < 8) ∨ A 0 = 5 then -1 else A 0))) ∧ chg cmdP σ σ' ∧ clR σ' W V (if ¬ (0 ≤ h ∧ h < 8) ∨ A 0 = 5 then A else mPer A h) I) := by
  have g := ok_gd hc hn4 ok
  have g0 := g.1
  have n1 := ok.2.2.1
  have a2 := ok_2 ok
  have g10 := g.2.2.2.2.1
  have gL : gd 100000 4 A := gd_mono g (by decide)
  have rk := rA_ok (w0_of C) gL a2.1 a2.2
  refine sC_of rfl (Nat.le_of_ble_eq_true rfl) ?_
  show sE g_tt _ _ _ 0 [some (.ref 0), some (.int (iZ h))] [] σ
  refine q_iload_n dX6_person_0 rfl rfl ?_
  refine s_callS (As := [.int (iZ h)]) (S := []) dX6_person_1 okX6_isHouse mlX6_68 rfl (by omega) rfl (Nat.le_of_ble_eq_true rfl) (c_isHouse (d := d - 1) (z := h) (by unfold inR at *; omega) σ) (fun v_ σ_ hq => ?_)
  obtain ⟨rfl, e9⟩ := hq
  have e9 := e9.symm
  subst e9
  show sE g_tt _ _ _ 4 [some (.ref 0), some (.int (iZ h))] [.int (iZ (if 0 ≤ h ∧ h < 8 then 1 else 0))] σ
  refine z_if_eq (tgt := 21) dX6_person_4 (by decide) inR_01 (fun c_1 => ?_) (fun c_1 => ?_)
  · have c_1 := if01_0 c_1
    refine z_iconst dX6_person_21 ?_
    exact s_iretZ dX6_person_22 rfl ⟨by first | ((repeat (first | rw [if_pos (by omega)] | rw [if_neg (by omega)])); done) | (exfalso; omega), chg_rf _ _, by rw [if_pos (by omega)]; exact C⟩
  · have c_1 := if01_1 c_1
    refine q_aload_n dX6_person_7 rfl rfl ?_
    refine sg6 (kf := 0) (v := .ref 1) dX6_person_8 flX6_10 (show kd 0 = 6 from rfl) (by decide) rfl ?_
    refine sg5 (kf := 0) (v := .ref 2) dX6_person_11 flX6_72 (show kd 1 = 5 from rfl) (by decide) rfl ?_
    refine sg2 (kf := 2) (v := .int (iZ (A 0))) dX6_person_14 flX6_76 (show kd 2 = 2 from rfl) (by decide) (by show some (Value.int (iZ (σ.1 2 2))) = _; rw [show σ.1 2 2 = A 0 from C.1.1.2.2.1.1]) ?_
    refine z_iconst dX6_person_17 ?_
    refine z_icmp_lt (tgt := 23) dX6_person_18 (by decide) (by unfold inR at *; omega) (by unfold inR at *; omega) (fun c_2 => ?_) (fun c_2 => ?_)
    · refine q_aload_n dX6_person_23 rfl rfl ?_
      refine sg6 (kf := 0) (v := .ref 1) dX6_person_24 flX6_10 (show kd 0 = 6 from rfl) (by decide) rfl ?_
      refine q_iload_n dX6_person_27 rfl rfl ?_
      refine s_callV (ci := 5) (a := 1) (As := [.int (iZ h)]) (S := []) dX6_person_28 okX5_tellPerson mlX6_80 rfl (by omega) rfl (Nat.le_of_ble_eq_true rfl) (show kd 1 = 5 from rfl) (by decide) rfl (c_tellP (d := d - 1) (by omega) (v := h) σ ok C.1 (by omega)) (fun v_ σ_ hq => ?_)
      obtain ⟨rfl, hc1, tw1⟩ := hq
      rename gS => σ1
      have C1 := clR_cmd oi C (chg_mono hc1 (fun a q => Or.inl q)) tw1 (show mPer A h 1 = A 1 by rw [mPer_at A h g0.1, if_neg (by omega), if_neg (by omega)])
      show sE g_tt _ _ _ 31 [some (.ref 0), some (.int (iZ h))] [] σ1
      refine q_aload_n dX6_person_31 rfl rfl ?_
      refine sg6 (kf := 0) (v := .ref 1) dX6_person_32 flX6_10 (show kd 0 = 6 from rfl) (by decide) rfl ?_
      refine sg5 (kf := 0) (v := .ref 2) dX6_person_35 flX6_72 (show kd 1 = 5 from rfl) (by decide) rfl ?_
      refine sg2 (kf := 2) (v := .int (iZ (A 0 + 1))) dX6_person_38 flX6_76 (show kd 2 = 2 from rfl) (by decide) (by show some (Value.int (iZ (σ1.1 2 2))) = _; rw [show σ1.1 2 2 = mPer A h 0 from C1.1.1.2.2.1.1, mPer_at A h g0.1, if_pos rfl]) ?_
      refine z_iconst dX6_person_41 ?_
      refine z_isub dX6_person_42 ?_
      exact s_iretZ dX6_person_43 rfl ⟨by rw [if_neg (by omega)]; congr 3; omega, chg_mono hc1 (fun a q => Or.inl q), by rw [if_neg (by omega)]; exact C1⟩
    · refine z_iconst dX6_person_21 ?_
      exact s_iretZ dX6_person_22 rfl ⟨by first | ((repeat (first | rw [if_pos (by omega)] | rw [if_neg (by omega)])); done) | (exfalso; omega), chg_rf _ _, by rw [if_pos (by omega)]; exact C⟩
theorem eq_arg3 {M : gM} {d s : Nat} {x y : Int} {z : Value} (e : x = y) {σ : gS} {Q : Option Value → gS → Prop} (k : sC M d [.ref s, .int (iZ x), z] σ Q) : sC M d [.ref s, .int (iZ y), z] σ Q := e ▸ k
set_option maxHeartbeats 4000000 in
set_option maxRecDepth 100000 in
theorem x_kind {d : Nat} (hd : 2 ≤ d) {h v : Int} (hh : inR h) (hv : inR v) (σ : gS) {W V : wF} {A I : Nat → Int} {c nt : Int} (hc : c ≤ 88000) (hn4 : nt ≤ 4) (ok : okR c nt A) (oi : okR c (I 1) I) (C : clR σ W V A I) : sC mX6_kind d [.ref 0, .int (iZ h), .int (iZ v)] σ (fun r σ' => r = some (.int (iZ (if (0 ≤ h ∧ h < 8) ∧ 0 ≤ v ∧ v ≤ 40 then 1 else 0))) ∧ chg cmdP σ σ' ∧ clR σ' W V (if (0 ≤ h ∧ h < 8) ∧ 0 ≤ v ∧ v ≤ 40 then mKind A h.toNat v else A) I) := by
  have g := ok_gd hc hn4 ok
  have g0 := g.1
  have n1 := ok.2.2.1
  have a2 := ok_2 ok
  have g10 := g.2.2.2.2.1
  have gL : gd 100000 4 A := gd_mono g (by decide)
  have rk := rA_ok (w0_of C) gL a2.1 a2.2
  refine sC_of rfl (Nat.le_of_ble_eq_true rfl) ?_
  show sE g_tt _ _ _ 0 [some (.ref 0), some (.int (iZ h)), some (.int (iZ v))] [] σ
  refine q_iload_n dX6_kind_0 rfl rfl ?_
  refine s_callS (As := [.int (iZ h)]) (S := []) dX6_kind_1 okX6_isHouse mlX6_68 rfl (by omega) rfl (Nat.le_of_ble_eq_true rfl) (c_isHouse (d := d - 1) (z := h) (by unfold inR at *; omega) σ) (fun v_ σ_ hq => ?_)
  obtain ⟨rfl, e9⟩ := hq
  have e9 := e9.symm
  subst e9
  show sE g_tt _ _ _ 4 [some (.ref 0), some (.int (iZ h)), some (.int (iZ v))] [.int (iZ (if 0 ≤ h ∧ h < 8 then 1 else 0))] σ
  refine z_if_eq (tgt := 17) dX6_kind_4 (by decide) inR_01 (fun c_1 => ?_) (fun c_1 => ?_)
  · have c_1 := if01_0 c_1
    refine z_iconst dX6_kind_17 ?_
    exact s_zret dX6_kind_18 rfl (by omega) ⟨by first | ((repeat (first | rw [if_pos (by omega)] | rw [if_neg (by omega)])); done) | (exfalso; omega), chg_rf _ _, by rw [if_neg (by omega)]; exact C⟩
  · have c_1 := if01_1 c_1
    refine q_iload_n dX6_kind_7 rfl rfl ?_
    refine z_if_lt (tgt := 17) dX6_kind_8 (by decide) (by unfold inR at *; omega) (fun c_2 => ?_) (fun c_2 => ?_)
    · refine z_iconst dX6_kind_17 ?_
      exact s_zret dX6_kind_18 rfl (by omega) ⟨by first | ((repeat (first | rw [if_pos (by omega)] | rw [if_neg (by omega)])); done) | (exfalso; omega), chg_rf _ _, by rw [if_neg (by omega)]; exact C⟩
    · refine q_iload_n dX6_kind_11 rfl rfl ?_
      refine z_bipush dX6_kind_12 (by decide +kernel) ?_
      refine z_icmp_le (tgt := 19) dX6_kind_14 (by decide) (by unfold inR at *; omega) (by unfold inR at *; omega) (fun c_3 => ?_) (fun c_3 => ?_)
      · refine q_aload_n dX6_kind_19 rfl rfl ?_
        refine sg6 (kf := 0) (v := .ref 1) dX6_kind_20 flX6_10 (show kd 0 = 6 from rfl) (by decide) rfl ?_
        refine q_iload_n dX6_kind_23 rfl rfl ?_
        refine q_iload_n dX6_kind_24 rfl rfl ?_
        refine s_callV (ci := 5) (a := 1) (As := [.int (iZ h), .int (iZ v)]) (S := []) dX6_kind_25 okX5_tellKindness mlX6_84 rfl (by omega) rfl (Nat.le_of_ble_eq_true rfl) (show kd 1 = 5 from rfl) (by decide) rfl (eq_arg3 (show ((h.toNat : Nat) : Int) = h by omega) (c_tellK (d := d - 1) (h := h.toNat) (by omega) (v := v) σ ok C.1)) (fun v_ σ_ hq => ?_)
        obtain ⟨rfl, hc1, tw1⟩ := hq
        rename gS => σ1
        have C1 := clR_cmd oi C (chg_mono hc1 (fun a q => Or.inl q)) tw1 (show mKind A h.toNat v 1 = A 1 by rw [mKind_lo A (by omega) v ok.2.2.2.1.2 (by omega), va_up_ne _ _ (by omega)])
        show sE g_tt _ _ _ 28 [some (.ref 0), some (.int (iZ h)), some (.int (iZ v))] [] σ1
        refine z_iconst dX6_kind_28 ?_
        exact s_zret dX6_kind_29 rfl (by omega) ⟨by first | ((repeat (first | rw [if_pos (by omega)] | rw [if_neg (by omega)])); done) | (exfalso; omega), chg_mono hc1 (fun a q => Or.inl q), by rw [if_pos (by omega)]; exact C1⟩
      · refine z_iconst dX6_kind_17 ?_
        exact s_zret dX6_kind_18 rfl (by omega) ⟨by first | ((repeat (first | rw [if_pos (by omega)] | rw [if_neg (by omega)])); done) | (exfalso; omega), chg_rf _ _, by rw [if_neg (by omega)]; exact C⟩
theorem good_end {σ1 : gS} {W V : wF} {B I : Nat → Int} {c nt : Int} (oi : okR c (I 1) I) (C1 : clR σ1 W V B I) (ok1 : okR c nt B) {j : Nat} (hj : j < 8) (v : Int) : clR (sR σ1 3 j v) W V (va_up B (11 + j) v) I := by
  have ch : chg nowP σ1 (sR σ1 3 j v) := chg_mono (chg_sR σ1 3 j v) (fun a q => Or.inl (by omega))
  refine clR_cmd oi C1 (chg_mono ch (fun a q => nowP_cmd q)) ?_ (va_up_ne _ _ (by omega))
  exact twR_now ok1 C1.1 ch (trS_kind C1.1.1 hj v) (fun i hi => va_up_ne _ _ (by unfold nonI at hi; omega))
set_option maxHeartbeats 4000000 in
set_option maxRecDepth 100000 in
theorem x_good {d : Nat} (hd : 3 ≤ d) {h n : Int} (hh : inR h) (hn : inR n) (σ : gS) {W V : wF} {A I : Nat → Int} {c nt : Int} (hc : c ≤ 88000) (hn4 : nt ≤ 4) (ok : okR c nt A) (oi : okR c (I 1) I) (C : clR σ W V A I) : sC mX6_good d [.ref 0, .int (iZ h), .int (iZ n)] σ (fun r σ' => r = some (.int (iZ (if 1 ≤ n ∧ n ≤ 20 ∧ (0 ≤ h ∧ h < 8) ∧ A (11 + h).toNat + n ≤ 99 then 1 else 0))) ∧ chg cmdP σ σ' ∧ clR σ' W V (if 1 ≤ n ∧ n ≤ 20 ∧ (0 ≤ h ∧ h < 8) ∧ A (11 + h).toNat + n ≤ 99 then va_up (mKeep A) (11 + h).toNat (mKeep A (11 + h).toNat + n) else A) I) := by
  have g := ok_gd hc hn4 ok
  have g0 := g.1
  have n1 := ok.2.2.1
  have a2 := ok_2 ok
  have g10 := g.2.2.2.2.1
  have gL : gd 100000 4 A := gd_mono g (by decide)
  have rk := rA_ok (w0_of C) gL a2.1 a2.2
  refine sC_of rfl (Nat.le_of_ble_eq_true rfl) ?_
  show sE g_tt _ _ _ 0 [some (.ref 0), some (.int (iZ h)), some (.int (iZ n))] [] σ
  refine q_iload_n dX6_good_0 rfl rfl ?_
  refine s_callS (As := [.int (iZ h)]) (S := []) dX6_good_1 okX6_isHouse mlX6_68 rfl (by omega) rfl (Nat.le_of_ble_eq_true rfl) (c_isHouse (d := d - 1) (z := h) (by unfold inR at *; omega) σ) (fun v_ σ_ hq => ?_)
  obtain ⟨rfl, e9⟩ := hq
  have e9 := e9.symm
  subst e9
  show sE g_tt _ _ _ 4 [some (.ref 0), some (.int (iZ h)), some (.int (iZ n))] [.int (iZ (if 0 ≤ h ∧ h < 8 then 1 else 0))] σ
  refine z_if_eq (tgt := 33) dX6_good_4 (by decide) inR_01 (fun c_1 => ?_) (fun c_1 => ?_)
  · have c_1 := if01_0 c_1
    refine z_iconst dX6_good_33 ?_
    exact s_zret dX6_good_34 rfl (by omega) ⟨by first | (rw [show (11 + h).toNat = 11 + h.toNat by omega]; rw [if_neg (by omega)]; done) | (rw [if_neg (by omega)]; done), chg_rf _ _, by first | (rw [show (11 + h).toNat = 11 + h.toNat by omega]; rw [if_neg (by omega)]; exact C) | (rw [if_neg (by omega)]; exact C)⟩
  · have c_1 := if01_1 c_1
    refine q_iload_n dX6_good_7 rfl rfl ?_
    refine z_iconst dX6_good_8 ?_
    refine z_icmp_lt (tgt := 33) dX6_good_9 (by decide) (by unfold inR at *; omega) (by unfold inR at *; omega) (fun c_2 => ?_) (fun c_2 => ?_)
    · refine z_iconst dX6_good_33 ?_
      exact s_zret dX6_good_34 rfl (by omega) ⟨by first | (rw [show (11 + h).toNat = 11 + h.toNat by omega]; rw [if_neg (by omega)]; done) | (rw [if_neg (by omega)]; done), chg_rf _ _, by first | (rw [show (11 + h).toNat = 11 + h.toNat by omega]; rw [if_neg (by omega)]; exact C) | (rw [if_neg (by omega)]; exact C)⟩
    · refine q_iload_n dX6_good_12 rfl rfl ?_
      refine z_bipush dX6_good_13 (by decide +kernel) ?_
      refine z_icmp_gt (tgt := 33) dX6_good_15 (by decide) (by unfold inR at *; omega) (by unfold inR at *; omega) (fun c_3 => ?_) (fun c_3 => ?_)
      · refine z_iconst dX6_good_33 ?_
        exact s_zret dX6_good_34 rfl (by omega) ⟨by first | (rw [show (11 + h).toNat = 11 + h.toNat by omega]; rw [if_neg (by omega)]; done) | (rw [if_neg (by omega)]; done), chg_rf _ _, by first | (rw [show (11 + h).toNat = 11 + h.toNat by omega]; rw [if_neg (by omega)]; exact C) | (rw [if_neg (by omega)]; exact C)⟩
      · refine q_aload_n dX6_good_18 rfl rfl ?_
        refine sg6 (kf := 0) (v := .ref 1) dX6_good_19 flX6_10 (show kd 0 = 6 from rfl) (by decide) rfl ?_
        refine sg5 (kf := 0) (v := .ref 2) dX6_good_22 flX6_72 (show kd 1 = 5 from rfl) (by decide) rfl ?_
        refine q_iload_n dX6_good_25 rfl rfl ?_
        refine q_iload_n dX6_good_26 rfl rfl ?_
        refine s_callV (ci := 2) (a := 2) (As := [.int (iZ h), .int (iZ n)]) (S := []) dX6_good_27 okX2_takesGood mlX6_115 rfl (by omega) rfl (Nat.le_of_ble_eq_true rfl) (show kd 2 = 2 from rfl) (by decide) rfl (eq_arg3 (show ((h.toNat : Nat) : Int) = h by omega) (t_takesGood (d := d - 1) (s := 2) rfl σ (j := h.toNat) (by omega) (n := n) (by rw [C.1.1.1 h.toNat (by omega)]; unfold inR; have := kd_ran g (h := h.toNat) (by omega); omega))) (fun v_ σ_ hq => ?_)
        obtain ⟨rfl, e9⟩ := hq
        have e9 := e9.symm
        subst e9
        refine z_top (y := if A (11 + h.toNat) + n ≤ 99 then 1 else 0) (by rw [C.1.1.1 h.toNat (by omega)]) ?_
        show sE g_tt _ _ _ 30 [some (.ref 0), some (.int (iZ h)), some (.int (iZ n))] [.int (iZ (if A (11 + h.toNat) + n ≤ 99 then 1 else 0))] σ
        refine z_if_ne (tgt := 35) dX6_good_30 (by decide) inR_01 (fun c_4 => ?_) (fun c_4 => ?_)
        · have c_4 := if01_1 c_4
          refine q_aload_n dX6_good_35 rfl rfl ?_
          refine sg6 (kf := 0) (v := .ref 1) dX6_good_36 flX6_10 (show kd 0 = 6 from rfl) (by decide) rfl ?_
          refine s_callV (ci := 5) (a := 1) (As := []) (S := []) dX6_good_39 okX5_keepStep mlX6_119 rfl (by omega) rfl (Nat.le_of_ble_eq_true rfl) (show kd 1 = 5 from rfl) (by decide) rfl (c_keep (d := d - 1) (by omega) σ ok C.1) (fun v_ σ_ hq => ?_)
          obtain ⟨rfl, hc1, tw1⟩ := hq
          rename gS => σ1
          have ok1 := okR_keep ok
          have k1 : mKeep A 1 = A 1 := mKeep_o A ok.2.2.2.1.1 ok.2.2.2.1.2 (by omega)
          have k2 : mKeep A 2 = A 2 := mKeep_o A ok.2.2.2.1.1 ok.2.2.2.1.2 (by omega)
          have s1 : chg cmdP σ σ1 := chg_mono hc1 (fun a q => Or.inl q)
          have C1 := clR_cmd oi C s1 tw1 k1
          show sE g_tt _ _ _ 42 [some (.ref 0), some (.int (iZ h)), some (.int (iZ n))] [] σ1
          refine q_aload_n dX6_good_42 rfl rfl ?_
          refine sg6 (kf := 0) (v := .ref 1) dX6_good_43 flX6_10 (show kd 0 = 6 from rfl) (by decide) rfl ?_
          refine sg5 (kf := 0) (v := .ref 2) dX6_good_46 flX6_72 (show kd 1 = 5 from rfl) (by decide) rfl ?_
          refine sg2 (kf := 0) (v := .ref 3) dX6_good_49 flX6_122 (show kd 2 = 2 from rfl) (by decide) rfl ?_
          refine q_iload_n dX6_good_52 rfl rfl ?_
          refine q_dup2 dX6_good_53 rfl rfl ?_
          refine s_iald (n := 8) (x := mKeep A (11 + h.toNat)) dX6_good_54 (show kd 3 = 100 + 8 from rfl) (by omega) (by omega) (by decide) (C1.1.1.1 h.toNat (by omega)) ?_
          refine q_iload_n dX6_good_55 rfl rfl ?_
          refine z_iadd dX6_good_56 ?_
          refine s_iast (n := 8) dX6_good_57 (show kd 3 = 100 + 8 from rfl) (by omega) (by omega) (by decide) ?_
          refine z_iconst dX6_good_58 ?_
          exact s_zret dX6_good_59 rfl (by omega) ⟨by rw [show (11 + h).toNat = 11 + h.toNat by omega]; rw [if_pos (by omega)], chg_tr s1 (chg_mono (chg_sR σ1 3 _ _) (fun a q => Or.inl (by unfold inT; omega))), by rw [show (11 + h).toNat = 11 + h.toNat by omega]; rw [if_pos (by omega)]; exact good_end oi C1 ok1 (j := h.toNat) (by omega) _⟩
        · have c_4 := if01_0 c_4
          refine z_iconst dX6_good_33 ?_
          exact s_zret dX6_good_34 rfl (by omega) ⟨by first | (rw [show (11 + h).toNat = 11 + h.toNat by omega]; rw [if_neg (by omega)]; done) | (rw [if_neg (by omega)]; done), chg_rf _ _, by first | (rw [show (11 + h).toNat = 11 + h.toNat by omega]; rw [if_neg (by omega)]; exact C) | (rw [if_neg (by omega)]; exact C)⟩
def oF : Nat → Int := fun _ => 1
theorem thank_non {c nt : Int} {A : Nat → Int} (ok : okR c nt A) (F : Nat → Int) {h : Nat} (hh : h < 8) {i : Nat} (hi : nonI i) : (mThank A F h).1 i = A i := by
  have g := ok.1
  have a0 := g.2.2.2.2.1
  unfold nonI at hi
  by_cases q : i < 11
  · exact mThank_lo A F hh a0.1 a0.2 q (by omega) (by omega)
  · exact mThank_mid A F hh a0.1 a0.2 g.1.2 (by omega) (by omega)
set_option maxHeartbeats 4000000 in
set_option maxRecDepth 100000 in
theorem x_thank {d h : Nat} (hd : 5 ≤ d) (hh : h < 8) (σ : gS) {W V : wF} {A I : Nat → Int} {c nt : Int} (hc : c ≤ 88000) (hn4 : nt ≤ 4) (ok : okR c nt A) (oi : okR c (I 1) I) (C : clR σ W V A I) : sC mX6_thank d [.ref 0, .int (iZ (h : Int))] σ (fun r σ' => r = some (.int (iZ (if wA W A h + 2 ≤ A (11 + h) then 1 else 0))) ∧ chg cmdP σ σ' ∧ clR σ' W V (if wA W A h + 2 ≤ A (11 + h) then (mThank (mKeep A) oF h).1 else A) I) := by
  have g := ok_gd hc hn4 ok
  have g0 := g.1
  have n1 := ok.2.2.1
  have a2 := ok_2 ok
  have g10 := g.2.2.2.2.1
  have gL : gd 100000 4 A := gd_mono g (by decide)
  have rk := rA_ok (w0_of C) gL a2.1 a2.2
  refine sC_of rfl (Nat.le_of_ble_eq_true rfl) ?_
  show sE g_tt _ _ _ 0 [some (.ref 0), some (.int (iZ (h : Int)))] [] σ
  refine q_iload_n dX6_thank_0 rfl rfl ?_
  refine s_callS (As := [.int (iZ (h : Int))]) (S := []) dX6_thank_1 okX6_isHouse mlX6_68 rfl (by omega) rfl (Nat.le_of_ble_eq_true rfl) (c_isHouse (d := d - 1) (z := (h : Int)) (by unfold inR at *; omega) σ) (fun v_ σ_ hq => ?_)
  obtain ⟨rfl, e9⟩ := hq
  have e9 := e9.symm
  subst e9
  show sE g_tt _ _ _ 4 [some (.ref 0), some (.int (iZ (h : Int)))] [.int (iZ (if 0 ≤ (h : Int) ∧ (h : Int) < 8 then 1 else 0))] σ
  refine z_if_eq (tgt := 25) dX6_thank_4 (by decide) inR_01 (fun c_1 => ?_) (fun c_1 => ?_)
  · have c_1 := if01_0 c_1
    exfalso
    omega
  · have c_1 := if01_1 c_1
    refine q_aload_n dX6_thank_7 rfl rfl ?_
    refine sg6 (kf := 0) (v := .ref 1) dX6_thank_8 flX6_10 (show kd 0 = 6 from rfl) (by decide) rfl ?_
    refine sg5 (kf := 0) (v := .ref 2) dX6_thank_11 flX6_72 (show kd 1 = 5 from rfl) (by decide) rfl ?_
    refine q_iload_n dX6_thank_14 rfl rfl ?_
    refine q_aload_n dX6_thank_15 rfl rfl ?_
    refine s_callV (ci := 6) (a := 0) (As := []) (S := [.int (iZ (h : Int)), .ref 2]) dX6_thank_16 okX6_rule mlX6_125 rfl (by omega) rfl (Nat.le_of_ble_eq_true rfl) (show kd 0 = 6 from rfl) (by decide) rfl (x_rule (d := d - 1) (by omega) σ hc hn4 ok oi C) (fun v_ σ_ hq => ?_)
    obtain ⟨rfl, e9⟩ := hq
    have e9 := e9.symm
    subst e9
    show sE g_tt _ _ _ 19 [some (.ref 0), some (.int (iZ (h : Int)))] [.ref (txp (A 2)), .int (iZ (h : Int)), .ref 2] σ
    refine s_callV (ci := 2) (a := 2) (As := [.int (iZ (h : Int)), .ref (txp (A 2))]) (S := []) dX6_thank_19 okX2_isReady mlX6_129 rfl (by omega) rfl (Nat.le_of_ble_eq_true rfl) (show kd 2 = 2 from rfl) (by decide) rfl (t_isReady (d := d - 1) (s := 2) (h := h) (by omega) hh rfl σ (C.2.2.1 (A 2) a2.1 a2.2) A gL C.1.1) (fun v_ σ_ hq => ?_)
    obtain ⟨rfl, hc0⟩ := hq
    rename gS => σ0
    have s0 : chg scrQ σ σ0 := chg_mono hc0 (fun a q => stk_scr q)
    have C0 := clR_ch ok oi C s0
    show sE g_tt _ _ _ 22 [some (.ref 0), some (.int (iZ (h : Int)))] [.int (iZ (if W (A 2) A h + 2 ≤ A (11 + h) then 1 else 0))] σ0
    refine z_if_ne (tgt := 27) dX6_thank_22 (by decide) inR_01 (fun c_2 => ?_) (fun c_2 => ?_)
    · have c_2 := if01_1 c_2
      refine q_aload_n dX6_thank_27 rfl rfl ?_
      refine sg6 (kf := 0) (v := .ref 1) dX6_thank_28 flX6_10 (show kd 0 = 6 from rfl) (by decide) rfl ?_
      refine s_callV (ci := 5) (a := 1) (As := []) (S := []) dX6_thank_31 okX5_keepStep mlX6_119 rfl (by omega) rfl (Nat.le_of_ble_eq_true rfl) (show kd 1 = 5 from rfl) (by decide) rfl (c_keep (d := d - 1) (by omega) σ0 ok C0.1) (fun v_ σ_ hq => ?_)
      obtain ⟨rfl, hc1, tw1⟩ := hq
      rename gS => σ1
      have ok1 := okR_keep ok
      have k1 : mKeep A 1 = A 1 := mKeep_o A ok.2.2.2.1.1 ok.2.2.2.1.2 (by omega)
      have k2 : mKeep A 2 = A 2 := mKeep_o A ok.2.2.2.1.1 ok.2.2.2.1.2 (by omega)
      have s1 : chg cmdP σ0 σ1 := chg_mono hc1 (fun a q => Or.inl q)
      have C1 := clR_cmd oi C0 s1 tw1 k1
      show sE g_tt _ _ _ 34 [some (.ref 0), some (.int (iZ (h : Int)))] [] σ1
      refine q_aload_n dX6_thank_34 rfl rfl ?_
      refine sg6 (kf := 0) (v := .ref 1) dX6_thank_35 flX6_10 (show kd 0 = 6 from rfl) (by decide) rfl ?_
      refine sg5 (kf := 0) (v := .ref 2) dX6_thank_38 flX6_72 (show kd 1 = 5 from rfl) (by decide) rfl ?_
      refine q_iload_n dX6_thank_41 rfl rfl ?_
      refine s_callV (ci := 2) (a := 2) (As := [.int (iZ (h : Int))]) (S := []) dX6_thank_42 okX2_handOn mlX6_133 rfl (by omega) rfl (Nat.le_of_ble_eq_true rfl) (show kd 2 = 2 from rfl) (by decide) rfl (t_handOn (d := d - 1) (s := 2) (h := h) (by omega) hh rfl σ1 (mKeep A) oF ok1.1 C1.1.1) (fun v_ σ_ hq => ?_)
      obtain ⟨rfl, hc2, ht2⟩ := hq
      rename gS => σ2
      have n2 : chg nowP σ1 σ2 := chg_mono hc2 (fun a q => atS2_now q)
      have tw2 := twR_now ok1 C1.1 n2 ht2 (fun i hi => thank_non ok1 oF hh hi)
      have C2 := clR_cmd oi C1 (chg_mono n2 (fun a q => nowP_cmd q)) tw2 (thank_non ok1 oF hh (by unfold nonI; omega))
      show sE g_tt _ _ _ 45 [some (.ref 0), some (.int (iZ (h : Int)))] [] σ2
      refine z_iconst dX6_thank_45 ?_
      exact s_zret dX6_thank_46 rfl (by omega) ⟨by rw [if_pos (by assumption)], chg_tr (chg_mono s0 (fun a q => Or.inr q)) (chg_tr s1 (chg_mono n2 (fun a q => nowP_cmd q))), by rw [if_pos (by assumption)]; exact C2⟩
    · have c_2 := if01_0 c_2
      refine z_iconst dX6_thank_25 ?_
      exact s_zret dX6_thank_26 rfl (by omega) ⟨by rw [if_neg (by assumption)], chg_mono s0 (fun a q => Or.inr q), by rw [if_neg (by assumption)]; exact C0⟩
set_option maxHeartbeats 4000000 in
set_option maxRecDepth 100000 in
theorem x_thank0 {d : Nat} (hd : 1 ≤ d) {h : Int} (hh : inR h) (hno : ¬ (0 ≤ h ∧ h < 8)) (σ : gS) : sC mX6_thank d [.ref 0, .int (iZ h)] σ (fun r σ' => r = some (.int (iZ (0))) ∧ σ' = σ) := by
  refine sC_of rfl (Nat.le_of_ble_eq_true rfl) ?_
  show sE g_tt _ _ _ 0 [some (.ref 0), some (.int (iZ h))] [] σ
  refine q_iload_n dX6_thank_0 rfl rfl ?_
  refine s_callS (As := [.int (iZ h)]) (S := []) dX6_thank_1 okX6_isHouse mlX6_68 rfl (by omega) rfl (Nat.le_of_ble_eq_true rfl) (c_isHouse (d := d - 1) (z := h) (by unfold inR at *; omega) σ) (fun v_ σ_ hq => ?_)
  obtain ⟨rfl, e9⟩ := hq
  have e9 := e9.symm
  subst e9
  show sE g_tt _ _ _ 4 [some (.ref 0), some (.int (iZ h))] [.int (iZ (if 0 ≤ h ∧ h < 8 then 1 else 0))] σ
  refine z_if_eq (tgt := 25) dX6_thank_4 (by decide) inR_01 (fun c_1 => ?_) (fun c_1 => ?_)
  · have c_1 := if01_0 c_1
    refine z_iconst dX6_thank_25 ?_
    exact s_zret dX6_thank_26 rfl (by omega) ⟨rfl, rfl⟩
  · have c_1 := if01_1 c_1
    exfalso
    omega
set_option maxHeartbeats 4000000 in
set_option maxRecDepth 100000 in
theorem x_undo {d q : Nat} (hd : 3 ≤ d) (σ : gS) {W V : wF} {A I : Nat → Int} {c nt : Int} (hc : c ≤ 88000) (hn4 : nt ≤ 4) (ok : okR c nt A) (oi : okR c (I 1) I) (C : clR σ W V A I) (hqq : A 3 = (q : Int) + 1) : sC mX6_undo d [.ref 0] σ (fun r σ' => r = some (.int (iZ ((q : Int)))) ∧ chg cmdP σ σ' ∧ clR σ' W V (ud A q) I) := by
  have g := ok_gd hc hn4 ok
  have g0 := g.1
  have n1 := ok.2.2.1
  have a2 := ok_2 ok
  have g10 := g.2.2.2.2.1
  have gL : gd 100000 4 A := gd_mono g (by decide)
  have rk := rA_ok (w0_of C) gL a2.1 a2.2
  have h3 := ok.2.2.2.1
  refine sC_of rfl (Nat.le_of_ble_eq_true rfl) ?_
  show sE g_tt _ _ _ 0 [some (.ref 0)] [] σ
  refine q_aload_n dX6_undo_0 rfl rfl ?_
  refine sg6 (kf := 0) (v := .ref 1) dX6_undo_1 flX6_10 (show kd 0 = 6 from rfl) (by decide) rfl ?_
  refine sg5 (kf := 2) (v := .int (iZ (A 3))) dX6_undo_4 flX6_173 (show kd 1 = 5 from rfl) (by decide) (by show some (Value.int (iZ (σ.1 1 2))) = _; rw [C.1.2.1.1]) ?_
  refine z_if_ne (tgt := 12) dX6_undo_7 (by decide) (by unfold inR at *; omega) (fun c_1 => ?_) (fun c_1 => ?_)
  · refine q_aload_n dX6_undo_12 rfl rfl ?_
    refine sg6 (kf := 0) (v := .ref 1) dX6_undo_13 flX6_10 (show kd 0 = 6 from rfl) (by decide) rfl ?_
    refine s_callV (ci := 5) (a := 1) (As := []) (S := []) dX6_undo_16 okX5_takeBack mlX6_176 rfl (by omega) rfl (Nat.le_of_ble_eq_true rfl) (show kd 1 = 5 from rfl) (by decide) rfl (c_back1 (d := d - 1) (q := q) (by omega) σ ok C.1 hqq) (fun v_ σ_ hq => ?_)
    obtain ⟨rfl, hc1, tw1⟩ := hq
    rename gS => σ1
    have u1 : ud A q 1 = A 1 := ud_lo A (by omega) g0.2 (by omega) (by omega) (by omega)
    have s1 : chg cmdP σ σ1 := chg_mono hc1 (fun a q => Or.inl q)
    have C1 := clR_cmd oi C s1 tw1 u1
    have u3 : ud A q 3 = (q : Int) := by rw [ud_at A q 3 (by omega) g0.2, if_neg (by omega), if_neg (by omega), if_neg (by omega), if_pos rfl]
    show sE g_tt _ _ _ 19 [some (.ref 0)] [] σ1
    refine q_aload_n dX6_undo_19 rfl rfl ?_
    refine sg6 (kf := 0) (v := .ref 1) dX6_undo_20 flX6_10 (show kd 0 = 6 from rfl) (by decide) rfl ?_
    refine sg5 (kf := 2) (v := .int (iZ (q : Int))) dX6_undo_23 flX6_173 (show kd 1 = 5 from rfl) (by decide) (by show some (Value.int (iZ (σ1.1 1 2))) = _; rw [show σ1.1 1 2 = ud A q 3 from C1.1.2.1.1, u3]) ?_
    exact s_iretZ dX6_undo_26 rfl ⟨rfl, s1, C1⟩
  · exfalso
    omega
set_option maxHeartbeats 4000000 in
set_option maxRecDepth 100000 in
theorem x_undo0 {d : Nat} (σ : gS) {W V : wF} {A I : Nat → Int} {c nt : Int} (hc : c ≤ 88000) (hn4 : nt ≤ 4) (ok : okR c nt A) (oi : okR c (I 1) I) (C : clR σ W V A I) (h3 : A 3 = 0) : sC mX6_undo d [.ref 0] σ (fun r σ' => r = some (.int (iZ (-1))) ∧ σ' = σ) := by
  refine sC_of rfl (Nat.le_of_ble_eq_true rfl) ?_
  show sE g_tt _ _ _ 0 [some (.ref 0)] [] σ
  refine q_aload_n dX6_undo_0 rfl rfl ?_
  refine sg6 (kf := 0) (v := .ref 1) dX6_undo_1 flX6_10 (show kd 0 = 6 from rfl) (by decide) rfl ?_
  refine sg5 (kf := 2) (v := .int (iZ (A 3))) dX6_undo_4 flX6_173 (show kd 1 = 5 from rfl) (by decide) (by show some (Value.int (iZ (σ.1 1 2))) = _; rw [C.1.2.1.1]) ?_
  refine z_if_ne (tgt := 12) dX6_undo_7 (by decide) (by unfold inR at *; omega) (fun c_1 => ?_) (fun c_1 => ?_)
  · exfalso
    omega
  · refine z_iconst dX6_undo_10 ?_
    exact s_iretZ dX6_undo_11 rfl ⟨rfl, rfl⟩
