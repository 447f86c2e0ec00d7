/-! ===== a clause done ===== -/
theorem mAct_0 (W V : wF) {s : Int} (h : ¬ s = 2 ∧ ¬ s = 3 ∧ ¬ s = 4 ∧ ¬ s = 5 ∧ ¬ s = 6 ∧ ¬ s = 7) (v w : Int) (A F : Nat → Int) : mAct W V s v w A F = (1, A, F) := by
  unfold mAct
  rw [if_neg h.1, if_neg h.2.1, if_neg h.2.2.1, if_neg h.2.2.2.1, if_neg h.2.2.2.2.1, if_neg h.2.2.2.2.2]
theorem mAct_2 (W V : wF) {s : Int} (h : s = 2) (v w : Int) (A F : Nat → Int) : mAct W V s v w A F = (if A 0 = 5 then 0 else 1, if A 0 = 5 then A else mPer A v, F) := by
  subst h
  unfold mAct
  rw [if_pos rfl]
theorem mAct_3 (W V : wF) {s : Int} (h : s = 3) (v w : Int) (A F : Nat → Int) : mAct W V s v w A F = (1, mKind A w.toNat v, F) := by
  subst h
  unfold mAct
  rw [if_neg (by decide), if_pos rfl]
theorem mAct_4 (W V : wF) {s : Int} (h : s = 4) (v w : Int) (A F : Nat → Int) : mAct W V s v w A F = (if A (11 + w).toNat + v ≤ 99 then 1 else 0, if A (11 + w).toNat + v ≤ 99 then va_up (mKeep A) (11 + w).toNat (mKeep A (11 + w).toNat + v) else A, F) := by
  subst h
  unfold mAct
  rw [if_neg (by decide), if_neg (by decide), if_pos rfl]
theorem mAct_5 (W V : wF) {s : Int} (h : s = 5) (v w : Int) (A F : Nat → Int) : mAct W V s v w A F = (if wA W A v.toNat + 2 ≤ A (11 + v.toNat) then 1 else 0, if wA W A v.toNat + 2 ≤ A (11 + v.toNat) then (mThank (mKeep A) F v.toNat).1 else A, if wA W A v.toNat + 2 ≤ A (11 + v.toNat) then (mThank (mKeep A) F v.toNat).2 else F) := by
  subst h
  unfold mAct
  rw [if_neg (by decide), if_neg (by decide), if_neg (by decide), if_pos rfl]
theorem mAct_6 (W V : wF) {s : Int} (h : s = 6) (v w : Int) (A F : Nat → Int) : mAct W V s v w A F = (if rdI W A = -1 then 0 else 1, if rdI W A = -1 then A else (mS W (mKeep A) F).2.1, if rdI W A = -1 then F else (mS W (mKeep A) F).2.2) := by
  subst h
  unfold mAct
  rw [if_neg (by decide), if_neg (by decide), if_neg (by decide), if_neg (by decide), if_pos rfl]
theorem mAct_7 (W V : wF) {s : Int} (h : s = 7) (v w : Int) (A F : Nat → Int) : mAct W V s v w A F = mNi W V v.toNat A (va_up F 24 0) := by
  subst h
  unfold mAct
  rw [if_neg (by decide), if_neg (by decide), if_neg (by decide), if_neg (by decide), if_neg (by decide), if_pos rfl]
theorem act_2 {α : Type} {v : Int} (h : 0 ≤ v ∧ v ≤ 7) (A : Nat → Int) (x y : α) : (if ¬ (0 ≤ v ∧ v < 8) ∨ A 0 = 5 then x else y) = if A 0 = 5 then x else y := by
  by_cases q : A 0 = 5
  · rw [if_pos q, if_pos (Or.inr q)]
  · rw [if_neg q, if_neg (by omega)]
theorem act_4 {α : Type} {v w : Int} (h : (1 ≤ v ∧ v ≤ 20) ∧ 0 ≤ w ∧ w ≤ 7) (A : Nat → Int) (x y : α) : (if 1 ≤ v ∧ v ≤ 20 ∧ (0 ≤ w ∧ w < 8) ∧ A (11 + w).toNat + v ≤ 99 then x else y) = if A (11 + w).toNat + v ≤ 99 then x else y := by
  by_cases q : A (11 + w).toNat + v ≤ 99
  · rw [if_pos q, if_pos ⟨h.1.1, h.1.2, ⟨h.2.1, by omega⟩, q⟩]
  · rw [if_neg q, if_neg (fun e => q e.2.2.2)]
theorem eq_one {M : gM} {d s : Nat} {x y : Int} (e : x = y) {σ : gS} {Q : Option Value → gS → Prop} (k : sC M d [.ref s, .int (iZ x)] σ Q) : sC M d [.ref s, .int (iZ y)] σ Q := e ▸ k
set_option maxHeartbeats 4000000 in
set_option maxRecDepth 100000 in
theorem x_perform {d : Nat} (hd : 7 ≤ d) {s v w : Int} (hcl : clV s v w) (F : Nat → Int) (hF : F 23 = 1) (σ : gS) {W V : wF} {A I : Nat → Int} {c nt : Int} (hc : c ≤ 88000) (hn4 : nt ≤ 4) (ok : okR c nt A) (oi : okR c (I 1) I) (C : clR σ W V A I) {T : Nat → Int} (hW : wOK T 100000 nt W) (hV : vOK T 100000 nt V) : sC mX6_perform d [.ref 0, .int (iZ s), .int (iZ v), .int (iZ w)] σ (fun r σ' => r = some (.int (iZ ((mAct W V s v w A F).1))) ∧ chg cmdP σ σ' ∧ clR σ' W V (mAct W V s v w A F).2.1 I) := by
  have g := ok_gd hc hn4 ok
  have g0 := g.1
  have n1 := ok.2.2.1
  have a2 := ok_2 ok
  have g10 := g.2.2.2.2.1
  have gL : gd 100000 4 A := gd_mono g (by decide)
  have rk := rA_ok (w0_of C) gL a2.1 a2.2
  have hs7 := hcl.1
  refine sC_of rfl (Nat.le_of_ble_eq_true rfl) ?_
  show sE g_tt _ _ _ 0 [some (.ref 0), some (.int (iZ s)), some (.int (iZ v)), some (.int (iZ w)), none] [] σ
  refine q_iload_n dX6_perform_0 rfl rfl ?_
  by_cases s_1 : (s : Int) = 2
  · refine z_top s_1 ?_
    refine q_tableIn (tgt := 40) (off := 39) dX6_perform_1 (by decide +kernel) (by decide +kernel) (by decide +kernel) (by decide) ?_
    refine q_aload_n dX6_perform_40 rfl rfl ?_
    refine q_iload_n dX6_perform_41 rfl rfl ?_
    refine s_callV (ci := 6) (a := 0) (As := [.int (iZ v)]) (S := []) dX6_perform_42 okX6_person mlX6_319 rfl (by omega) rfl (Nat.le_of_ble_eq_true rfl) (show kd 0 = 6 from rfl) (by decide) rfl (x_person (d := d - 1) (by omega) (h := v) hcl.2.1.1 σ hc hn4 ok oi C) (fun v_ σ_ hq => ?_)
    obtain ⟨rfl, s1, C1⟩ := hq
    rename gS => σ2
    have q2 := hcl.2.2.1 s_1
    rw [act_2 q2 A] at C1
    refine z_top (y := if A 0 = 5 then -1 else A 0) (by rw [act_2 q2 A]) ?_
    rw [mAct_2 W V s_1]
    show sE g_tt _ _ _ 45 [some (.ref 0), some (.int (iZ s)), some (.int (iZ v)), some (.int (iZ w)), none] [.int (iZ (if A 0 = 5 then -1 else A 0))] σ2
    refine z_iconst dX6_perform_45 ?_
    refine z_icmp_eq (tgt := 53) dX6_perform_46 (by decide) (by unfold inR at *; omega) (by unfold inR at *; omega) (fun c_2 => ?_) (fun c_2 => ?_)
    · refine z_iconst dX6_perform_53 ?_
      exact s_zret dX6_perform_54 rfl (by first | omega | (split <;> omega)) ⟨by first | (rw [if_pos (by split at * <;> omega)]; done) | (rw [if_neg (by split at * <;> omega)]; done), s1, C1⟩
    · refine z_iconst dX6_perform_49 ?_
      refine q_goto (tgt := 54) dX6_perform_50 (by decide) ?_
      exact s_zret dX6_perform_54 rfl (by first | omega | (split <;> omega)) ⟨by first | (rw [if_pos (by split at * <;> omega)]; done) | (rw [if_neg (by split at * <;> omega)]; done), s1, C1⟩
  by_cases s_3 : (s : Int) = 3
  · refine z_top s_3 ?_
    refine q_tableIn (tgt := 55) (off := 54) dX6_perform_1 (by decide +kernel) (by decide +kernel) (by decide +kernel) (by decide) ?_
    refine q_aload_n dX6_perform_55 rfl rfl ?_
    refine q_iload_n dX6_perform_56 rfl rfl ?_
    refine q_iload_n dX6_perform_57 rfl rfl ?_
    refine s_callV (ci := 6) (a := 0) (As := [.int (iZ w), .int (iZ v)]) (S := []) dX6_perform_58 okX6_kind mlX6_322 rfl (by omega) rfl (Nat.le_of_ble_eq_true rfl) (show kd 0 = 6 from rfl) (by decide) rfl (x_kind (d := d - 1) (by omega) (h := w) (v := v) hcl.2.1.2 hcl.2.1.1 σ hc hn4 ok oi C) (fun v_ σ_ hq => ?_)
    obtain ⟨rfl, s1, C1⟩ := hq
    rename gS => σ3
    have q3 := hcl.2.2.2.1 s_3
    rw [if_pos (by omega)] at C1
    refine z_top (y := 1) (by rw [if_pos (by omega)]) ?_
    rw [mAct_3 W V s_3]
    show sE g_tt _ _ _ 61 [some (.ref 0), some (.int (iZ s)), some (.int (iZ v)), some (.int (iZ w)), none] [.int (iZ 1)] σ3
    exact s_zret dX6_perform_61 rfl (by first | omega | (split <;> omega)) ⟨rfl, s1, C1⟩
  by_cases s_4 : (s : Int) = 4
  · refine z_top s_4 ?_
    refine q_tableIn (tgt := 62) (off := 61) dX6_perform_1 (by decide +kernel) (by decide +kernel) (by decide +kernel) (by decide) ?_
    refine q_aload_n dX6_perform_62 rfl rfl ?_
    refine q_iload_n dX6_perform_63 rfl rfl ?_
    refine q_iload_n dX6_perform_64 rfl rfl ?_
    refine s_callV (ci := 6) (a := 0) (As := [.int (iZ w), .int (iZ v)]) (S := []) dX6_perform_65 okX6_good mlX6_325 rfl (by omega) rfl (Nat.le_of_ble_eq_true rfl) (show kd 0 = 6 from rfl) (by decide) rfl (x_good (d := d - 1) (by omega) (h := w) (n := v) hcl.2.1.2 hcl.2.1.1 σ hc hn4 ok oi C) (fun v_ σ_ hq => ?_)
    obtain ⟨rfl, s1, C1⟩ := hq
    rename gS => σ4
    have q4 := hcl.2.2.2.2.1 s_4
    rw [act_4 q4 A] at C1
    refine z_top (y := if A (11 + w).toNat + v ≤ 99 then 1 else 0) (by rw [act_4 q4 A]) ?_
    rw [mAct_4 W V s_4]
    show sE g_tt _ _ _ 68 [some (.ref 0), some (.int (iZ s)), some (.int (iZ v)), some (.int (iZ w)), none] [.int (iZ (if A (11 + w).toNat + v ≤ 99 then 1 else 0))] σ4
    exact s_zret dX6_perform_68 rfl (by first | omega | (split <;> omega)) ⟨rfl, s1, C1⟩
  by_cases s_5 : (s : Int) = 5
  · refine z_top s_5 ?_
    refine q_tableIn (tgt := 69) (off := 68) dX6_perform_1 (by decide +kernel) (by decide +kernel) (by decide +kernel) (by decide) ?_
    refine q_aload_n dX6_perform_69 rfl rfl ?_
    refine q_iload_n dX6_perform_70 rfl rfl ?_
    refine s_callV (ci := 6) (a := 0) (As := [.int (iZ v)]) (S := []) dX6_perform_71 okX6_thank mlX6_328 rfl (by omega) rfl (Nat.le_of_ble_eq_true rfl) (show kd 0 = 6 from rfl) (by decide) rfl (eq_one (show ((v.toNat : Nat) : Int) = v by have := hcl.2.2.2.2.2.1 s_5; omega) (x_thank (d := d - 1) (h := v.toNat) (by omega) (by have := hcl.2.2.2.2.2.1 s_5; omega) σ hc hn4 ok oi C)) (fun v_ σ_ hq => ?_)
    obtain ⟨rfl, s1, C1⟩ := hq
    rename gS => σ5
    rw [(mThank_r (mKeep A) v.toNat (show oF 23 = F 23 from hF.symm)).1] at C1
    rw [mAct_5 W V s_5]
    show sE g_tt _ _ _ 74 [some (.ref 0), some (.int (iZ s)), some (.int (iZ v)), some (.int (iZ w)), none] [.int (iZ (if wA W A v.toNat + 2 ≤ A (11 + v.toNat) then 1 else 0))] σ5
    exact s_zret dX6_perform_74 rfl (by first | omega | (split <;> omega)) ⟨rfl, s1, C1⟩
  by_cases s_6 : (s : Int) = 6
  · refine z_top s_6 ?_
    refine q_tableIn (tgt := 75) (off := 74) dX6_perform_1 (by decide +kernel) (by decide +kernel) (by decide +kernel) (by decide) ?_
    refine q_aload_n dX6_perform_75 rfl rfl ?_
    refine s_callV (ci := 6) (a := 0) (As := []) (S := []) dX6_perform_76 okX6_settle mlX6_331 rfl (by omega) rfl (Nat.le_of_ble_eq_true rfl) (show kd 0 = 6 from rfl) (by decide) rfl (x_settle (d := d - 1) (by omega) F hF σ hc hn4 ok oi C) (fun v_ σ_ hq => ?_)
    obtain ⟨rfl, s1, C1⟩ := hq
    rename gS => σ6
    have e2 : mKeep A 2 = A 2 := mKeep_o A ok.2.2.2.1.1 ok.2.2.2.1.2 (by omega)
    have ln := (mS_gd (w0_of C) (gd_mono (ok_gd hc hn4 (okR_keep ok)) (by decide)) (by rw [e2]; exact a2.1) (by rw [e2]; exact a2.2) F).2
    rw [mAct_6 W V s_6]
    show sE g_tt _ _ _ 79 [some (.ref 0), some (.int (iZ s)), some (.int (iZ v)), some (.int (iZ w)), none] [.int (iZ (if rdI W A = -1 then -1 else ((mS W (mKeep A) F).1.length : Int)))] σ6
    refine z_iconst dX6_perform_79 ?_
    refine z_icmp_eq (tgt := 87) dX6_perform_80 (by decide) (by unfold inR at *; omega) (by unfold inR at *; omega) (fun c_7 => ?_) (fun c_7 => ?_)
    · refine z_iconst dX6_perform_87 ?_
      exact s_zret dX6_perform_88 rfl (by first | omega | (split <;> omega)) ⟨by first | (rw [if_pos (by split at * <;> omega)]; done) | (rw [if_neg (by split at * <;> omega)]; done), s1, C1⟩
    · refine z_iconst dX6_perform_83 ?_
      refine q_goto (tgt := 88) dX6_perform_84 (by decide) ?_
      exact s_zret dX6_perform_88 rfl (by first | omega | (split <;> omega)) ⟨by first | (rw [if_pos (by split at * <;> omega)]; done) | (rw [if_neg (by split at * <;> omega)]; done), s1, C1⟩
  by_cases s_8 : (s : Int) = 7
  · refine z_top s_8 ?_
    refine q_tableIn (tgt := 89) (off := 88) dX6_perform_1 (by decide +kernel) (by decide +kernel) (by decide +kernel) (by decide) ?_
    refine z_iconst dX6_perform_89 ?_
    refine q_istore dX6_perform_90 (by decide) ?_
    show sE g_tt _ _ _ 92 [some (.ref 0), some (.int (iZ s)), some (.int (iZ v)), some (.int (iZ w)), some (.int (iZ 0))] [] σ
    have q7 := hcl.2.2.2.2.2.2 s_8
    rw [mAct_7 W V s_8]
    obtain ⟨N, rfl⟩ : ∃ N : Nat, v = (N : Int) := ⟨v.toNat, by omega⟩
    subst s_8
    rw [Int.toNat_natCast]
    exact lx_nights (N := N) (t := A 2) (by omega) (by omega) _ σ hc hn4 oi hW hV 61 A (va_up F 24 0) 0 σ hF ok C rfl (chg_rf _ _) (by omega) (by omega)
  refine q_tableOut (tgt := 145) dX6_perform_1 (by rw [iZ_toInt (by unfold inR at *; omega)]; omega) (by decide) ?_
  refine z_iconst dX6_perform_145 ?_
  exact s_zret dX6_perform_146 rfl (by first | omega | (split <;> omega)) ⟨by rw [mAct_0 W V ⟨s_1, s_3, s_4, s_5, s_6, s_8⟩], chg_rf _ _, by rw [mAct_0 W V ⟨s_1, s_3, s_4, s_5, s_6, s_8⟩]; exact C⟩
