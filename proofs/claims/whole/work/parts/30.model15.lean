set_option maxHeartbeats 4000000 in
set_option maxRecDepth 100000 in
theorem m_isPlayed {d x : Nat} (hd : 10 ≤ d) (hx : x + 2 < 2724) {s v w : Int} (σ : gS) (A F : Nat → Int) {W V : wF} {nt : Int} (hW : wOK (σ.2.1 387) 100000 nt W) (hV : vOK (σ.2.1 387) 100000 nt V) (hs : σ.2.1 387 x = s) (hv : σ.2.1 387 (x + 1) = v) (hw : σ.2.1 387 (x + 2) = w) (hcl : clV s v w) (g : gd 90000 nt A) (h3 : 0 ≤ A 3) (h30 : A 3 ≤ 30) (h23 : inR (F 23)) (h26 : 0 ≤ F 26) : sC mX7_isPlayed d [.ref 384, .int (iZ (x : Int))] (ms σ A F) (fun r σ' => r = some (.int (iZ ((mAct W V s v w A F).1))) ∧ ∃ σ2, σ' = ms σ2 (mAct W V s v w A F).2.1 (mAct W V s v w A F).2.2 ∧ eqS σ σ2) := by
  have hcl0 := hcl
  obtain ⟨c0, -, c2, c3, c4, c5, c7⟩ := hcl0
  have sl := (mS_ok (F := F) (Int.le_refl _) hW (gd_mono (gd_keep g h3 h30) (by decide))).2.2
  have ni := (mNi_ok hW hV (by decide) (by decide) v.toNat A (va_up F 24 0) g h3 h30 h26).2.2.2.2.1
  have g0 := g.1
  refine sC_of rfl (Nat.le_of_ble_eq_true rfl) ?_
  show sE g_tt _ _ _ 0 [some (.ref 384), some (.int (iZ (x : Int))), none, none] [] (ms σ A F)
  refine q_aload_n dX7_isPlayed_0 rfl rfl ?_
  refine sg7 (kf := 2) (v := .ref 387) dX7_isPlayed_1 flX7_16 (show kd 384 = 7 from rfl) (by decide) rfl ?_
  refine q_iload_n dX7_isPlayed_4 rfl rfl ?_
  refine z_iconst dX7_isPlayed_5 ?_
  refine z_iadd dX7_isPlayed_6 ?_
  refine s_iald (n := 2724) (x := v) dX7_isPlayed_7 (show kd 387 = 100 + 2724 from rfl) (by omega) (by omega) (by decide) (by show σ.2.1 387 _ = _; first | exact hs | (rw [show ((x : Int) + 1).toNat = x + 1 by omega]; exact hv) | (rw [show ((x : Int) + 2).toNat = x + 2 by omega]; exact hw)) ?_
  refine q_istore_n dX7_isPlayed_8 rfl (by decide) ?_
  show sE g_tt _ _ _ 9 [some (.ref 384), some (.int (iZ (x : Int))), some (.int (iZ v)), none] [] (ms σ A F)
  refine q_aload_n dX7_isPlayed_9 rfl rfl ?_
  refine sg7 (kf := 2) (v := .ref 387) dX7_isPlayed_10 flX7_16 (show kd 384 = 7 from rfl) (by decide) rfl ?_
  refine q_iload_n dX7_isPlayed_13 rfl rfl ?_
  refine z_iconst dX7_isPlayed_14 ?_
  refine z_iadd dX7_isPlayed_15 ?_
  refine s_iald (n := 2724) (x := w) dX7_isPlayed_16 (show kd 387 = 100 + 2724 from rfl) (by omega) (by omega) (by decide) (by show σ.2.1 387 _ = _; first | exact hs | (rw [show ((x : Int) + 1).toNat = x + 1 by omega]; exact hv) | (rw [show ((x : Int) + 2).toNat = x + 2 by omega]; exact hw)) ?_
  refine q_istore_n dX7_isPlayed_17 rfl (by decide) ?_
  show sE g_tt _ _ _ 18 [some (.ref 384), some (.int (iZ (x : Int))), some (.int (iZ v)), some (.int (iZ w))] [] (ms σ A F)
  refine q_aload_n dX7_isPlayed_18 rfl rfl ?_
  refine sg7 (kf := 2) (v := .ref 387) dX7_isPlayed_19 flX7_16 (show kd 384 = 7 from rfl) (by decide) rfl ?_
  refine q_iload_n dX7_isPlayed_22 rfl rfl ?_
  refine s_iald (n := 2724) (x := s) dX7_isPlayed_23 (show kd 387 = 100 + 2724 from rfl) (by omega) (by omega) (by decide) (by show σ.2.1 387 _ = _; first | exact hs | (rw [show ((x : Int) + 1).toNat = x + 1 by omega]; exact hv) | (rw [show ((x : Int) + 2).toNat = x + 2 by omega]; exact hw)) ?_
  by_cases s_1 : s = 2
  · refine z_top s_1 ?_
    refine q_tableIn (tgt := 64) (off := 40) dX7_isPlayed_24 (by decide +kernel) (by decide +kernel) (by decide +kernel) (by decide) ?_
    refine q_aload_n dX7_isPlayed_64 rfl rfl ?_
    refine q_iload_n dX7_isPlayed_65 rfl rfl ?_
    refine s_callV (ci := 7) (a := 384) (As := [.int (iZ v)]) (S := []) dX7_isPlayed_66 okX7_person mlX7_346 rfl (by omega) rfl (Nat.le_of_ble_eq_true rfl) (show kd 384 = 7 from rfl) (by decide) rfl (m_person (d := d - 1) (by omega) (h := v) hcl.2.1.1 σ A F g.1.1 g.1.2) (fun v_ σ_ hq => ?_)
    obtain ⟨rfl, e9⟩ := hq
    have e9 := e9.symm
    subst e9
    show sE g_tt _ _ _ 69 [some (.ref 384), some (.int (iZ (x : Int))), some (.int (iZ v)), some (.int (iZ w))] [.int (iZ (if ¬ (0 ≤ v ∧ v < 8) ∨ A 0 = 5 then -1 else A 0))] (ms σ (if ¬ (0 ≤ v ∧ v < 8) ∨ A 0 = 5 then A else va_up (va_up (va_up A (24 + A 0).toNat v) (19 + A 0).toNat v) 0 (A 0 + 1)) F)
    refine z_if_lt (tgt := 76) dX7_isPlayed_69 (by decide) (by split <;> (unfold inR; omega)) (fun c_2 => ?_) (fun c_2 => ?_)
    · refine z_iconst dX7_isPlayed_76 ?_
      exact s_zret dX7_isPlayed_77 rfl (by omega) ⟨by by_cases q9 : A (11 + w).toNat + v ≤ 99 <;> by_cases q8 : wA W A v.toNat + 2 ≤ A (11 + v.toNat) <;> (unfold mAct; (repeat (first | rw [if_pos (by omega)] | rw [if_neg (by omega)])); (try rfl)), σ, by by_cases q9 : A (11 + w).toNat + v ≤ 99 <;> by_cases q8 : wA W A v.toNat + 2 ≤ A (11 + v.toNat) <;> (unfold mAct; (repeat (first | rw [if_pos (by omega)] | rw [if_neg (by omega)])); (try rfl)), eqS_rf σ⟩
    · refine z_iconst dX7_isPlayed_72 ?_
      refine q_goto (tgt := 77) dX7_isPlayed_73 (by decide) ?_
      exact s_zret dX7_isPlayed_77 rfl (by omega) ⟨by by_cases q9 : A (11 + w).toNat + v ≤ 99 <;> by_cases q8 : wA W A v.toNat + 2 ≤ A (11 + v.toNat) <;> (unfold mAct; (repeat (first | rw [if_pos (by omega)] | rw [if_neg (by omega)])); (try rfl)), σ, by by_cases q9 : A (11 + w).toNat + v ≤ 99 <;> by_cases q8 : wA W A v.toNat + 2 ≤ A (11 + v.toNat) <;> (unfold mAct; (repeat (first | rw [if_pos (by omega)] | rw [if_neg (by omega)])); (try rfl)), eqS_rf σ⟩
  by_cases s_3 : s = 3
  · refine z_top s_3 ?_
    refine q_tableIn (tgt := 78) (off := 54) dX7_isPlayed_24 (by decide +kernel) (by decide +kernel) (by decide +kernel) (by decide) ?_
    refine q_aload_n dX7_isPlayed_78 rfl rfl ?_
    refine q_iload_n dX7_isPlayed_79 rfl rfl ?_
    refine q_iload_n dX7_isPlayed_80 rfl rfl ?_
    refine s_callV (ci := 7) (a := 384) (As := [.int (iZ w), .int (iZ v)]) (S := []) dX7_isPlayed_81 okX7_kind mlX7_349 rfl (by omega) rfl (Nat.le_of_ble_eq_true rfl) (show kd 384 = 7 from rfl) (by decide) rfl (m_kind (d := d - 1) (by omega) (h := w) (v := v) hcl.2.1.2 hcl.2.1.1 σ A F h3 h30) (fun v_ σ_ hq => ?_)
    obtain ⟨rfl, e9⟩ := hq
    have e9 := e9.symm
    subst e9
    show sE g_tt _ _ _ 84 [some (.ref 384), some (.int (iZ (x : Int))), some (.int (iZ v)), some (.int (iZ w))] [.int (iZ (if (0 ≤ w ∧ w < 8) ∧ 0 ≤ v ∧ v ≤ 40 then 1 else 0))] (ms σ (if (0 ≤ w ∧ w < 8) ∧ 0 ≤ v ∧ v ≤ 40 then mKind A w.toNat v else A) F)
    exact s_zret dX7_isPlayed_84 rfl (by omega) ⟨by by_cases q9 : A (11 + w).toNat + v ≤ 99 <;> by_cases q8 : wA W A v.toNat + 2 ≤ A (11 + v.toNat) <;> (unfold mAct; (repeat (first | rw [if_pos (by omega)] | rw [if_neg (by omega)])); (try rfl)), σ, by by_cases q9 : A (11 + w).toNat + v ≤ 99 <;> by_cases q8 : wA W A v.toNat + 2 ≤ A (11 + v.toNat) <;> (unfold mAct; (repeat (first | rw [if_pos (by omega)] | rw [if_neg (by omega)])); (try rfl)), eqS_rf σ⟩
  by_cases s_4 : s = 4
  · refine z_top s_4 ?_
    refine q_tableIn (tgt := 85) (off := 61) dX7_isPlayed_24 (by decide +kernel) (by decide +kernel) (by decide +kernel) (by decide) ?_
    refine q_aload_n dX7_isPlayed_85 rfl rfl ?_
    refine q_iload_n dX7_isPlayed_86 rfl rfl ?_
    refine q_iload_n dX7_isPlayed_87 rfl rfl ?_
    refine s_callV (ci := 7) (a := 384) (As := [.int (iZ w), .int (iZ v)]) (S := []) dX7_isPlayed_88 okX7_good mlX7_352 rfl (by omega) rfl (Nat.le_of_ble_eq_true rfl) (show kd 384 = 7 from rfl) (by decide) rfl (m_good (d := d - 1) (by omega) (h := w) (n := v) hcl.2.1.2 hcl.2.1.1 σ A F (nt := nt) g h3 h30) (fun v_ σ_ hq => ?_)
    obtain ⟨rfl, e9⟩ := hq
    have e9 := e9.symm
    subst e9
    show sE g_tt _ _ _ 91 [some (.ref 384), some (.int (iZ (x : Int))), some (.int (iZ v)), some (.int (iZ w))] [.int (iZ (if 1 ≤ v ∧ v ≤ 20 ∧ (0 ≤ w ∧ w < 8) ∧ A (11 + w).toNat + v ≤ 99 then 1 else 0))] (ms σ (if 1 ≤ v ∧ v ≤ 20 ∧ (0 ≤ w ∧ w < 8) ∧ A (11 + w).toNat + v ≤ 99 then va_up (mKeep A) (11 + w).toNat (mKeep A (11 + w).toNat + v) else A) F)
    exact s_zret dX7_isPlayed_91 rfl (by omega) ⟨by by_cases q9 : A (11 + w).toNat + v ≤ 99 <;> by_cases q8 : wA W A v.toNat + 2 ≤ A (11 + v.toNat) <;> (unfold mAct; (repeat (first | rw [if_pos (by omega)] | rw [if_neg (by omega)])); (try rfl)), σ, by by_cases q9 : A (11 + w).toNat + v ≤ 99 <;> by_cases q8 : wA W A v.toNat + 2 ≤ A (11 + v.toNat) <;> (unfold mAct; (repeat (first | rw [if_pos (by omega)] | rw [if_neg (by omega)])); (try rfl)), eqS_rf σ⟩
  by_cases s_5 : s = 5
  · refine z_top s_5 ?_
    refine q_tableIn (tgt := 92) (off := 68) dX7_isPlayed_24 (by decide +kernel) (by decide +kernel) (by decide +kernel) (by decide) ?_
    refine q_aload_n dX7_isPlayed_92 rfl rfl ?_
    refine q_iload_n dX7_isPlayed_93 rfl rfl ?_
    refine z_top (y := ((v.toNat : Nat) : Int)) (by omega) ?_
    refine s_callV (ci := 7) (a := 384) (As := [.int (iZ ((v.toNat : Nat) : Int))]) (S := []) dX7_isPlayed_94 okX7_thank mlX7_355 rfl (by omega) rfl (Nat.le_of_ble_eq_true rfl) (show kd 384 = 7 from rfl) (by decide) rfl (m_thank (d := d - 1) (h := v.toNat) (by omega) (by omega) σ A F hW g h3 h30 h23 h26) (fun v_ σ_ hq => ?_)
    obtain ⟨rfl, σ2, e9, hE2⟩ := hq
    subst e9
    show sE g_tt _ _ _ 97 [some (.ref 384), some (.int (iZ (x : Int))), some (.int (iZ v)), some (.int (iZ w))] [.int (iZ (if wA W A v.toNat + 2 ≤ A (11 + v.toNat) then 1 else 0))] (ms σ2 (if wA W A v.toNat + 2 ≤ A (11 + v.toNat) then (mThank (mKeep A) F v.toNat).1 else A) (if wA W A v.toNat + 2 ≤ A (11 + v.toNat) then (mThank (mKeep A) F v.toNat).2 else F))
    exact s_zret dX7_isPlayed_97 rfl (by omega) ⟨by by_cases q9 : A (11 + w).toNat + v ≤ 99 <;> by_cases q8 : wA W A v.toNat + 2 ≤ A (11 + v.toNat) <;> (unfold mAct; (repeat (first | rw [if_pos (by omega)] | rw [if_neg (by omega)])); (try rfl)), σ2, by by_cases q9 : A (11 + w).toNat + v ≤ 99 <;> by_cases q8 : wA W A v.toNat + 2 ≤ A (11 + v.toNat) <;> (unfold mAct; (repeat (first | rw [if_pos (by omega)] | rw [if_neg (by omega)])); (try rfl)), hE2⟩
  by_cases s_6 : s = 6
  · refine z_top s_6 ?_
    refine q_tableIn (tgt := 98) (off := 74) dX7_isPlayed_24 (by decide +kernel) (by decide +kernel) (by decide +kernel) (by decide) ?_
    refine q_aload_n dX7_isPlayed_98 rfl rfl ?_
    refine s_callV (ci := 7) (a := 384) (As := []) (S := []) dX7_isPlayed_99 okX7_settle mlX7_358 rfl (by omega) rfl (Nat.le_of_ble_eq_true rfl) (show kd 384 = 7 from rfl) (by decide) rfl (m_settleC (d := d - 1) (by omega) σ A F hW g h3 h30 h23) (fun v_ σ_ hq => ?_)
    obtain ⟨rfl, σ2, e9, hE2⟩ := hq
    subst e9
    show sE g_tt _ _ _ 102 [some (.ref 384), some (.int (iZ (x : Int))), some (.int (iZ v)), some (.int (iZ w))] [.int (iZ (if rdI W A = -1 then -1 else ((mS W (mKeep A) F).1.length : Int)))] (ms σ2 (if rdI W A = -1 then A else (mS W (mKeep A) F).2.1) (if rdI W A = -1 then F else (mS W (mKeep A) F).2.2))
    refine z_if_lt (tgt := 109) dX7_isPlayed_102 (by decide) (by split <;> (unfold inR; omega)) (fun c_7 => ?_) (fun c_7 => ?_)
    · refine z_iconst dX7_isPlayed_109 ?_
      exact s_zret dX7_isPlayed_110 rfl (by omega) ⟨by by_cases q9 : A (11 + w).toNat + v ≤ 99 <;> by_cases q8 : wA W A v.toNat + 2 ≤ A (11 + v.toNat) <;> (unfold mAct; (repeat (first | rw [if_pos (by omega)] | rw [if_neg (by omega)])); (try rfl)), σ2, by by_cases q9 : A (11 + w).toNat + v ≤ 99 <;> by_cases q8 : wA W A v.toNat + 2 ≤ A (11 + v.toNat) <;> (unfold mAct; (repeat (first | rw [if_pos (by omega)] | rw [if_neg (by omega)])); (try rfl)), hE2⟩
    · refine z_iconst dX7_isPlayed_105 ?_
      refine q_goto (tgt := 110) dX7_isPlayed_106 (by decide) ?_
      exact s_zret dX7_isPlayed_110 rfl (by omega) ⟨by by_cases q9 : A (11 + w).toNat + v ≤ 99 <;> by_cases q8 : wA W A v.toNat + 2 ≤ A (11 + v.toNat) <;> (unfold mAct; (repeat (first | rw [if_pos (by omega)] | rw [if_neg (by omega)])); (try rfl)), σ2, by by_cases q9 : A (11 + w).toNat + v ≤ 99 <;> by_cases q8 : wA W A v.toNat + 2 ≤ A (11 + v.toNat) <;> (unfold mAct; (repeat (first | rw [if_pos (by omega)] | rw [if_neg (by omega)])); (try rfl)), hE2⟩
  by_cases s_8 : s = 7
  · refine z_top s_8 ?_
    refine q_tableIn (tgt := 111) (off := 87) dX7_isPlayed_24 (by decide +kernel) (by decide +kernel) (by decide +kernel) (by decide) ?_
    refine q_aload_n dX7_isPlayed_111 rfl rfl ?_
    refine q_iload_n dX7_isPlayed_112 rfl rfl ?_
    refine z_top (y := ((v.toNat : Nat) : Int)) (by omega) ?_
    refine s_callV (ci := 7) (a := 384) (As := [.int (iZ ((v.toNat : Nat) : Int))]) (S := []) dX7_isPlayed_113 okX7_arePassed mlX7_343 rfl (by omega) rfl (Nat.le_of_ble_eq_true rfl) (show kd 384 = 7 from rfl) (by decide) rfl (m_arePassed (d := d - 1) (N := v.toNat) (by omega) (by omega) σ A F hW hV g h3 h30 h23) (fun v_ σ_ hq => ?_)
    obtain ⟨rfl, σ2, e9, hE2⟩ := hq
    subst e9
    show sE g_tt _ _ _ 116 [some (.ref 384), some (.int (iZ (x : Int))), some (.int (iZ v)), some (.int (iZ w))] [.int (iZ ((mNi W V v.toNat A (va_up F 24 0)).1))] (ms σ2 ((mNi W V v.toNat A (va_up F 24 0)).2.1) ((mNi W V v.toNat A (va_up F 24 0)).2.2))
    exact s_zret dX7_isPlayed_116 rfl (by omega) ⟨by by_cases q9 : A (11 + w).toNat + v ≤ 99 <;> by_cases q8 : wA W A v.toNat + 2 ≤ A (11 + v.toNat) <;> (unfold mAct; (repeat (first | rw [if_pos (by omega)] | rw [if_neg (by omega)])); (try rfl)), σ2, by by_cases q9 : A (11 + w).toNat + v ≤ 99 <;> by_cases q8 : wA W A v.toNat + 2 ≤ A (11 + v.toNat) <;> (unfold mAct; (repeat (first | rw [if_pos (by omega)] | rw [if_neg (by omega)])); (try rfl)), hE2⟩
  refine q_tableOut (tgt := 117) dX7_isPlayed_24 (by rw [iZ_toInt (by unfold inR at *; omega)]; omega) (by decide) ?_
  refine z_iconst dX7_isPlayed_117 ?_
  exact s_zret dX7_isPlayed_118 rfl (by omega) ⟨by by_cases q9 : A (11 + w).toNat + v ≤ 99 <;> by_cases q8 : wA W A v.toNat + 2 ≤ A (11 + v.toNat) <;> (unfold mAct; (repeat (first | rw [if_pos (by omega)] | rw [if_neg (by omega)])); (try rfl)), σ, by by_cases q9 : A (11 + w).toNat + v ≤ 99 <;> by_cases q8 : wA W A v.toNat + 2 ≤ A (11 + v.toNat) <;> (unfold mAct; (repeat (first | rw [if_pos (by omega)] | rw [if_neg (by omega)])); (try rfl)), eqS_rf σ⟩
