/-! ===== nights and years of the class ===== -/
set_option maxHeartbeats 4000000 in
set_option maxRecDepth 100000 in
theorem c_takesG {d s : Nat} (hs : kd s = 2) (σ : gS) (K H E N f : Nat → Int) {j : Nat} (hj : j < 8) {n : Int} (hr : inR (K j + n)) : sC mX2_takesGood d [.ref s, .int (iZ (j : Int)), .int (iZ n)] (st σ s K H E N f) (fun r σ' => r = some (.int (iZ (if K j + n ≤ 99 then 1 else 0))) ∧ σ' = st σ s K H E N f) := by
  refine sC_of rfl (Nat.le_of_ble_eq_true rfl) ?_
  show sE g_tt _ _ _ 0 [some (.ref s), some (.int (iZ (j : Int))), some (.int (iZ n))] [] (st σ s K H E N f)
  refine q_aload_n dX2_takesGood_0 rfl rfl ?_
  refine sg2 (kf := 0) (v := .ref (s + 1)) dX2_takesGood_1 flX2_9 hs (by decide) rfl ?_
  refine q_iload_n dX2_takesGood_4 rfl rfl ?_
  refine tl1 (x := K j) dX2_takesGood_5 hs (by omega) (by omega) rfl ?_
  refine q_iload_n dX2_takesGood_6 rfl rfl ?_
  refine z_iadd dX2_takesGood_7 ?_
  refine z_bipush dX2_takesGood_8 (by decide +kernel) ?_
  refine z_icmp_gt (tgt := 17) dX2_takesGood_10 (by decide) (by unfold inR at *; omega) (by unfold inR at *; omega) (fun c_1 => ?_) (fun c_1 => ?_)
  · refine z_iconst dX2_takesGood_17 ?_
    exact s_zret dX2_takesGood_18 rfl (by omega) ⟨by (repeat (first | rw [if_pos (by omega)] | rw [if_neg (by omega)])), rfl⟩
  · refine z_iconst dX2_takesGood_13 ?_
    refine q_goto (tgt := 18) dX2_takesGood_14 (by decide) ?_
    exact s_zret dX2_takesGood_18 rfl (by omega) ⟨by (repeat (first | rw [if_pos (by omega)] | rw [if_neg (by omega)])), rfl⟩
set_option maxHeartbeats 4000000 in
set_option maxRecDepth 100000 in
theorem tl_passNight {d s x : Nat} (hd : 6 ≤ d) (hs : kd s = 2) (σ : gS) {W V : wF} {t far : Int} {nt : Int} (tx : txOK σ x 100000 nt (W t) (V t)) (hW9 : ∀ A h, gd 100000 nt A → h < 8 → 0 ≤ W t A h ∧ W t A h ≤ 9) (hV9 : ∀ A h, gd 100000 nt A → h < 8 → 0 ≤ V t A h ∧ V t A h ≤ 9) (hfar : σ.1 x 10 = far) (hfr : inR far) (hnear : far = 0 → nearW 100000 nt (W t)) (K H E N f : Nat → Int) (C F : Nat → Int) (g : gd 90000 nt C) (hC2 : C 2 = t) (tr : trR (F 23) K H E f C) {j : Nat} (hj : j < 8) : sE g_tt mX2_passNight d (fun r σ' => r = none ∧ ∃ σ2 K' H' E' N' f', σ' = st σ2 s K' H' E' N' f' ∧ eqT σ σ2 ∧ trR (F 23) K' H' E' f' ((mPE W (mPD V C j) F).1)) 28 [some (.ref s), some (.ref x), some (.int (iZ (j : Int))), none] [] (st σ s K H E N f) := by
  have kk := tr.1 j hj
  have kr := kd_ran g hj
  have vv := hV9 C j (gd_mono g (by decide)) hj
  have eD : (mPD V C j) = va_up C (11 + j) (max (K j) (min 99 (K j + V t C j))) := by
    unfold mPD
    rw [hC2, kk]
    by_cases q : C (11 + j) < 99
    · rw [if_pos q]; congr 1; split <;> omega
    · rw [if_neg q, show max (C (11 + j)) (min 99 (C (11 + j) + V t C j)) = C (11 + j) by omega, va_up_id]
  have gD : gd 100000 nt (mPD V C j) := by rw [eD]; exact gd_kind g hj (by omega) (by omega)
  have hD2 : (mPD V C j) 2 = t := by rw [eD, va_up_ne _ _ (by omega)]; exact hC2
  have trD : trR (F 23) (va_up K j (max (K j) (min 99 (K j + V t C j)))) H E f (mPD V C j) := by rw [eD]; exact trR_kind tr hj _
  refine z_bipush dX2_passNight_28 (by decide +kernel) ?_
  refine q_aload_n dX2_passNight_30 rfl rfl ?_
  refine sg2 (kf := 0) (v := .ref (s + 1)) dX2_passNight_31 flX2_9 hs (by decide) rfl ?_
  refine q_iload_n dX2_passNight_34 rfl rfl ?_
  refine tl1 (x := K j) dX2_passNight_35 hs (by omega) (by omega) rfl ?_
  refine q_aload_n dX2_passNight_36 rfl rfl ?_
  refine z_iconst dX2_passNight_37 ?_
  refine q_aload_n dX2_passNight_38 rfl rfl ?_
  refine q_iload_n dX2_passNight_39 rfl rfl ?_
  refine s_callV (ci := 4) (a := x) (As := [.int (iZ 0), .ref s, .int (iZ (j : Int))]) (S := [.int (iZ (K j)), .int (iZ 99)]) dX2_passNight_40 okX4_worth mlX2_55 rfl (by omega) rfl (Nat.le_of_ble_eq_true rfl) tx.1 (by decide) rfl (c_worth0 (d := d - 1) (by omega) hj hs σ K H E N f (gd_mono g (show (90000 : Int) ≤ 100000 by decide)) tr (Int.le_refl _) tx) (fun v_ σ_ hq => ?_)
  obtain ⟨rfl, R9, e9⟩ := hq
  subst e9
  have hE1 := eqT_w tx.1 σ R9
  generalize sRw σ (x + 5) R9 = σ1 at hE1 ⊢
  show sE g_tt _ _ _ 43 [some (.ref s), some (.ref x), some (.int (iZ (j : Int))), none] [.int (iZ (V t C j)), .int (iZ (K j)), .int (iZ 99)] (st σ1 s K H E N f)
  refine z_iadd dX2_passNight_43 ?_
  refine z_mmin dX2_passNight_44 mlX2_99 (by omega) (Nat.le_of_ble_eq_true rfl) (by unfold inR at *; omega) (by unfold inR at *; omega) ?_
  refine q_istore_n dX2_passNight_47 rfl (by decide) ?_
  show sE g_tt _ _ _ 48 [some (.ref s), some (.ref x), some (.int (iZ (j : Int))), some (.int (iZ (min 99 ((K j) + (V t C j)))))] [] (st σ1 s K H E N f)
  refine q_aload_n dX2_passNight_48 rfl rfl ?_
  refine sg2 (kf := 0) (v := .ref (s + 1)) dX2_passNight_49 flX2_9 hs (by decide) rfl ?_
  refine q_iload_n dX2_passNight_52 rfl rfl ?_
  refine q_aload_n dX2_passNight_53 rfl rfl ?_
  refine sg2 (kf := 0) (v := .ref (s + 1)) dX2_passNight_54 flX2_9 hs (by decide) rfl ?_
  refine q_iload_n dX2_passNight_57 rfl rfl ?_
  refine tl1 (x := K j) dX2_passNight_58 hs (by omega) (by omega) rfl ?_
  refine q_iload_n dX2_passNight_59 rfl rfl ?_
  refine z_mmax dX2_passNight_60 mlX2_89 (by omega) (Nat.le_of_ble_eq_true rfl) (by unfold inR at *; omega) (by unfold inR at *; omega) ?_
  refine ts1 dX2_passNight_63 hs (by omega) (by omega) ?_
  refine q_aload_n dX2_passNight_64 rfl rfl ?_
  refine q_aload_n dX2_passNight_65 rfl rfl ?_
  refine q_aload_n dX2_passNight_66 rfl rfl ?_
  refine s_callV (ci := 2) (a := s) (As := [.ref x]) (S := [.ref s]) dX2_passNight_67 okX2_settleBy mlX2_102 rfl (by omega) rfl (Nat.le_of_ble_eq_true rfl) hs (by decide) rfl (c_settleBy (d := d - 1) (by omega) hs σ1 (Int.le_refl _) (txOK_T tx hE1) hW9 (by rw [hE1.1]; exact hfar) hfr hnear (va_up K j (max (K j) (min 99 (K j + V t C j)))) H E N f (mPD V C j) F gD hD2 trD) (fun v_ σ_ hq => ?_)
  obtain ⟨rfl, σ2, K2, H2, E2, N2, f2, e9, hE2, tr2, hm2, hc2⟩ := hq
  subst e9
  show sE g_tt _ _ _ 70 [some (.ref s), some (.ref x), some (.int (iZ (j : Int))), some (.int (iZ (min 99 ((K j) + (V t C j)))))] [.int (iZ ((mS W (mPD V C j) F).1.length : Int)), .ref s] (st σ2 s K2 H2 E2 N2 f2)
  refine tp (kf := 5) dX2_passNight_70 flX2_28 hs (by decide) ?_
  refine q_aload_n dX2_passNight_73 rfl rfl ?_
  refine q_dup dX2_passNight_74 rfl ?_
  refine tg (kf := 6) (x := f2 6) dX2_passNight_75 flX2_31 hs (by decide) rfl ?_
  refine z_iconst dX2_passNight_78 ?_
  refine z_iadd dX2_passNight_79 ?_
  refine tp (kf := 6) dX2_passNight_80 flX2_31 hs (by decide) ?_
  exact s_vret dX2_passNight_83 rfl ⟨rfl, σ2, K2, H2, E2, N2, _, rfl, eqT_tr hE1 hE2, (by have t5 := trR_fld tr2 (k := 5) (i := 9) (by omega) ((mS W (mPD V C j) F).1.length : Int); have t6 := trR_fld t5 (k := 6) (i := 5) (by omega) (f2 6 + 1); rw [show (mPE W (mPD V C j) F).1 = va_up (va_up (mS W (mPD V C j) F).2.1 9 ((mS W (mPD V C j) F).1.length : Int)) 5 (f2 6 + 1) by unfold mPE; rw [tr2.2.2.1.2.2.2.2.1]]; exact t6)⟩
set_option maxHeartbeats 4000000 in
set_option maxRecDepth 100000 in
theorem c_passNight {d s x : Nat} (hd : 6 ≤ d) (hs : kd s = 2) (σ : gS) {W V : wF} {t far : Int} {nt : Int} (tx : txOK σ x 100000 nt (W t) (V t)) (hW9 : ∀ A h, gd 100000 nt A → h < 8 → 0 ≤ W t A h ∧ W t A h ≤ 9) (hV9 : ∀ A h, gd 100000 nt A → h < 8 → 0 ≤ V t A h ∧ V t A h ≤ 9) (hfar : σ.1 x 10 = far) (hfr : inR far) (hnear : far = 0 → nearW 100000 nt (W t)) (K H E N f : Nat → Int) (A F : Nat → Int) (g : gd 90000 nt A) (hA2 : A 2 = t) (tr : trR (F 23) K H E f A) : sC mX2_passNight d [.ref s, .ref x] (st σ s K H E N f) (fun r σ' => r = none ∧ ∃ σ2 K' H' E' N' f', σ' = st σ2 s K' H' E' N' f' ∧ eqT σ σ2 ∧ trR (F 23) K' H' E' f' ((mPass W V A F).1)) := by
  have a6 := tr.2.2.1.2.2.2.2.2
  have g6 := g.2.2.2.2.2.2.1
  have nn := mNew_ran (x := f 7) (by omega)
  refine sC_of rfl (Nat.le_of_ble_eq_true rfl) ?_
  show sE g_tt _ _ _ 0 [some (.ref s), some (.ref x), none, none] [] (st σ s K H E N f)
  refine q_aload_n dX2_passNight_0 rfl rfl ?_
  refine q_aload_n dX2_passNight_1 rfl rfl ?_
  refine s_callV (ci := 2) (a := s) (As := []) (S := [.ref s]) dX2_passNight_2 okX2_drawn mlX2_95 rfl (by omega) rfl (Nat.le_of_ble_eq_true rfl) hs (by decide) rfl (c_drawn (d := d - 1) hs σ K H E N f (by omega) (by omega)) (fun v_ σ_ hq => ?_)
  obtain ⟨rfl, e9⟩ := hq
  have e9 := e9.symm
  subst e9
  show sE g_tt _ _ _ 5 [some (.ref s), some (.ref x), none, none] [.int (iZ (f 7)), .ref s] (st σ s K H E N (va_up f 7 (mNew (f 7))))
  refine z_bipush dX2_passNight_5 (by decide +kernel) ?_
  refine z_irem dX2_passNight_7 (by unfold inR at *; omega) (by unfold inR at *; omega) (by decide) ?_
  refine z_iconst dX2_passNight_8 ?_
  refine z_icmp_ge (tgt := 16) dX2_passNight_9 (by decide) (by have := tmod_ran (x := f 7) (by omega) (show (0 : Int) < 10 by decide); unfold inR; omega) (by unfold inR at *; omega) (fun c_1 => ?_) (fun c_1 => ?_)
  · refine z_iconst dX2_passNight_16 ?_
    refine tp (kf := 4) dX2_passNight_17 flX2_25 hs (by decide) ?_
    refine q_aload_n dX2_passNight_20 rfl rfl ?_
    refine s_callV (ci := 2) (a := s) (As := []) (S := []) dX2_passNight_21 okX2_drawn mlX2_95 rfl (by omega) rfl (Nat.le_of_ble_eq_true rfl) hs (by decide) rfl (c_drawn (d := d - 1) hs σ K H E N (va_up (va_up f 7 (mNew (f 7))) 4 0) (show 0 ≤ mNew (f 7) from nn.1) (show mNew (f 7) ≤ 40000 from nn.2)) (fun v_ σ_ hq => ?_)
    obtain ⟨rfl, e9⟩ := hq
    have e9 := e9.symm
    subst e9
    show sE g_tt _ _ _ 24 [some (.ref s), some (.ref x), none, none] [.int (iZ (mNew (f 7)))] (st σ s K H E N (va_up (va_up (va_up f 7 (mNew (f 7))) 4 0) 7 (mNew (mNew (f 7)))))
    refine z_bipush dX2_passNight_24 (by decide +kernel) ?_
    refine z_irem dX2_passNight_26 (by unfold inR at *; omega) (by unfold inR at *; omega) (by decide) ?_
    refine q_istore_n dX2_passNight_27 rfl (by decide) ?_
    show sE g_tt _ _ _ 28 [some (.ref s), some (.ref x), some (.int (iZ ((mNew (f 7)).tmod 8))), none] [] (st σ s K H E N (va_up (va_up (va_up f 7 (mNew (f 7))) 4 0) 7 (mNew (mNew (f 7)))))
    have t1 := trR_fld tr (k := 7) (i := 6) (by omega) (mNew (f 7))
    have t2 := trR_fld t1 (k := 4) (i := 7) (by omega) 0
    have t3 := trR_fld t2 (k := 7) (i := 6) (by omega) (mNew (mNew (f 7)))
    have eC : mPC A = va_up (va_up (va_up A 6 (mNew (f 7))) 7 0) 6 (mNew (mNew (f 7))) := by unfold mPC; rw [← a6]; rw [if_neg (by omega)]
    rw [← eC] at t3
    have ej : (mNew (f 7)).tmod 8 = ((mPH A : Nat) : Int) := by unfold mPH; rw [a6]; have := tmod_ran (mNew_ran (x := A 6) (by omega)).1 (show (0 : Int) < 8 by decide); omega
    rw [ej]
    exact tl_passNight hd hs σ tx hW9 hV9 hfar hfr hnear K H E N _ (mPC A) F (gd_mPC g) (by rw [eC, va_up_ne _ _ (by decide), va_up_ne _ _ (by decide), va_up_ne _ _ (by decide)]; exact hA2) t3 (mPH_lt g)
  · refine z_iconst dX2_passNight_12 ?_
    refine q_goto (tgt := 17) dX2_passNight_13 (by decide) ?_
    refine tp (kf := 4) dX2_passNight_17 flX2_25 hs (by decide) ?_
    refine q_aload_n dX2_passNight_20 rfl rfl ?_
    refine s_callV (ci := 2) (a := s) (As := []) (S := []) dX2_passNight_21 okX2_drawn mlX2_95 rfl (by omega) rfl (Nat.le_of_ble_eq_true rfl) hs (by decide) rfl (c_drawn (d := d - 1) hs σ K H E N (va_up (va_up f 7 (mNew (f 7))) 4 1) (show 0 ≤ mNew (f 7) from nn.1) (show mNew (f 7) ≤ 40000 from nn.2)) (fun v_ σ_ hq => ?_)
    obtain ⟨rfl, e9⟩ := hq
    have e9 := e9.symm
    subst e9
    show sE g_tt _ _ _ 24 [some (.ref s), some (.ref x), none, none] [.int (iZ (mNew (f 7)))] (st σ s K H E N (va_up (va_up (va_up f 7 (mNew (f 7))) 4 1) 7 (mNew (mNew (f 7)))))
    refine z_bipush dX2_passNight_24 (by decide +kernel) ?_
    refine z_irem dX2_passNight_26 (by unfold inR at *; omega) (by unfold inR at *; omega) (by decide) ?_
    refine q_istore_n dX2_passNight_27 rfl (by decide) ?_
    show sE g_tt _ _ _ 28 [some (.ref s), some (.ref x), some (.int (iZ ((mNew (f 7)).tmod 8))), none] [] (st σ s K H E N (va_up (va_up (va_up f 7 (mNew (f 7))) 4 1) 7 (mNew (mNew (f 7)))))
    have t1 := trR_fld tr (k := 7) (i := 6) (by omega) (mNew (f 7))
    have t2 := trR_fld t1 (k := 4) (i := 7) (by omega) 1
    have t3 := trR_fld t2 (k := 7) (i := 6) (by omega) (mNew (mNew (f 7)))
    have eC : mPC A = va_up (va_up (va_up A 6 (mNew (f 7))) 7 1) 6 (mNew (mNew (f 7))) := by unfold mPC; rw [← a6]; rw [if_pos (by omega)]
    rw [← eC] at t3
    have ej : (mNew (f 7)).tmod 8 = ((mPH A : Nat) : Int) := by unfold mPH; rw [a6]; have := tmod_ran (mNew_ran (x := A 6) (by omega)).1 (show (0 : Int) < 8 by decide); omega
    rw [ej]
    exact tl_passNight hd hs σ tx hW9 hV9 hfar hfr hnear K H E N _ (mPC A) F (gd_mPC g) (by rw [eC, va_up_ne _ _ (by decide), va_up_ne _ _ (by decide), va_up_ne _ _ (by decide)]; exact hA2) t3 (mPH_lt g)
set_option maxHeartbeats 4000000 in
set_option maxRecDepth 100000 in
theorem tl_passYear {d s x : Nat} (hd : 7 ≤ d) (hs : kd s = 2) (σ : gS) {W V : wF} {t far : Int} {nt : Int} (tx : txOK σ x 100000 nt (W t) (V t)) (hW9 : ∀ A h, gd 100000 nt A → h < 8 → 0 ≤ W t A h ∧ W t A h ≤ 9) (hV9 : ∀ A h, gd 100000 nt A → h < 8 → 0 ≤ V t A h ∧ V t A h ≤ 9) (hfar : σ.1 x 10 = far) (hfr : inR far) (hnear : far = 0 → nearW 100000 nt (W t)) (K H E N f : Nat → Int) (B F : Nat → Int) (g : gd 90000 nt B) (hB2 : B 2 = t) (tr : trR (F 23) K H E f B) {j : Nat} (hj : j < 8) {y : Int} (hy : 0 ≤ y ∧ y ≤ 40000) : sE g_tt mX2_passYear d (fun r σ' => r = none ∧ ∃ σ2 K' H' E' N' f', σ' = st σ2 s K' H' E' N' f' ∧ eqT σ σ2 ∧ trR (F 23) K' H' E' f' ((mHap W V y j B F).1)) 20 [some (.ref s), some (.ref x), some (.int (iZ y)), some (.int (iZ (j : Int))), some (.int (iZ (1 + y.tmod 3)))] [] (st σ s K H E N f) := by
  have kk := tr.1 j hj
  have kr := kd_ran g hj
  have gL : gd 100000 nt B := gd_mono g (by decide)
  have hw := hW9 B j gL hj
  have hwA : wA W B j = W t B j := by unfold wA; rw [hB2]
  have y3 := tmod_ran hy.1 (show (0 : Int) < 3 by decide)
  have y6 := tmod_ran hy.1 (show (0 : Int) < 6 by decide)
  have f6 := tr.2.2.1.2.2.2.2.1
  have b5 := g.2.2.2.2.2.1
  refine q_iload_n dX2_passYear_20 rfl rfl ?_
  refine z_bipush dX2_passYear_21 (by decide +kernel) ?_
  refine z_irem dX2_passYear_23 (by unfold inR at *; omega) (by unfold inR at *; omega) (by decide) ?_
  by_cases s_1 : y.tmod 6 = 0
  · refine z_top s_1 ?_
    refine q_tableIn (tgt := 56) (off := 32) dX2_passYear_24 (by decide +kernel) (by decide +kernel) (by decide +kernel) (by decide) ?_
    refine q_aload_n dX2_passYear_56 rfl rfl ?_
    refine sg2 (kf := 0) (v := .ref (s + 1)) dX2_passYear_57 flX2_9 hs (by decide) rfl ?_
    refine q_iload_n dX2_passYear_60 rfl rfl ?_
    refine q_dup2 dX2_passYear_61 rfl rfl ?_
    refine tl1 (x := K j) dX2_passYear_62 hs (by omega) (by omega) rfl ?_
    refine q_aload_n dX2_passYear_63 rfl rfl ?_
    refine q_iload_n dX2_passYear_64 rfl rfl ?_
    refine q_iload dX2_passYear_65 rfl ?_
    refine s_callV (ci := 2) (a := s) (As := [.int (iZ (j : Int)), .int (iZ (1 + y.tmod 3))]) (S := [.int (iZ (K j)), .int (iZ (j : Int)), .ref (s + 1)]) dX2_passYear_67 okX2_takesGood mlX2_106 rfl (by omega) rfl (Nat.le_of_ble_eq_true rfl) hs (by decide) rfl (c_takesG (d := d - 1) hs σ K H E N f hj (n := 1 + y.tmod 3) (by unfold inR; omega)) (fun v_ σ_ hq => ?_)
    obtain ⟨rfl, e9⟩ := hq
    have e9 := e9.symm
    subst e9
    show sE g_tt _ _ _ 70 [some (.ref s), some (.ref x), some (.int (iZ y)), some (.int (iZ (j : Int))), some (.int (iZ (1 + y.tmod 3)))] [.int (iZ (if K j + (1 + y.tmod 3) ≤ 99 then 1 else 0)), .int (iZ (K j)), .int (iZ (j : Int)), .ref (s + 1)] (st σ s K H E N f)
    refine z_if_eq (tgt := 78) dX2_passYear_70 (by decide) inR_01 (fun c_2 => ?_) (fun c_2 => ?_)
    · have c_2 := if01_0 c_2
      refine z_iconst dX2_passYear_78 ?_
      refine z_iadd dX2_passYear_79 ?_
      refine ts1 dX2_passYear_80 hs (by omega) (by omega) ?_
      refine q_goto (tgt := 125) dX2_passYear_81 (by decide) ?_
      exact s_vret dX2_passYear_125 rfl ⟨rfl, σ, _, H, E, N, f, rfl, eqT_rf σ, (by unfold mHap; rw [if_pos (by omega), if_neg (by omega)]; have t9 := trR_kind tr hj (K j + 0); rw [Int.add_zero] at t9 ⊢; rw [show K j = B (11 + j) from kk, va_up_id] at t9; rw [show K j = B (11 + j) from kk]; exact t9)⟩
    · have c_2 := if01_1 c_2
      refine q_iload dX2_passYear_73 rfl ?_
      refine q_goto (tgt := 79) dX2_passYear_75 (by decide) ?_
      refine z_iadd dX2_passYear_79 ?_
      refine ts1 dX2_passYear_80 hs (by omega) (by omega) ?_
      refine q_goto (tgt := 125) dX2_passYear_81 (by decide) ?_
      exact s_vret dX2_passYear_125 rfl ⟨rfl, σ, _, H, E, N, f, rfl, eqT_rf σ, (by unfold mHap; rw [if_pos (by omega), if_pos (by omega), ← kk]; exact trR_kind tr hj _)⟩
  by_cases s_3 : y.tmod 6 = 1
  · refine z_top s_3 ?_
    refine q_tableIn (tgt := 56) (off := 32) dX2_passYear_24 (by decide +kernel) (by decide +kernel) (by decide +kernel) (by decide) ?_
    refine q_aload_n dX2_passYear_56 rfl rfl ?_
    refine sg2 (kf := 0) (v := .ref (s + 1)) dX2_passYear_57 flX2_9 hs (by decide) rfl ?_
    refine q_iload_n dX2_passYear_60 rfl rfl ?_
    refine q_dup2 dX2_passYear_61 rfl rfl ?_
    refine tl1 (x := K j) dX2_passYear_62 hs (by omega) (by omega) rfl ?_
    refine q_aload_n dX2_passYear_63 rfl rfl ?_
    refine q_iload_n dX2_passYear_64 rfl rfl ?_
    refine q_iload dX2_passYear_65 rfl ?_
    refine s_callV (ci := 2) (a := s) (As := [.int (iZ (j : Int)), .int (iZ (1 + y.tmod 3))]) (S := [.int (iZ (K j)), .int (iZ (j : Int)), .ref (s + 1)]) dX2_passYear_67 okX2_takesGood mlX2_106 rfl (by omega) rfl (Nat.le_of_ble_eq_true rfl) hs (by decide) rfl (c_takesG (d := d - 1) hs σ K H E N f hj (n := 1 + y.tmod 3) (by unfold inR; omega)) (fun v_ σ_ hq => ?_)
    obtain ⟨rfl, e9⟩ := hq
    have e9 := e9.symm
    subst e9
    show sE g_tt _ _ _ 70 [some (.ref s), some (.ref x), some (.int (iZ y)), some (.int (iZ (j : Int))), some (.int (iZ (1 + y.tmod 3)))] [.int (iZ (if K j + (1 + y.tmod 3) ≤ 99 then 1 else 0)), .int (iZ (K j)), .int (iZ (j : Int)), .ref (s + 1)] (st σ s K H E N f)
    refine z_if_eq (tgt := 78) dX2_passYear_70 (by decide) inR_01 (fun c_4 => ?_) (fun c_4 => ?_)
    · have c_4 := if01_0 c_4
      refine z_iconst dX2_passYear_78 ?_
      refine z_iadd dX2_passYear_79 ?_
      refine ts1 dX2_passYear_80 hs (by omega) (by omega) ?_
      refine q_goto (tgt := 125) dX2_passYear_81 (by decide) ?_
      exact s_vret dX2_passYear_125 rfl ⟨rfl, σ, _, H, E, N, f, rfl, eqT_rf σ, (by unfold mHap; rw [if_pos (by omega), if_neg (by omega)]; have t9 := trR_kind tr hj (K j + 0); rw [Int.add_zero] at t9 ⊢; rw [show K j = B (11 + j) from kk, va_up_id] at t9; rw [show K j = B (11 + j) from kk]; exact t9)⟩
    · have c_4 := if01_1 c_4
      refine q_iload dX2_passYear_73 rfl ?_
      refine q_goto (tgt := 79) dX2_passYear_75 (by decide) ?_
      refine z_iadd dX2_passYear_79 ?_
      refine ts1 dX2_passYear_80 hs (by omega) (by omega) ?_
      refine q_goto (tgt := 125) dX2_passYear_81 (by decide) ?_
      exact s_vret dX2_passYear_125 rfl ⟨rfl, σ, _, H, E, N, f, rfl, eqT_rf σ, (by unfold mHap; rw [if_pos (by omega), if_pos (by omega), ← kk]; exact trR_kind tr hj _)⟩
  by_cases s_5 : y.tmod 6 = 2
  · refine z_top s_5 ?_
    refine q_tableIn (tgt := 84) (off := 60) dX2_passYear_24 (by decide +kernel) (by decide +kernel) (by decide +kernel) (by decide) ?_
    refine q_aload_n dX2_passYear_84 rfl rfl ?_
    refine q_iload_n dX2_passYear_85 rfl rfl ?_
    refine q_aload_n dX2_passYear_86 rfl rfl ?_
    refine s_callV (ci := 2) (a := s) (As := [.int (iZ (j : Int)), .ref x]) (S := []) dX2_passYear_87 okX2_isReady mlX2_78 rfl (by omega) rfl (Nat.le_of_ble_eq_true rfl) hs (by decide) rfl (c_isReady (d := d - 1) (h := j) (by omega) hj hs σ K H E N f gL tr (Int.le_refl _) tx hw.1 hw.2) (fun v_ σ_ hq => ?_)
    obtain ⟨rfl, σ2, e9, hE2⟩ := hq
    subst e9
    show sE g_tt _ _ _ 90 [some (.ref s), some (.ref x), some (.int (iZ y)), some (.int (iZ (j : Int))), some (.int (iZ (1 + y.tmod 3)))] [.int (iZ (if W t B j + 2 ≤ B (11 + j) then 1 else 0))] (st σ2 s K H E N f)
    refine z_if_eq (tgt := 125) dX2_passYear_90 (by decide) inR_01 (fun c_6 => ?_) (fun c_6 => ?_)
    · have c_6 := if01_0 c_6
      exact s_vret dX2_passYear_125 rfl ⟨rfl, σ2, K, H, E, N, f, rfl, hE2, (by unfold mHap; rw [if_neg (by omega), if_pos (by omega), if_neg (by rw [hwA]; omega)]; exact tr)⟩
    · have c_6 := if01_1 c_6
      refine q_aload_n dX2_passYear_93 rfl rfl ?_
      refine q_iload_n dX2_passYear_94 rfl rfl ?_
      refine s_callV (ci := 2) (a := s) (As := [.int (iZ (j : Int))]) (S := []) dX2_passYear_95 okX2_handOn mlX2_82 rfl (by omega) rfl (Nat.le_of_ble_eq_true rfl) hs (by decide) rfl (c_handOn (d := d - 1) (h := j) (by omega) hj hs σ2 K H E N f B (va_up F 25 (f 11)) gL tr rfl) (fun v_ σ_ hq => ?_)
      obtain ⟨rfl, K2, H2, E2, f2, e9, tr2, hm2⟩ := hq
      subst e9
      have tr2 : trR (F 23) K2 H2 E2 f2 (mThank B F j).1 := by rw [(mThank_r B j (F := F) (G := va_up F 25 (f 11)) rfl).1]; exact tr2
      show sE g_tt _ _ _ 98 [some (.ref s), some (.ref x), some (.int (iZ y)), some (.int (iZ (j : Int))), some (.int (iZ (1 + y.tmod 3)))] [] (st σ2 s K2 H2 E2 (va_up N j (N j + 1)) f2)
      refine q_goto (tgt := 125) dX2_passYear_98 (by decide) ?_
      exact s_vret dX2_passYear_125 rfl ⟨rfl, σ2, K2, H2, E2, _, f2, rfl, hE2, (by unfold mHap; rw [if_neg (by omega), if_pos (by omega), if_pos (by rw [hwA]; omega)]; exact tr2)⟩
  by_cases s_7 : y.tmod 6 = 3
  · refine z_top s_7 ?_
    refine q_tableIn (tgt := 101) (off := 77) dX2_passYear_24 (by decide +kernel) (by decide +kernel) (by decide +kernel) (by decide) ?_
    refine q_aload_n dX2_passYear_101 rfl rfl ?_
    refine q_aload_n dX2_passYear_102 rfl rfl ?_
    refine s_callV (ci := 2) (a := s) (As := [.ref x]) (S := []) dX2_passYear_103 okX2_settleBy mlX2_102 rfl (by omega) rfl (Nat.le_of_ble_eq_true rfl) hs (by decide) rfl (c_settleBy (d := d - 1) (by omega) hs σ (Int.le_refl _) tx hW9 hfar hfr hnear K H E N f B F gL hB2 tr) (fun v_ σ_ hq => ?_)
    obtain ⟨rfl, σ2, K2, H2, E2, N2, f2, e9, hE2, tr2, hm2, hc2⟩ := hq
    subst e9
    show sE g_tt _ _ _ 106 [some (.ref s), some (.ref x), some (.int (iZ y)), some (.int (iZ (j : Int))), some (.int (iZ (1 + y.tmod 3)))] [.int (iZ ((mS W B F).1.length : Int))] (st σ2 s K2 H2 E2 N2 f2)
    refine q_pop dX2_passYear_106 rfl ?_
    refine q_goto (tgt := 125) dX2_passYear_107 (by decide) ?_
    exact s_vret dX2_passYear_125 rfl ⟨rfl, σ2, K2, H2, E2, N2, f2, rfl, hE2, (by unfold mHap; rw [if_neg (by omega), if_neg (by omega), if_pos (by omega)]; exact tr2)⟩
  refine q_tableOut (tgt := 110) dX2_passYear_24 (by rw [iZ_toInt (by unfold inR at *; omega)]; omega) (by decide) ?_
  refine q_aload_n dX2_passYear_110 rfl rfl ?_
  refine tg (kf := 6) (x := f 6) dX2_passYear_111 flX2_31 hs (by decide) rfl ?_
  refine z_sipush dX2_passYear_114 (by decide +kernel) ?_
  refine z_icmp_ge (tgt := 125) dX2_passYear_117 (by decide) (by unfold inR at *; omega) (by unfold inR at *; omega) (fun c_8 => ?_) (fun c_8 => ?_)
  · exact s_vret dX2_passYear_125 rfl ⟨rfl, σ, K, H, E, N, f, rfl, eqT_rf σ, (by unfold mHap; rw [if_neg (by omega), if_neg (by omega), if_neg (by omega), if_neg (by omega)]; exact tr)⟩
  · refine q_aload_n dX2_passYear_120 rfl rfl ?_
    refine q_aload_n dX2_passYear_121 rfl rfl ?_
    refine s_callV (ci := 2) (a := s) (As := [.ref x]) (S := []) dX2_passYear_122 okX2_passNight mlX2_110 rfl (by omega) rfl (Nat.le_of_ble_eq_true rfl) hs (by decide) rfl (c_passNight (d := d - 1) (by omega) hs σ tx hW9 hV9 hfar hfr hnear K H E N f B F g hB2 tr) (fun v_ σ_ hq => ?_)
    obtain ⟨rfl, σ2, K2, H2, E2, N2, f2, e9, hE2, tr2⟩ := hq
    subst e9
    show sE g_tt _ _ _ 125 [some (.ref s), some (.ref x), some (.int (iZ y)), some (.int (iZ (j : Int))), some (.int (iZ (1 + y.tmod 3)))] [] (st σ2 s K2 H2 E2 N2 f2)
    exact s_vret dX2_passYear_125 rfl ⟨rfl, σ2, K2, H2, E2, N2, f2, rfl, hE2, (by unfold mHap; rw [if_neg (by omega), if_neg (by omega), if_neg (by omega), if_pos (by omega)]; exact tr2)⟩
set_option maxHeartbeats 4000000 in
set_option maxRecDepth 100000 in
theorem c_passYear {d s x : Nat} (hd : 7 ≤ d) (hs : kd s = 2) (σ : gS) {W V : wF} {t far : Int} {nt : Int} (tx : txOK σ x 100000 nt (W t) (V t)) (hW9 : ∀ A h, gd 100000 nt A → h < 8 → 0 ≤ W t A h ∧ W t A h ≤ 9) (hV9 : ∀ A h, gd 100000 nt A → h < 8 → 0 ≤ V t A h ∧ V t A h ≤ 9) (hfar : σ.1 x 10 = far) (hfr : inR far) (hnear : far = 0 → nearW 100000 nt (W t)) (K H E N f : Nat → Int) (A F : Nat → Int) (g : gd 90000 nt A) (hA2 : A 2 = t) (tr : trR (F 23) K H E f A) : sC mX2_passYear d [.ref s, .ref x] (st σ s K H E N f) (fun r σ' => r = none ∧ ∃ σ2 K' H' E' N' f', σ' = st σ2 s K' H' E' N' f' ∧ eqT σ σ2 ∧ trR (F 23) K' H' E' f' ((mHap W V (A 6) (mHj (A 6)) (va_up A 6 (mNew (A 6))) F).1)) := by
  have a6 := tr.2.2.1.2.2.2.2.2
  have g6 := g.2.2.2.2.2.2.1
  refine sC_of rfl (Nat.le_of_ble_eq_true rfl) ?_
  show sE g_tt _ _ _ 0 [some (.ref s), some (.ref x), none, none, none] [] (st σ s K H E N f)
  refine q_aload_n dX2_passYear_0 rfl rfl ?_
  refine s_callV (ci := 2) (a := s) (As := []) (S := []) dX2_passYear_1 okX2_drawn mlX2_95 rfl (by omega) rfl (Nat.le_of_ble_eq_true rfl) hs (by decide) rfl (c_drawn (d := d - 1) hs σ K H E N f (by omega) (by omega)) (fun v_ σ_ hq => ?_)
  obtain ⟨rfl, e9⟩ := hq
  have e9 := e9.symm
  subst e9
  show sE g_tt _ _ _ 4 [some (.ref s), some (.ref x), none, none, none] [.int (iZ (f 7))] (st σ s K H E N (va_up f 7 (mNew (f 7))))
  refine q_istore_n dX2_passYear_4 rfl (by decide) ?_
  show sE g_tt _ _ _ 5 [some (.ref s), some (.ref x), some (.int (iZ (f 7))), none, none] [] (st σ s K H E N (va_up f 7 (mNew (f 7))))
  refine q_iload_n dX2_passYear_5 rfl rfl ?_
  refine z_bipush dX2_passYear_6 (by decide +kernel) ?_
  refine z_idiv dX2_passYear_8 (by unfold inR at *; omega) (by unfold inR at *; omega) (by decide) ?_
  refine z_bipush dX2_passYear_9 (by decide +kernel) ?_
  refine z_irem dX2_passYear_11 (inR_tdiv (by unfold inR; omega) (by decide)) (by unfold inR at *; omega) (by decide) ?_
  refine q_istore_n dX2_passYear_12 rfl (by decide) ?_
  show sE g_tt _ _ _ 13 [some (.ref s), some (.ref x), some (.int (iZ (f 7))), some (.int (iZ (((f 7).tdiv 6).tmod 8))), none] [] (st σ s K H E N (va_up f 7 (mNew (f 7))))
  refine z_iconst dX2_passYear_13 ?_
  refine q_iload_n dX2_passYear_14 rfl rfl ?_
  refine z_iconst dX2_passYear_15 ?_
  refine z_irem dX2_passYear_16 (by unfold inR at *; omega) (by unfold inR at *; omega) (by decide) ?_
  refine z_iadd dX2_passYear_17 ?_
  refine q_istore dX2_passYear_18 (by decide) ?_
  show sE g_tt _ _ _ 20 [some (.ref s), some (.ref x), some (.int (iZ (f 7))), some (.int (iZ (((f 7).tdiv 6).tmod 8))), some (.int (iZ (1 + ((f 7).tmod 3))))] [] (st σ s K H E N (va_up f 7 (mNew (f 7))))
  have t1 := trR_fld tr (k := 7) (i := 6) (by omega) (mNew (f 7))
  have ej : ((f 7).tdiv 6).tmod 8 = ((mHj (A 6) : Nat) : Int) := by unfold mHj; rw [a6]; have := tmod_ran (Int.tdiv_nonneg g6.1 (show (0 : Int) ≤ 6 by decide)) (show (0 : Int) < 8 by decide); omega
  rw [ej]
  rw [show va_up A 6 (mNew (f 7)) = (va_up A 6 (mNew (A 6))) by rw [a6]] at t1
  have k9 := tl_passYear hd hs σ tx hW9 hV9 hfar hfr hnear K H E N (va_up f 7 (mNew (f 7))) (va_up A 6 (mNew (A 6))) F (gd_up g (Or.inl ⟨rfl, (mNew_ran g6.1).1, (mNew_ran g6.1).2⟩)) (by rw [va_up_ne _ _ (by decide)]; exact hA2) t1 (mHj_lt g6.1) (y := f 7) (by omega)
  rw [show mHap W V (A 6) (mHj (A 6)) (va_up A 6 (mNew (A 6))) F = mHap W V (f 7) (mHj (A 6)) (va_up A 6 (mNew (A 6))) F by rw [a6]]
  exact k9
