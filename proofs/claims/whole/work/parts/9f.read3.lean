/-! ===== the model's reader: isAskAhead, opened, endOne, beginOne ===== -/
set_option maxHeartbeats 4000000 in
set_option maxRecDepth 100000 in
theorem m_askC {d : Nat} (hd : 2 ≤ d) (σ : gS) (A F T Pf : Nat → Int) {w0 : Int} {b : Nat → Int} {n tx : Nat} {so : Int} {k : Nat} {x : Int} {Pl : List Int} {oo : Int} {D : List (Int × Int)} (hR : psR b n tx so F w0 T Pf (k, x :: Pl, oo, D)) (hB : (x :: Pl).length ≤ 155) : sC mX7_isAskAhead d [.ref 384] (ms (pt σ T Pf w0) A F) (fun r σ' => ∃ z : Int, r = some (.int (iZ z)) ∧ (z = 1 ↔ askA (x :: Pl)) ∧ (z = 0 ∨ z = 1) ∧ σ' = (ms (pt σ T Pf w0) A F)) := by
  have hx := hR.2.2.2.2.2.2.2.2 x (List.mem_cons_self ..)
  have onr := opN_ran (x :: Pl) hR.2.2.2.2.2.2.2.2
  have hlc : (x :: Pl).length = Pl.length + 1 := rfl
  refine sC_of rfl (Nat.le_of_ble_eq_true rfl) ?_
  show sE g_tt _ _ _ 0 [some (.ref 384)] [] (ms (pt σ T Pf w0) A F)
  refine q_aload_n dX7_isAskAhead_0 rfl rfl ?_
  refine s_callV (ci := 7) (a := 384) (As := []) (S := []) dX7_isAskAhead_1 okX7_openNow mlX7_159 rfl (by omega) rfl (Nat.le_of_ble_eq_true rfl) (show kd 384 = 7 from rfl) (by decide) rfl (m_openNow (d := d - 1) (by omega) σ A F T Pf hR hB) (fun v_ σ_ hq => ?_)
  obtain ⟨rfl, e9⟩ := hq
  have e9 := e9.symm
  subst e9
  show sE g_tt _ _ _ 4 [some (.ref 384)] [.int (iZ (opN (x :: Pl)))] (ms (pt σ T Pf w0) A F)
  refine z_bipush dX7_isAskAhead_4 (by decide +kernel) ?_
  refine z_icmp_ne (tgt := 51) dX7_isAskAhead_6 (by decide) (by unfold inR; omega) (by unfold inR; omega) (fun c_1 => ?_) (fun c_1 => ?_)
  · refine z_iconst dX7_isAskAhead_51 ?_
    exact s_zret dX7_isAskAhead_52 rfl (by omega) ⟨0, rfl, by unfold askA; show (0 : Int) = 1 ↔ (opN (x :: Pl) = 42 ∧ (40 ≤ x ∨ (1 ≤ rkF x ∧ rkF x ≤ 3))); omega, by omega, rfl⟩
  · refine q_aload_n dX7_isAskAhead_9 rfl rfl ?_
    refine sg7 (kf := 15) (v := .ref 389) dX7_isAskAhead_10 flX7_29 (show kd 384 = 7 from rfl) (by decide) rfl ?_
    refine q_aload_n dX7_isAskAhead_13 rfl rfl ?_
    refine sg7 (kf := 16) (v := .int (iZ ((x :: Pl).length : Int))) dX7_isAskAhead_14 flX7_142 (show kd 384 = 7 from rfl) (by decide) (by show some (Value.int (iZ (F 16))) = _; rw [hR.2.2.2.2.1]) ?_
    refine z_iconst dX7_isAskAhead_17 ?_
    refine z_isub dX7_isAskAhead_18 ?_
    refine s_iald (n := 160) (x := x) dX7_isAskAhead_19 (show kd 389 = 100 + 160 from rfl) (by omega) (by omega) (by decide) (by rw [show (((x :: Pl).length : Int) - 1).toNat = Pl.length by omega]; exact hR.2.2.2.2.2.2.1.1) ?_
    refine z_bipush dX7_isAskAhead_20 (by decide +kernel) ?_
    refine z_icmp_ge (tgt := 47) dX7_isAskAhead_22 (by decide) (by unfold inR; omega) (by unfold inR; omega) (fun c_2 => ?_) (fun c_2 => ?_)
    · refine z_iconst dX7_isAskAhead_47 ?_
      refine q_goto (tgt := 52) dX7_isAskAhead_48 (by decide) ?_
      exact s_zret dX7_isAskAhead_52 rfl (by omega) ⟨1, rfl, by unfold askA; show (1 : Int) = 1 ↔ (opN (x :: Pl) = 42 ∧ (40 ≤ x ∨ (1 ≤ rkF x ∧ rkF x ≤ 3))); omega, by omega, rfl⟩
    · refine q_aload_n dX7_isAskAhead_25 rfl rfl ?_
      refine sg7 (kf := 15) (v := .ref 389) dX7_isAskAhead_26 flX7_29 (show kd 384 = 7 from rfl) (by decide) rfl ?_
      refine q_aload_n dX7_isAskAhead_29 rfl rfl ?_
      refine sg7 (kf := 16) (v := .int (iZ ((x :: Pl).length : Int))) dX7_isAskAhead_30 flX7_142 (show kd 384 = 7 from rfl) (by decide) (by show some (Value.int (iZ (F 16))) = _; rw [hR.2.2.2.2.1]) ?_
      refine z_iconst dX7_isAskAhead_33 ?_
      refine z_isub dX7_isAskAhead_34 ?_
      refine s_iald (n := 160) (x := x) dX7_isAskAhead_35 (show kd 389 = 100 + 160 from rfl) (by omega) (by omega) (by decide) (by rw [show (((x :: Pl).length : Int) - 1).toNat = Pl.length by omega]; exact hR.2.2.2.2.2.2.1.1) ?_
      refine s_callS (As := [.int (iZ x)]) (S := []) dX7_isAskAhead_36 okX7_rank mlX7_145 rfl (by omega) rfl (Nat.le_of_ble_eq_true rfl) (m_rk (d := d - 1) (n := x) (by unfold inR; omega) (ms (pt σ T Pf w0) A F)) (fun v_ σ_ hq => ?_)
      obtain ⟨rfl, e9⟩ := hq
      have e9 := e9.symm
      subst e9
      have rr := rkF_ran x
      show sE g_tt _ _ _ 39 [some (.ref 384)] [.int (iZ (rkF x))] (ms (pt σ T Pf w0) A F)
      refine z_iconst dX7_isAskAhead_39 ?_
      refine z_iconst dX7_isAskAhead_40 ?_
      refine s_callS (As := [.int (iZ (rkF x)), .int (iZ 1), .int (iZ 3)]) (S := []) dX7_isAskAhead_41 okX7_isIn mlX7_66 rfl (by omega) rfl (Nat.le_of_ble_eq_true rfl) (m_isIn (d := d - 1) (v := rkF x) (a := 1) (b := 3) (by unfold inR; omega) (by unfold inR; omega) (by unfold inR; omega) (ms (pt σ T Pf w0) A F)) (fun v_ σ_ hq => ?_)
      obtain ⟨rfl, e9⟩ := hq
      have e9 := e9.symm
      subst e9
      show sE g_tt _ _ _ 44 [some (.ref 384)] [.int (iZ (if 1 ≤ rkF x ∧ rkF x ≤ 3 then 1 else 0))] (ms (pt σ T Pf w0) A F)
      refine z_if_eq (tgt := 51) dX7_isAskAhead_44 (by decide) inR_01 (fun c_3 => ?_) (fun c_3 => ?_)
      · have c_3 := if01_0 c_3
        refine z_iconst dX7_isAskAhead_51 ?_
        exact s_zret dX7_isAskAhead_52 rfl (by omega) ⟨0, rfl, by unfold askA; show (0 : Int) = 1 ↔ (opN (x :: Pl) = 42 ∧ (40 ≤ x ∨ (1 ≤ rkF x ∧ rkF x ≤ 3))); omega, by omega, rfl⟩
      · have c_3 := if01_1 c_3
        refine z_iconst dX7_isAskAhead_47 ?_
        refine q_goto (tgt := 52) dX7_isAskAhead_48 (by decide) ?_
        exact s_zret dX7_isAskAhead_52 rfl (by omega) ⟨1, rfl, by unfold askA; show (1 : Int) = 1 ↔ (opN (x :: Pl) = 42 ∧ (40 ≤ x ∨ (1 ≤ rkF x ∧ rkF x ≤ 3))); omega, by omega, rfl⟩
set_option maxHeartbeats 4000000 in
set_option maxRecDepth 100000 in
theorem m_askN {d : Nat} (hd : 2 ≤ d) (σ : gS) (A F T Pf : Nat → Int) {w0 : Int} {b : Nat → Int} {n tx : Nat} {so : Int} {k : Nat} {oo : Int} {D : List (Int × Int)} (hR : psR b n tx so F w0 T Pf (k, [], oo, D)) : sC mX7_isAskAhead d [.ref 384] (ms (pt σ T Pf w0) A F) (fun r σ' => ∃ z : Int, r = some (.int (iZ z)) ∧ (z = 1 ↔ askA []) ∧ (z = 0 ∨ z = 1) ∧ σ' = (ms (pt σ T Pf w0) A F)) := by
  refine sC_of rfl (Nat.le_of_ble_eq_true rfl) ?_
  show sE g_tt _ _ _ 0 [some (.ref 384)] [] (ms (pt σ T Pf w0) A F)
  refine q_aload_n dX7_isAskAhead_0 rfl rfl ?_
  refine s_callV (ci := 7) (a := 384) (As := []) (S := []) dX7_isAskAhead_1 okX7_openNow mlX7_159 rfl (by omega) rfl (Nat.le_of_ble_eq_true rfl) (show kd 384 = 7 from rfl) (by decide) rfl (m_openNow (d := d - 1) (by omega) σ A F T Pf hR (by show 0 ≤ 155; omega)) (fun v_ σ_ hq => ?_)
  obtain ⟨rfl, e9⟩ := hq
  have e9 := e9.symm
  subst e9
  show sE g_tt _ _ _ 4 [some (.ref 384)] [.int (iZ (-1))] (ms (pt σ T Pf w0) A F)
  refine z_bipush dX7_isAskAhead_4 (by decide +kernel) ?_
  refine z_icmp_ne (tgt := 51) dX7_isAskAhead_6 (by decide) (by unfold inR; omega) (by unfold inR; omega) (fun c_1 => ?_) (fun c_1 => ?_)
  · refine z_iconst dX7_isAskAhead_51 ?_
    exact s_zret dX7_isAskAhead_52 rfl (by omega) ⟨0, rfl, ⟨fun z => absurd z (by decide), fun z => absurd z.1 (by decide)⟩, Or.inl rfl, rfl⟩
  · exfalso
    revert c_1
    decide
theorem m_isAskAhead {d : Nat} (hd : 2 ≤ d) (σ : gS) (A F T Pf : Nat → Int) {w0 : Int} {b : Nat → Int} {n tx : Nat} {so : Int} {s : pS} (hR : psR b n tx so F w0 T Pf s) (hB : s.2.1.length ≤ 155) : sC mX7_isAskAhead d [.ref 384] (ms (pt σ T Pf w0) A F) (fun r σ' => ∃ z : Int, r = some (.int (iZ z)) ∧ (z = 1 ↔ askA s.2.1) ∧ (z = 0 ∨ z = 1) ∧ σ' = (ms (pt σ T Pf w0) A F)) := by
  obtain ⟨k, Pl, oo, D⟩ := s
  cases Pl with
  | nil => exact m_askN hd σ A F T Pf hR
  | cons x Pl => exact m_askC hd σ A F T Pf hR hB
set_option maxHeartbeats 4000000 in
set_option maxRecDepth 100000 in
theorem m_opened {d : Nat} {x : Int} (hx : 0 ≤ x ∧ x ≤ 44) (hd : 2 ≤ d) (σ : gS) (A F T Pf : Nat → Int) {w0 : Int} {b : Nat → Int} {n tx : Nat} {so : Int} {s : pS} (hR : psR b n tx so F w0 T Pf s) (hw : F 18 = 0) (htx : tx < 4) (hn3 : n ≤ 300) (hb : σ.2.1 388 = b) (hb8 : ∀ i, i < n → 0 ≤ b i ∧ b i < 256) (hB : s.2.1.length ≤ 155) (ho : -1000 ≤ s.2.2.1 ∧ s.2.2.1 ≤ 1000) : sC mX7_opened d [.ref 384, .int (iZ x)] (ms (pt σ T Pf w0) A F) (mAns b n tx so σ A F T (opS x s)) := by
  refine sC_of rfl (Nat.le_of_ble_eq_true rfl) ?_
  show sE g_tt _ _ _ 0 [some (.ref 384), some (.int (iZ x))] [] (ms (pt σ T Pf w0) A F)
  refine q_aload_n dX7_opened_0 rfl rfl ?_
  refine sg7 (kf := 17) (v := .int (iZ s.2.2.1)) dX7_opened_1 flX7_152 (show kd 384 = 7 from rfl) (by decide) (by show some (Value.int (iZ (F 17))) = _; rw [hR.2.2.2.2.2.1]) ?_
  refine z_bipush dX7_opened_4 (by decide +kernel) ?_
  refine z_icmp_ne (tgt := 11) dX7_opened_6 (by decide) (by unfold inR; omega) (by unfold inR; omega) (fun c_1 => ?_) (fun c_1 => ?_)
  · refine q_aload_n dX7_opened_11 rfl rfl ?_
    refine q_dup dX7_opened_12 rfl ?_
    refine sg7 (kf := 17) (v := .int (iZ s.2.2.1)) dX7_opened_13 flX7_152 (show kd 384 = 7 from rfl) (by decide) (by show some (Value.int (iZ (F 17))) = _; rw [hR.2.2.2.2.2.1]) ?_
    refine z_iconst dX7_opened_16 ?_
    refine z_iadd dX7_opened_17 ?_
    refine mp (kf := 17) dX7_opened_18 flX7_152 (by decide) ?_
    refine q_aload_n dX7_opened_21 rfl rfl ?_
    refine sg7 (kf := 15) (v := .ref 389) dX7_opened_22 flX7_29 (show kd 384 = 7 from rfl) (by decide) rfl ?_
    refine q_aload_n dX7_opened_25 rfl rfl ?_
    refine sg7 (kf := 16) (v := .int (iZ (s.2.1.length : Int))) dX7_opened_26 flX7_142 (show kd 384 = 7 from rfl) (by decide) (by show some (Value.int (iZ (F 16))) = _; rw [hR.2.2.2.2.1]) ?_
    refine q_iload_n dX7_opened_29 rfl rfl ?_
    refine pt_st389 (k := s.2.1.length) dX7_opened_30 (by omega) (by omega) (by omega) ?_
    refine q_aload_n dX7_opened_31 rfl rfl ?_
    refine q_dup dX7_opened_32 rfl ?_
    refine sg7 (kf := 16) (v := .int (iZ (s.2.1.length : Int))) dX7_opened_33 flX7_142 (show kd 384 = 7 from rfl) (by decide) (by show some (Value.int (iZ (F 16))) = _; rw [hR.2.2.2.2.1]) ?_
    refine z_iconst dX7_opened_36 ?_
    refine z_iadd dX7_opened_37 ?_
    refine mp (kf := 16) dX7_opened_38 flX7_142 (by decide) ?_
    refine q_aload_n dX7_opened_41 rfl rfl ?_
    refine s_callV (ci := 7) (a := 384) (As := []) (S := []) dX7_opened_42 okX7_nextToken mlX7_162 rfl (by omega) rfl (Nat.le_of_ble_eq_true rfl) (show kd 384 = 7 from rfl) (by decide) rfl (m_nxt (d := d - 1) (by omega) σ A (va_up (va_up F 17 (s.2.2.1 + 1)) 16 ((s.2.1.length : Int) + 1)) T (va_up Pf s.2.1.length x) hn3 hb hb8 hR.1) (fun v_ σ_ hq => ?_)
    obtain ⟨rfl, w1, F9, e9, ld9, kp9⟩ := hq
    subst e9
    show sE g_tt _ _ _ 45 [some (.ref 384), some (.int (iZ x))] [] (ms (pt σ T (va_up Pf s.2.1.length x) w1) A F9)
    refine z_iconst dX7_opened_45 ?_
    exact s_iretZ dX7_opened_46 rfl (show mAns b n tx so σ A F T (opS x s) _ _ by unfold opS; rw [if_neg (by omega)]; exact ⟨rfl, w1, T, _, F9, rfl, psR_k (psR_P (psR_o hR (s.2.2.1 + 1)) (stk_push x hR.2.2.2.2.2.2.1) (fun y hy => by rcases List.mem_cons.1 hy with rfl | hy; exact hx; exact hR.2.2.2.2.2.2.2.2 y hy) (by rw [List.length_cons]; omega)) kp9 ld9, (kp9 18 (by decide) (by decide) (by decide) (by decide)).trans hw, kpM_tr (kpM_up (kpM_up (kpM_rf F) (Or.inr (Or.inr (Or.inl rfl))) _) (Or.inr (Or.inl rfl)) _) (kpM_T kp9), kpX_rf tx T⟩)
  · refine z_iconst dX7_opened_9 ?_
    exact s_iretZ dX7_opened_10 rfl (show mAns b n tx so σ A F T (opS x s) _ _ by unfold opS; rw [if_pos (by omega)]; exact ⟨rfl, w0, T, Pf, F, rfl, hR, hw, kpM_rf F, kpX_rf tx T⟩)
set_option maxHeartbeats 4000000 in
set_option maxRecDepth 100000 in
theorem tl_endN {d : Nat} (σ : gS) (A F T F0 T0 Pf : Nat → Int) {w0 : Int} {b : Nat → Int} {n tx : Nat} {so : Int} {k : Nat} {oo : Int} {D : List (Int × Int)} (hR : psR b n tx so F w0 T Pf (k, [], oo, D)) (kM : kpM F0 F) (kX : kpX tx T0 T) : sE g_tt mX7_endOne d (mAns b n tx so σ A F0 T0 (eoQ (tkA b n k) k ([], oo, D))) 6 [some (.ref 384)] [] (ms (pt σ T Pf w0) A F) := by
  refine q_aload_n dX7_endOne_6 rfl rfl ?_
  refine z_iconst dX7_endOne_7 ?_
  refine mz18 dX7_endOne_8 flX7_188 (by omega) ?_
  refine q_aload_n dX7_endOne_11 rfl rfl ?_
  refine sg7 (kf := 16) (v := .int (iZ 0)) dX7_endOne_12 flX7_142 (show kd 384 = 7 from rfl) (by decide) (by show some (Value.int (iZ (F 16))) = _; rw [hR.2.2.2.2.1]; rfl) ?_
  refine z_if_eq (tgt := 34) dX7_endOne_15 (by decide) (by unfold inR; decide) (fun c_1 => ?_) (fun c_1 => ?_)
  · refine z_iconst dX7_endOne_34 ?_
    exact s_iretZ dX7_endOne_35 rfl ⟨rfl, w0, T, Pf, va_up F 18 1, rfl, hR, rfl, kpM_up kM (Or.inr (Or.inr (Or.inr rfl))) _, kX⟩
  · exfalso
    revert c_1
    decide
set_option maxHeartbeats 4000000 in
set_option maxRecDepth 100000 in
theorem tl_endC {d : Nat} (hd : 2 ≤ d) (σ : gS) (A F T F0 T0 Pf : Nat → Int) {w0 : Int} {b : Nat → Int} {n tx : Nat} {so : Int} {k : Nat} {x : Int} {Pl : List Int} {oo : Int} {D : List (Int × Int)} (hR : psR b n tx so F w0 T Pf (k, x :: Pl, oo, D)) (htx : tx < 4) (hn3 : n ≤ 300) (hb : σ.2.1 388 = b) (hb8 : ∀ i, i < n → 0 ≤ b i ∧ b i < 256) (hB : (x :: Pl).length ≤ 155) (kM : kpM F0 F) (kX : kpX tx T0 T) : sE g_tt mX7_endOne d (mAns b n tx so σ A F0 T0 (eoQ (tkA b n k) k (x :: Pl, oo, D))) 6 [some (.ref 384)] [] (ms (pt σ T Pf w0) A F) := by
  have hx := hR.2.2.2.2.2.2.2.2 x (List.mem_cons_self ..)
  have hlc : (x :: Pl).length = Pl.length + 1 := rfl
  refine q_aload_n dX7_endOne_6 rfl rfl ?_
  refine z_iconst dX7_endOne_7 ?_
  refine mz18 dX7_endOne_8 flX7_188 (by omega) ?_
  refine q_aload_n dX7_endOne_11 rfl rfl ?_
  refine sg7 (kf := 16) (v := .int (iZ ((x :: Pl).length : Int))) dX7_endOne_12 flX7_142 (show kd 384 = 7 from rfl) (by decide) (by show some (Value.int (iZ (F 16))) = _; rw [hR.2.2.2.2.1]) ?_
  refine z_if_eq (tgt := 34) dX7_endOne_15 (by decide) (by unfold inR; omega) (fun c_1 => ?_) (fun c_1 => ?_)
  · exfalso
    omega
  · refine q_aload_n dX7_endOne_18 rfl rfl ?_
    refine sg7 (kf := 15) (v := .ref 389) dX7_endOne_19 flX7_29 (show kd 384 = 7 from rfl) (by decide) rfl ?_
    refine q_aload_n dX7_endOne_22 rfl rfl ?_
    refine sg7 (kf := 16) (v := .int (iZ ((x :: Pl).length : Int))) dX7_endOne_23 flX7_142 (show kd 384 = 7 from rfl) (by decide) (by show some (Value.int (iZ (F 16))) = _; rw [hR.2.2.2.2.1]) ?_
    refine z_iconst dX7_endOne_26 ?_
    refine z_isub dX7_endOne_27 ?_
    refine s_iald (n := 160) (x := x) dX7_endOne_28 (show kd 389 = 100 + 160 from rfl) (by omega) (by omega) (by decide) (by rw [show (((x :: Pl).length : Int) - 1).toNat = Pl.length by omega]; exact hR.2.2.2.2.2.2.1.1) ?_
    refine z_bipush dX7_endOne_29 (by decide +kernel) ?_
    refine z_icmp_eq (tgt := 36) dX7_endOne_31 (by decide) (by unfold inR; omega) (by unfold inR; omega) (fun c_2 => ?_) (fun c_2 => ?_)
    · refine q_aload_n dX7_endOne_36 rfl rfl ?_
      refine z_bipush dX7_endOne_37 (by decide +kernel) ?_
      refine z_bipush dX7_endOne_39 (by decide +kernel) ?_
      refine s_callS (As := [.int (iZ 111), .int (iZ 102)]) (S := [.ref 384]) dX7_endOne_41 okX7_w2 mlX7_113 rfl (by omega) rfl (Nat.le_of_ble_eq_true rfl) (m_w2 (d := d - 1) (x := 111) (y := 102) (by omega) (by omega) (by omega) (ms (pt σ T Pf w0) A (va_up F 18 1))) (fun v_ σ_ hq => ?_)
      obtain ⟨rfl, e9⟩ := hq
      have e9 := e9.symm
      subst e9
      show sE g_tt _ _ _ 44 [some (.ref 384)] [.long (lZ (111 * 256 + 102)), .ref 384] (ms (pt σ T Pf w0) A (va_up F 18 1))
      refine s_callV (ci := 7) (a := 384) (As := [.long (lZ (111 * 256 + 102))]) (S := []) dX7_endOne_44 okX7_isWord mlX7_177 rfl (by omega) rfl (Nat.le_of_ble_eq_true rfl) (show kd 384 = 7 from rfl) (by decide) rfl (m_isW (d := d - 1) (x := 111 * 256 + 102) σ A (va_up F 18 1) T Pf (b := b) (n := n) (k := k) hR.1 (j := 10) (by decide) (by decide +kernel)) (fun v_ σ_ hq => ?_)
      obtain ⟨rfl, e9⟩ := hq
      have e9 := e9.symm
      subst e9
      show sE g_tt _ _ _ 47 [some (.ref 384)] [.int (iZ (if tkA b n k = ((10 : Nat) : Int) then 1 else 0))] (ms (pt σ T Pf w0) A (va_up F 18 1))
      refine z_if_ne (tgt := 52) dX7_endOne_47 (by decide) inR_01 (fun c_3 => ?_) (fun c_3 => ?_)
      · have c_3 := if01_1 c_3
        refine q_aload_n dX7_endOne_52 rfl rfl ?_
        refine s_callV (ci := 7) (a := 384) (As := []) (S := []) dX7_endOne_53 okX7_nextToken mlX7_162 rfl (by omega) rfl (Nat.le_of_ble_eq_true rfl) (show kd 384 = 7 from rfl) (by decide) rfl (m_nxt (d := d - 1) (by omega) σ A (va_up F 18 1) T Pf hn3 hb hb8 hR.1) (fun v_ σ_ hq => ?_)
        obtain ⟨rfl, w1, F9, e9, ld9, kp9⟩ := hq
        subst e9
        show sE g_tt _ _ _ 56 [some (.ref 384)] [] (ms (pt σ T Pf w1) A F9)
        refine q_aload_n dX7_endOne_56 rfl rfl ?_
        refine sg7 (kf := 15) (v := .ref 389) dX7_endOne_57 flX7_29 (show kd 384 = 7 from rfl) (by decide) rfl ?_
        refine q_aload_n dX7_endOne_60 rfl rfl ?_
        refine sg7 (kf := 16) (v := .int (iZ ((x :: Pl).length : Int))) dX7_endOne_61 flX7_142 (show kd 384 = 7 from rfl) (by decide) (by show some (Value.int (iZ (F9 16))) = _; rw [(kp9 16 (by decide) (by decide) (by decide) (by decide)).trans (show (va_up F 18 1) 16 = _ from hR.2.2.2.2.1)]) ?_
        refine z_iconst dX7_endOne_64 ?_
        refine z_isub dX7_endOne_65 ?_
        refine z_iconst dX7_endOne_66 ?_
        refine pt_st389 (k := Pl.length) dX7_endOne_67 (by omega) (by omega) (by omega) ?_
        refine q_aload_n dX7_endOne_68 rfl rfl ?_
        refine z_iconst dX7_endOne_69 ?_
        refine mz18 dX7_endOne_70 flX7_188 (by omega) ?_
        refine z_iconst dX7_endOne_73 ?_
        exact s_iretZ dX7_endOne_74 rfl (show mAns b n tx so σ A F0 T0 (eoQ (tkA b n k) k (x :: Pl, oo, D)) _ _ by
          unfold eoQ; rw [if_pos (show (x :: Pl).headD 0 = 41 by assumption), if_pos (by omega)]
          exact ⟨rfl, w1, T, _, va_up F9 18 0, rfl, psR_w (psR_k (w1 := w1) (F := va_up F 18 1) (show psR b n tx so (va_up F 18 1) w0 T (va_up Pf Pl.length 4) (k, 4 :: Pl, oo, D) from ⟨hR.1, hR.2.1, hR.2.2.1, hR.2.2.2.1, hR.2.2.2.2.1, hR.2.2.2.2.2.1, stk_push 4 hR.2.2.2.2.2.2.1.2, hR.2.2.2.2.2.2.2.1, fun y hy => by rcases List.mem_cons.1 hy with rfl | hy; exact ⟨by decide, by decide⟩; exact hR.2.2.2.2.2.2.2.2 y (List.mem_cons_of_mem _ hy)⟩) kp9 ld9) 0, rfl, kpM_up (kpM_tr (kpM_up kM (Or.inr (Or.inr (Or.inr rfl))) 1) (kpM_T kp9)) (Or.inr (Or.inr (Or.inr rfl))) _, kX⟩)
      · have c_3 := if01_0 c_3
        refine z_iconst dX7_endOne_50 ?_
        exact s_iretZ dX7_endOne_51 rfl (show mAns b n tx so σ A F0 T0 (eoQ (tkA b n k) k (x :: Pl, oo, D)) _ _ by
          unfold eoQ; rw [if_pos (show (x :: Pl).headD 0 = 41 by assumption), if_neg (by omega)]
          exact ⟨rfl, w0, T, Pf, va_up F 18 1, rfl, hR, rfl, kpM_up kM (Or.inr (Or.inr (Or.inr rfl))) _, kX⟩)
    · refine z_iconst dX7_endOne_34 ?_
      exact s_iretZ dX7_endOne_35 rfl (show mAns b n tx so σ A F0 T0 (eoQ (tkA b n k) k (x :: Pl, oo, D)) _ _ by
        unfold eoQ; rw [if_neg (show ¬ (x :: Pl).headD 0 = 41 by assumption)]
        exact ⟨rfl, w0, T, Pf, va_up F 18 1, rfl, hR, rfl, kpM_up kM (Or.inr (Or.inr (Or.inr rfl))) _, kX⟩)
set_option maxHeartbeats 4000000 in
set_option maxRecDepth 100000 in
theorem m_endOne {d : Nat} (hd : 3 ≤ d) (σ : gS) (A F T Pf : Nat → Int) {w0 : Int} {b : Nat → Int} {n tx : Nat} {so : Int} {s : pS} (hR : psR b n tx so F w0 T Pf s) (htx : tx < 4) (hn3 : n ≤ 300) (hb : σ.2.1 388 = b) (hb8 : ∀ i, i < n → 0 ≤ b i ∧ b i < 256) (hB : s.2.1.length ≤ 155 ∧ s.2.1.length + s.2.2.2.length ≤ 304) : sC mX7_endOne d [.ref 384] (ms (pt σ T Pf w0) A F) (mAns b n tx so σ A F T (eoS (tkA b n) s)) := by
  refine sC_of rfl (Nat.le_of_ble_eq_true rfl) ?_
  show sE g_tt _ _ _ 0 [some (.ref 384)] [] (ms (pt σ T Pf w0) A F)
  refine q_aload_n dX7_endOne_0 rfl rfl ?_
  refine z_bipush dX7_endOne_1 (by decide +kernel) ?_
  refine s_callV (ci := 7) (a := 384) (As := [.int (iZ 7)]) (S := []) dX7_endOne_3 okX7_settlePile mlX7_185 rfl (by omega) rfl (Nat.le_of_ble_eq_true rfl) (show kd 384 = 7 from rfl) (by decide) rfl (m_settlePile (d := d - 1) (l := 7) (by omega) (by omega) σ A F T Pf hR htx hB) (fun v_ σ_ hq => ?_)
  obtain ⟨rfl, T1, F1, e9, hR1, h18, kM, kX⟩ := hq
  subst e9
  show sE g_tt _ _ _ 6 [some (.ref 384)] [] (ms (pt σ T1 Pf w0) A F1)
  have hsl := sP_len 7 s.2.1 s.2.2.1 s.2.2.2
  unfold eoS
  generalize sP 7 s.2.1 s.2.2.1 s.2.2.2 = q at *
  obtain ⟨P1, o1, D1⟩ := q
  cases P1 with
  | nil => exact tl_endN σ A F1 T1 F T Pf hR1 kM kX
  | cons x Pl => exact tl_endC (by omega) σ A F1 T1 F T Pf hR1 htx hn3 hb hb8 (by have h2 : (x :: Pl).length ≤ s.2.1.length := hsl.2; omega) kM kX
