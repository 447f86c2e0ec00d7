/-! ===== years, nights, image, what is told ===== -/
theorem trS_fld {on : Int} {σ : gS} {s : Nat} {A : Nat → Int} (h : trS on σ s A) {k i : Nat} (hk : (k = 3 ∧ i = 8) ∨ (k = 4 ∧ i = 7) ∨ (k = 5 ∧ i = 9) ∨ (k = 6 ∧ i = 5) ∨ (k = 7 ∧ i = 6)) (v : Int) : trS on (sI σ s k v) s (va_up A i v) := by
  have e := st_sI σ s (σ.2.1 (s + 1)) (σ.2.1 (s + 2)) (σ.2.1 (s + 3)) (σ.2.1 (s + 4)) (σ.1 s) k v
  rw [st_id] at e
  rw [e]
  exact trS_st (trR_fld h hk v)
set_option maxHeartbeats 4000000 in
set_option maxRecDepth 100000 in
theorem x_years {d : Nat} (hd : 8 ≤ d) {s n : Int} (hs : inR s) (hn : inR n) (F : Nat → Int) (hF : F 23 = 1) (σ : gS) {W V : wF} {A I : Nat → Int} {c nt : Int} (hc : c ≤ 86000) (hn4 : nt ≤ 4) (ok : okR c nt A) (oi : okR c (I 1) I) (C : clR σ W V A I) {T : Nat → Int} (hW : wOK T 100000 nt W) (hV : vOK T 100000 nt V) : sC mX6_years d [.ref 0, .int (iZ s), .int (iZ n)] σ (fun r σ' => r = some (.int (iZ (if (0 ≤ s ∧ s ≤ 9999) ∧ 1 ≤ n ∧ n ≤ 40 then (mYr W V n.toNat (va_up (mKeep A) 6 (s * 2 + 347)) F).1 5 else -1))) ∧ chg cmdP σ σ' ∧ clR σ' W V (if (0 ≤ s ∧ s ≤ 9999) ∧ 1 ≤ n ∧ n ≤ 40 then (mYr W V n.toNat (va_up (mKeep A) 6 (s * 2 + 347)) F).1 else A) I) := by
  have g := ok_gd (Int.le_trans hc (by decide)) hn4 ok
  have g0 := g.1
  have n1 := ok.2.2.1
  have a2 := ok_2 ok
  have g10 := g.2.2.2.2.1
  have gL : gd 100000 4 A := gd_mono g (by decide)
  have rk := rA_ok (w0_of C) gL a2.1 a2.2
  refine sC_of rfl (Nat.le_of_ble_eq_true rfl) ?_
  show sE g_tt _ _ _ 0 [some (.ref 0), some (.int (iZ s)), some (.int (iZ n)), none] [] σ
  refine q_iload_n dX6_years_0 rfl rfl ?_
  refine z_if_lt (tgt := 22) dX6_years_1 (by decide) (by unfold inR at *; omega) (fun c_1 => ?_) (fun c_1 => ?_)
  · refine z_iconst dX6_years_22 ?_
    exact s_iretZ dX6_years_23 rfl ⟨by rw [if_neg (by omega)], chg_rf _ _, by rw [if_neg (by omega)]; exact C⟩
  · refine q_iload_n dX6_years_4 rfl rfl ?_
    refine z_sipush dX6_years_5 (by decide +kernel) ?_
    refine z_icmp_gt (tgt := 22) dX6_years_8 (by decide) (by unfold inR at *; omega) (by unfold inR at *; omega) (fun c_2 => ?_) (fun c_2 => ?_)
    · refine z_iconst dX6_years_22 ?_
      exact s_iretZ dX6_years_23 rfl ⟨by rw [if_neg (by omega)], chg_rf _ _, by rw [if_neg (by omega)]; exact C⟩
    · refine q_iload_n dX6_years_11 rfl rfl ?_
      refine z_iconst dX6_years_12 ?_
      refine z_icmp_lt (tgt := 22) dX6_years_13 (by decide) (by unfold inR at *; omega) (by unfold inR at *; omega) (fun c_3 => ?_) (fun c_3 => ?_)
      · refine z_iconst dX6_years_22 ?_
        exact s_iretZ dX6_years_23 rfl ⟨by rw [if_neg (by omega)], chg_rf _ _, by rw [if_neg (by omega)]; exact C⟩
      · refine q_iload_n dX6_years_16 rfl rfl ?_
        refine z_bipush dX6_years_17 (by decide +kernel) ?_
        refine z_icmp_le (tgt := 24) dX6_years_19 (by decide) (by unfold inR at *; omega) (by unfold inR at *; omega) (fun c_4 => ?_) (fun c_4 => ?_)
        · refine q_aload_n dX6_years_24 rfl rfl ?_
          refine sg6 (kf := 0) (v := .ref 1) dX6_years_25 flX6_10 (show kd 0 = 6 from rfl) (by decide) rfl ?_
          refine s_callV (ci := 5) (a := 1) (As := []) (S := []) dX6_years_28 okX5_keepStep mlX6_119 rfl (by omega) rfl (Nat.le_of_ble_eq_true rfl) (show kd 1 = 5 from rfl) (by decide) rfl (c_keep (d := d - 1) (by omega) σ ok C.1) (fun v_ σ_ hq => ?_)
          obtain ⟨rfl, hc1, tw1⟩ := hq
          rename gS => σ1
          have ok1 := okR_keep ok
          have k1 : mKeep A 1 = A 1 := mKeep_o A ok.2.2.2.1.1 ok.2.2.2.1.2 (by omega)
          have k2 : mKeep A 2 = A 2 := mKeep_o A ok.2.2.2.1.1 ok.2.2.2.1.2 (by omega)
          have s1 : chg cmdP σ σ1 := chg_mono hc1 (fun a q => Or.inl q)
          have C1 := clR_cmd oi C s1 tw1 k1
          show sE g_tt _ _ _ 31 [some (.ref 0), some (.int (iZ s)), some (.int (iZ n)), none] [] σ1
          refine q_aload_n dX6_years_31 rfl rfl ?_
          refine sg6 (kf := 0) (v := .ref 1) dX6_years_32 flX6_10 (show kd 0 = 6 from rfl) (by decide) rfl ?_
          refine sg5 (kf := 0) (v := .ref 2) dX6_years_35 flX6_72 (show kd 1 = 5 from rfl) (by decide) rfl ?_
          refine q_iload_n dX6_years_38 rfl rfl ?_
          refine z_iconst dX6_years_39 ?_
          refine z_imul dX6_years_40 ?_
          refine z_sipush dX6_years_41 (by decide +kernel) ?_
          refine z_iadd dX6_years_44 ?_
          refine sp2 (kf := 7) dX6_years_45 flX6_166 (show kd 2 = 2 from rfl) (by decide) ?_
          refine z_iconst dX6_years_48 ?_
          refine q_istore_n dX6_years_49 rfl (by decide) ?_
          show sE g_tt _ _ _ 50 [some (.ref 0), some (.int (iZ s)), some (.int (iZ n)), some (.int (iZ 0))] [] (sI σ1 2 7 ((s * 2) + 347))
          have n2 : chg nowP σ1 (sI σ1 2 7 (s * 2 + 347)) := chg_mono (chg_sI σ1 2 7 _) (fun a q => Or.inl (by omega))
          have t2 : trS 1 (sI σ1 2 7 (s * 2 + 347)) 2 (va_up (mKeep A) 6 (s * 2 + 347)) := trS_fld C1.1.1 (by omega) _
          have C2 := clR_cmd oi C1 (chg_mono n2 (fun a q => nowP_cmd q)) (twR_now ok1 C1.1 n2 t2 (fun i hi => va_up_ne _ _ (by unfold nonI at hi; omega))) (va_up_ne _ _ (by decide))
          obtain ⟨N, rfl⟩ : ∃ N : Nat, n = (N : Int) := ⟨n.toNat, by omega⟩
          rw [if_pos (by omega), if_pos (by omega), Int.toNat_natCast]
          exact lx_years (N := N) (t := A 2) hd (by omega) _ σ hn4 hW hV 41 (va_up (mKeep A) 6 (s * 2 + 347)) F 0 (sI σ1 2 7 (s * 2 + 347)) c hF (okR_x ok1 (by omega) (by omega)) oi C2 (by rw [va_up_ne _ _ (by decide)]; exact k2) (chg_tr s1 (chg_mono n2 (fun a q => nowP_cmd q))) (by omega) (by omega) (by omega)
        · refine z_iconst dX6_years_22 ?_
          exact s_iretZ dX6_years_23 rfl ⟨by rw [if_neg (by omega)], chg_rf _ _, by rw [if_neg (by omega)]; exact C⟩
set_option maxHeartbeats 4000000 in
set_option maxRecDepth 100000 in
theorem lx_nights {d N : Nat} {t c nt : Int} (hd : 7 ≤ d) (hN : N ≤ 60) (l3 : Int) (σ : gS) {W V : wF} {I : Nat → Int} (hc : c ≤ 88000) (hn4 : nt ≤ 4) (oi : okR c (I 1) I) {T : Nat → Int} (hW : wOK T 100000 nt W) (hV : vOK T 100000 nt V) : ∀ (n : Nat) (B F : Nat → Int) (k : Nat) (σ1 : gS), F 23 = 1 → okR c nt B → clR σ1 W V B I → B 2 = t → chg cmdP σ σ1 → k ≤ N → (N : Int) - (k : Int) < (n : Int) → sE g_tt mX6_perform d (fun r σ' => r = some (.int (iZ ((mNi W V (N - k) B F).1))) ∧ chg cmdP σ σ' ∧ clR σ' W V (mNi W V (N - k) B F).2.1 I) 92 [some (.ref 0), some (.int (iZ 7)), some (.int (iZ (N : Int))), some (.int (iZ l3)), some (.int (iZ (k : Int)))] [] σ1 := by
  intro n
  induction n with
  | zero =>
    intro B F k σ1 hF okB C1 hB2 s1 hk hn
    exact absurd hn (by omega)
  | succ n ih =>
    intro B F k σ1 hF okB C1 hB2 s1 hk hn
    have n1 := okB.2.2.1
    have b2 := ok_2 okB
    have b5 := okB.1.2.2.2.2.2.1
    have h3 := okB.2.2.2.1
    have ok1 := okR_keep okB
    have k1 : (mKeep B) 1 = B 1 := mKeep_o B h3.1 h3.2 (by omega)
    have k2 : (mKeep B) 2 = B 2 := mKeep_o B h3.1 h3.2 (by omega)
    have k5 : (mKeep B) 5 = B 5 := mKeep_o B h3.1 h3.2 (by omega)
    have g1 : gd 90000 4 (mKeep B) := ok_gd9 (by omega) hn4 ok1
    refine q_iload dX6_perform_92 rfl ?_
    refine q_iload_n dX6_perform_94 rfl rfl ?_
    refine z_icmp_ge (tgt := 143) dX6_perform_95 (by decide) (by unfold inR at *; omega) (by unfold inR at *; omega) (fun c_1 => ?_) (fun c_1 => ?_)
    · refine z_iconst dX6_perform_143 ?_
      exact s_zret dX6_perform_144 rfl (by omega) ⟨by rw [show N - k = 0 by omega, mNi], s1, by rw [show N - k = 0 by omega, mNi]; exact C1⟩
    · refine q_aload_n dX6_perform_98 rfl rfl ?_
      refine sg6 (kf := 0) (v := .ref 1) dX6_perform_99 flX6_10 (show kd 0 = 6 from rfl) (by decide) rfl ?_
      refine sg5 (kf := 0) (v := .ref 2) dX6_perform_102 flX6_72 (show kd 1 = 5 from rfl) (by decide) rfl ?_
      refine sg2 (kf := 6) (v := .int (iZ (B 5))) dX6_perform_105 flX6_144 (show kd 2 = 2 from rfl) (by decide) (by show some (Value.int (iZ (σ1.1 2 6))) = _; rw [show σ1.1 2 6 = B 5 from C1.1.1.2.2.1.2.2.2.2.1]) ?_
      refine z_sipush dX6_perform_108 (by decide +kernel) ?_
      refine z_icmp_lt (tgt := 116) dX6_perform_111 (by decide) (by unfold inR at *; omega) (by unfold inR at *; omega) (fun c_2 => ?_) (fun c_2 => ?_)
      · refine q_aload_n dX6_perform_116 rfl rfl ?_
        refine sg6 (kf := 0) (v := .ref 1) dX6_perform_117 flX6_10 (show kd 0 = 6 from rfl) (by decide) rfl ?_
        refine s_callV (ci := 5) (a := 1) (As := []) (S := []) dX6_perform_120 okX5_keepStep mlX6_119 rfl (by omega) rfl (Nat.le_of_ble_eq_true rfl) (show kd 1 = 5 from rfl) (by decide) rfl (c_keep (d := d - 1) (by omega) σ1 okB C1.1) (fun v_ σ_ hq => ?_)
        obtain ⟨rfl, hc2, tw2⟩ := hq
        rename gS => σ2
        have s2 : chg cmdP σ1 σ2 := chg_mono hc2 (fun a q => Or.inl q)
        have C2 := clR_cmd oi C1 s2 tw2 k1
        show sE g_tt _ _ _ 123 [some (.ref 0), some (.int (iZ 7)), some (.int (iZ (N : Int))), some (.int (iZ l3)), some (.int (iZ (k : Int)))] [] σ2
        refine q_aload_n dX6_perform_123 rfl rfl ?_
        refine sg6 (kf := 0) (v := .ref 1) dX6_perform_124 flX6_10 (show kd 0 = 6 from rfl) (by decide) rfl ?_
        refine sg5 (kf := 0) (v := .ref 2) dX6_perform_127 flX6_72 (show kd 1 = 5 from rfl) (by decide) rfl ?_
        refine q_aload_n dX6_perform_130 rfl rfl ?_
        refine s_callV (ci := 6) (a := 0) (As := []) (S := [.ref 2]) dX6_perform_131 okX6_rule mlX6_125 rfl (by omega) rfl (Nat.le_of_ble_eq_true rfl) (show kd 0 = 6 from rfl) (by decide) rfl (x_ruleB (d := d - 1) (by omega) σ2 hn4 ok1 oi C2 (k2.trans hB2)) (fun v_ σ_ hq => ?_)
        obtain ⟨rfl, e9⟩ := hq
        have e9 := e9.symm
        subst e9
        show sE g_tt _ _ _ 134 [some (.ref 0), some (.int (iZ 7)), some (.int (iZ (N : Int))), some (.int (iZ l3)), some (.int (iZ (k : Int)))] [.ref (txp t), .ref 2] σ2
        refine s_callV (ci := 2) (a := 2) (As := [.ref (txp t)]) (S := []) dX6_perform_134 okX2_passNight mlX6_222 rfl (by omega) rfl (Nat.le_of_ble_eq_true rfl) (show kd 2 = 2 from rfl) (by decide) rfl (t_passNight (d := d - 1) (s := 2) (by omega) rfl σ2 (C2.2.2.1 t (by omega) (by omega)) (mKeep B) F g1 (k2.trans hB2) (by rw [hF]; exact C2.1.1)) (fun v_ σ_ hq => ?_)
        obtain ⟨rfl, hc3, ht3⟩ := hq
        rename gS => σ3
        rw [hF] at ht3
        have n3 : chg nowP σ2 σ3 := chg_mono hc3 (fun a q => atS2_now q)
        have hnon : ∀ i, nonI i → (mPass W V (mKeep B) F).1 i = (mKeep B) i := fun i hi => mPass_non (w0_of C2) (v0_of C2) g1 (by omega) (by omega) F hi
        have tw3 := twR_now ok1 C2.1 n3 ht3 hnon
        have C3 := clR_cmd oi C2 (chg_mono n3 (fun a q => nowP_cmd q)) tw3 (hnon 1 (by unfold nonI; omega))
        show sE g_tt _ _ _ 137 [some (.ref 0), some (.int (iZ 7)), some (.int (iZ (N : Int))), some (.int (iZ l3)), some (.int (iZ (k : Int)))] [] σ3
        refine z_iinc dX6_perform_137 rfl (by decide) ?_
        show sE g_tt _ _ _ 140 [some (.ref 0), some (.int (iZ 7)), some (.int (iZ (N : Int))), some (.int (iZ l3)), some (.int (iZ ((k : Int) + 1)))] [] σ3
        refine q_goto (tgt := 92) dX6_perform_140 (by decide) ?_
        rw [show N - k = (N - (k + 1)) + 1 by omega, mNi, if_neg (by omega)]
        exact ih (mPass W V (mKeep B) F).1 (mPass W V (mKeep B) F).2 (k + 1) σ3 (by rw [show (mPass W V (mKeep B) F).2 23 = F 23 from mS_F (by decide) (by decide) (by decide)]; exact hF) (okR_pass hW hV ok1 (by omega) (by rw [k5]; omega) F) C3 (by rw [hnon 2 (by unfold nonI; omega), k2]; exact hB2) (chg_tr s1 (chg_tr s2 (chg_mono n3 (fun a q => nowP_cmd q)))) (by omega) (by omega)
      · refine z_iconst dX6_perform_114 ?_
        exact s_zret dX6_perform_115 rfl (by omega) ⟨by rw [show N - k = (N - (k + 1)) + 1 by omega, mNi, if_pos (by omega)], s1, by rw [show N - k = (N - (k + 1)) + 1 by omega, mNi, if_pos (by omega)]; exact C1⟩
set_option maxHeartbeats 4000000 in
set_option maxRecDepth 100000 in
theorem x_nights {d N : Nat} (hd : 7 ≤ d) (hN : N ≤ 60) {v3 : Int} (F : Nat → Int) (hF : F 23 = 1) (σ : gS) {W V : wF} {A I : Nat → Int} {c nt : Int} (hc : c ≤ 88000) (hn4 : nt ≤ 4) (ok : okR c nt A) (oi : okR c (I 1) I) (C : clR σ W V A I) {T : Nat → Int} (hW : wOK T 100000 nt W) (hV : vOK T 100000 nt V) : sC mX6_perform d [.ref 0, .int (iZ 7), .int (iZ (N : Int)), .int (iZ v3)] σ (fun r σ' => r = some (.int (iZ ((mNi W V N A F).1))) ∧ chg cmdP σ σ' ∧ clR σ' W V ((mNi W V N A F).2.1) I) := by
  refine sC_of rfl (Nat.le_of_ble_eq_true rfl) ?_
  show sE g_tt _ _ _ 0 [some (.ref 0), some (.int (iZ 7)), some (.int (iZ (N : Int))), some (.int (iZ v3)), none] [] σ
  refine q_iload_n dX6_perform_0 rfl rfl ?_
  by_cases s_1 : (7 : Int) = 2
  · refine z_top s_1 ?_
    refine q_tableIn (tgt := 40) (off := 39) dX6_perform_1 (by decide +kernel) (by decide +kernel) (by decide +kernel) (by decide) ?_
    exfalso
    omega
  by_cases s_2 : (7 : Int) = 3
  · refine z_top s_2 ?_
    refine q_tableIn (tgt := 55) (off := 54) dX6_perform_1 (by decide +kernel) (by decide +kernel) (by decide +kernel) (by decide) ?_
    exfalso
    omega
  by_cases s_3 : (7 : Int) = 4
  · refine z_top s_3 ?_
    refine q_tableIn (tgt := 62) (off := 61) dX6_perform_1 (by decide +kernel) (by decide +kernel) (by decide +kernel) (by decide) ?_
    exfalso
    omega
  by_cases s_4 : (7 : Int) = 5
  · refine z_top s_4 ?_
    refine q_tableIn (tgt := 69) (off := 68) dX6_perform_1 (by decide +kernel) (by decide +kernel) (by decide +kernel) (by decide) ?_
    exfalso
    omega
  by_cases s_5 : (7 : Int) = 6
  · refine z_top s_5 ?_
    refine q_tableIn (tgt := 75) (off := 74) dX6_perform_1 (by decide +kernel) (by decide +kernel) (by decide +kernel) (by decide) ?_
    exfalso
    omega
  by_cases s_6 : (7 : Int) = 7
  · refine z_top s_6 ?_
    refine q_tableIn (tgt := 89) (off := 88) dX6_perform_1 (by decide +kernel) (by decide +kernel) (by decide +kernel) (by decide) ?_
    refine z_iconst dX6_perform_89 ?_
    refine q_istore dX6_perform_90 (by decide) ?_
    show sE g_tt _ _ _ 92 [some (.ref 0), some (.int (iZ 7)), some (.int (iZ (N : Int))), some (.int (iZ v3)), some (.int (iZ 0))] [] σ
    exact lx_nights (N := N) (t := A 2) hd hN _ σ hc hn4 oi hW hV 61 A F 0 σ hF ok C rfl (chg_rf _ _) (by omega) (by omega)
  refine q_tableOut (tgt := 145) dX6_perform_1 (by rw [iZ_toInt (by unfold inR at *; omega)]; omega) (by decide) ?_
  exfalso
  omega
set_option maxHeartbeats 4000000 in
set_option maxRecDepth 100000 in
theorem x_image {d : Nat} (hd : 3 ≤ d) (σ : gS) {W V : wF} {A I : Nat → Int} {c nt : Int} (hc : c ≤ 88000) (hn4 : nt ≤ 4) (ok : okR c nt A) (oi : okR c (I 1) I) (C : clR σ W V A I) : sC mX6_image d [.ref 0] σ (fun r σ' => r = some (.int (iZ (A 5))) ∧ chg (fun a => 161 ≤ a ∧ a < 321) σ σ' ∧ clR σ' W V A A) := by
  refine sC_of rfl (Nat.le_of_ble_eq_true rfl) ?_
  show sE g_tt _ _ _ 0 [some (.ref 0)] [] σ
  refine q_aload_n dX6_image_0 rfl rfl ?_
  refine sg6 (kf := 1) (v := .ref 161) dX6_image_1 flX6_16 (show kd 0 = 6 from rfl) (by decide) rfl ?_
  refine q_aload_n dX6_image_4 rfl rfl ?_
  refine sg6 (kf := 0) (v := .ref 1) dX6_image_5 flX6_10 (show kd 0 = 6 from rfl) (by decide) rfl ?_
  refine s_callV (ci := 5) (a := 161) (As := [.ref 1]) (S := []) dX6_image_8 okX5_takeAll mlX6_312 rfl (by omega) rfl (Nat.le_of_ble_eq_true rfl) (show kd 161 = 5 from rfl) (by decide) rfl (c_over161 (d := d - 1) (by omega) σ ok C.1 C.2.1) (fun v_ σ_ hq => ?_)
  obtain ⟨rfl, hc1, tw1⟩ := hq
  rename gS => σ1
  show sE g_tt _ _ _ 11 [some (.ref 0)] [] σ1
  refine q_aload_n dX6_image_11 rfl rfl ?_
  refine sg6 (kf := 0) (v := .ref 1) dX6_image_12 flX6_10 (show kd 0 = 6 from rfl) (by decide) rfl ?_
  refine sg5 (kf := 0) (v := .ref 2) dX6_image_15 flX6_72 (show kd 1 = 5 from rfl) (by decide) rfl ?_
  refine sg2 (kf := 6) (v := .int (iZ (A 5))) dX6_image_18 flX6_144 (show kd 2 = 2 from rfl) (by decide) (by show some (Value.int (iZ (σ1.1 2 6))) = _; rw [(hc1.1 2 (by omega)).1, show σ.1 2 6 = A 5 from C.1.1.2.2.1.2.2.2.2.1]) ?_
  exact s_iretZ dX6_image_21 rfl ⟨rfl, hc1, twR_ch C.1 hc1 (fun a x y => by omega) ok.2.2.2.1.2, tw1, fun t h1 h2 => lawR_ch (C.2.2.1 t h1 h2) hc1 (fun a x y => by omega), fun i hi => by rw [(hc1.1 321 (by omega)).2.2.1]; exact C.2.2.2.1 i hi, fun i hi => by rw [(hc1.1 334 (by omega)).2.2.1]; exact C.2.2.2.2 i hi⟩
set_option maxHeartbeats 4000000 in
set_option maxRecDepth 100000 in
theorem x_back {d : Nat} (hd : 3 ≤ d) (σ : gS) {W V : wF} {A I : Nat → Int} {c nt : Int} (hc : c ≤ 88000) (hn4 : nt ≤ 4) (ok : okR c nt A) (oi : okR c (I 1) I) (C : clR σ W V A I) (hI1 : I 1 ≤ A 1) : sC mX6_back d [.ref 0] σ (fun r σ' => r = some (.int (iZ (I 5))) ∧ chg (fun a => 1 ≤ a ∧ a < 161) σ σ' ∧ clR σ' W V I I) := by
  refine sC_of rfl (Nat.le_of_ble_eq_true rfl) ?_
  show sE g_tt _ _ _ 0 [some (.ref 0)] [] σ
  refine q_aload_n dX6_back_0 rfl rfl ?_
  refine sg6 (kf := 0) (v := .ref 1) dX6_back_1 flX6_10 (show kd 0 = 6 from rfl) (by decide) rfl ?_
  refine q_aload_n dX6_back_4 rfl rfl ?_
  refine sg6 (kf := 1) (v := .ref 161) dX6_back_5 flX6_16 (show kd 0 = 6 from rfl) (by decide) rfl ?_
  refine s_callV (ci := 5) (a := 1) (As := [.ref 161]) (S := []) dX6_back_8 okX5_takeAll mlX6_312 rfl (by omega) rfl (Nat.le_of_ble_eq_true rfl) (show kd 1 = 5 from rfl) (by decide) rfl (c_over1 (d := d - 1) (by omega) σ oi C.2.1 C.1) (fun v_ σ_ hq => ?_)
  obtain ⟨rfl, hc1, tw1⟩ := hq
  rename gS => σ1
  show sE g_tt _ _ _ 11 [some (.ref 0)] [] σ1
  refine q_aload_n dX6_back_11 rfl rfl ?_
  refine sg6 (kf := 0) (v := .ref 1) dX6_back_12 flX6_10 (show kd 0 = 6 from rfl) (by decide) rfl ?_
  refine sg5 (kf := 0) (v := .ref 2) dX6_back_15 flX6_72 (show kd 1 = 5 from rfl) (by decide) rfl ?_
  refine sg2 (kf := 6) (v := .int (iZ (I 5))) dX6_back_18 flX6_144 (show kd 2 = 2 from rfl) (by decide) (by show some (Value.int (iZ (σ1.1 2 6))) = _; rw [show σ1.1 2 6 = I 5 from tw1.1.2.2.1.2.2.2.2.1]) ?_
  exact s_iretZ dX6_back_21 rfl ⟨rfl, hc1, tw1, twR_ch C.2.1 hc1 (fun a x y => by omega) oi.2.2.2.1.2, fun t h1 h2 => lawR_ch (C.2.2.1 t h1 (by omega)) hc1 (fun a x y => by omega), fun i hi => by rw [(hc1.1 321 (by omega)).2.2.1]; exact C.2.2.2.1 i hi, fun i hi => by rw [(hc1.1 334 (by omega)).2.2.1]; exact C.2.2.2.2 i hi⟩
