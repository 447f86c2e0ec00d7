/-! ===== the class's reader: numberIn, opens, readName ===== -/
def nuB (a b : Int) (tk nu st : Nat → Int) (B : rB) : rB := if ¬ tk B.2.2.1 = 38 then flB 1 st B else if nu B.2.2.1 < a ∨ b < nu B.2.2.1 then flB 2 st B else if B.1 = 0 then adB B else B
def opB (op : Int) (st : Nat → Int) (B : rB) : rB := if 8 ≤ op then flB 3 st B else adB B
noncomputable def nmR (tk : Nat → Int) (sp : Int) (k : Nat) : rE := if nmI (tk k) < 0 then rF 1 k else @ite _ (isOfP (nmI (tk k)) sp) (Classical.propDecidable _) (0, k + 1, vM (tk k) 0, 0) (rF 5 k)
theorem nmR_1 {tk : Nat → Int} {sp : Int} {k : Nat} (h : ¬ tk k = 7 ∧ ¬ tk k = 19 ∧ ¬ tk k = 20 ∧ ¬ tk k = 3 ∧ ¬ tk k = 21 ∧ ¬ tk k = 22 ∧ ¬ tk k = 23 ∧ ¬ tk k = 24) : nmR tk sp k = rF 1 k := by
  obtain ⟨h1, h2, h3, h4, h5, h6, h7, h8⟩ := h
  unfold nmR nmI
  rw [if_neg h1, if_neg h2, if_neg h3, if_neg h4, if_neg h5, if_neg h6, if_neg h7, if_neg h8, if_pos (by decide)]
theorem nmI_v (t : Int) : (t = 7 → nmI t = 0) ∧ (t = 19 → nmI t = 1) ∧ (t = 20 → nmI t = 2) ∧ (t = 3 → nmI t = 3) ∧ (t = 21 → nmI t = 4) ∧ (t = 22 → nmI t = 5) ∧ (t = 23 → nmI t = 6) ∧ (t = 24 → nmI t = 7) := by
  refine ⟨?_, ?_, ?_, ?_, ?_, ?_, ?_, ?_⟩ <;> intro h <;> rw [h] <;> rfl
theorem nmR_5 {tk : Nat → Int} {so : Int} {k : Nat} (h : (tk k = 22 ∨ tk k = 23) ∧ so = 0 ∨ tk k = 24 ∧ so = 1) : nmR tk (1 - so) k = rF 5 k := by
  obtain ⟨-, -, -, -, -, v5, v6, v7⟩ := nmI_v (tk k)
  have e : ((nmI (tk k) = 5 ∨ nmI (tk k) = 6) ∧ so = 0) ∨ (nmI (tk k) = 7 ∧ so = 1) := by
    rcases h with ⟨a | a, b⟩ | ⟨a, b⟩
    · exact Or.inl ⟨Or.inl (v5 a), b⟩
    · exact Or.inl ⟨Or.inr (v6 a), b⟩
    · exact Or.inr ⟨v7 a, b⟩
  unfold nmR
  rw [if_neg (by omega), if_neg (by unfold isOfP; omega)]
theorem nmR_ok {tk : Nat → Int} {so : Int} {k : Nat} (h : (tk k = 7 ∨ tk k = 19 ∨ tk k = 20 ∨ tk k = 3 ∨ tk k = 21) ∨ (tk k = 22 ∨ tk k = 23) ∧ so = 1 ∨ tk k = 24 ∧ so = 0) : nmR tk (1 - so) k = (0, k + 1, vM (tk k) 0, 0) := by
  obtain ⟨v0, v1, v2, v3, v4, v5, v6, v7⟩ := nmI_v (tk k)
  have e : (0 ≤ nmI (tk k) ∧ nmI (tk k) < 5) ∨ ((nmI (tk k) = 5 ∨ nmI (tk k) = 6) ∧ so = 1) ∨ (nmI (tk k) = 7 ∧ so = 0) := by
    rcases h with (a | a | a | a | a) | ⟨a | a, b⟩ | ⟨a, b⟩
    · exact Or.inl (by rw [v0 a]; omega)
    · exact Or.inl (by rw [v1 a]; omega)
    · exact Or.inl (by rw [v2 a]; omega)
    · exact Or.inl (by rw [v3 a]; omega)
    · exact Or.inl (by rw [v4 a]; omega)
    · exact Or.inr (Or.inl ⟨Or.inl (v5 a), b⟩)
    · exact Or.inr (Or.inl ⟨Or.inr (v6 a), b⟩)
    · exact Or.inr (Or.inr ⟨v7 a, b⟩)
  unfold nmR
  rw [if_neg (by omega), if_pos (by unfold isOfP; omega)]
theorem nm_t {t : Int} (h : t = 7 ∨ t = 19 ∨ t = 20 ∨ t = 3 ∨ t = 21 ∨ t = 22 ∨ t = 23 ∨ t = 24) : cTk t.toNat = 0 := by
  unfold cTk
  rw [if_pos (by omega)]
set_option maxHeartbeats 4000000 in
set_option maxRecDepth 100000 in
theorem x_numberIn {d : Nat} (hd : 1 ≤ d) {σ σ1 : gS} {x n : Nat} {tk st nu : Nat → Int} {so : Int} (K : rdK σ x n tk st nu) {f pl far : Int} {k l : Nat} {C : Nat → Int} (rd : rdR σ x tk so σ1 (f, pl, k, l, far, C)) (ok : okB n (f, pl, k, l, far, C)) {a b : Int} (ha : inR a) (hb : inR b) : sC mX1_numberIn d [.ref 333, .int (iZ a), .int (iZ b)] σ1 (fun r σ' => r = some (.int (iZ (nu k))) ∧ rdR σ x tk so σ' (nuB a b tk nu st (f, pl, k, l, far, C))) := by
  have hk : k ≤ n := ok.2.1
  have hl : l ≤ 300 := ok.2.2.1
  have hf : inR f := ok.1
  have hn := K.2.2.1
  refine sC_of rfl (Nat.le_of_ble_eq_true rfl) ?_
  show sE g_tt _ _ _ 0 [some (.ref 333), some (.int (iZ a)), some (.int (iZ b)), none] [] σ1
  refine q_aload_n dX1_numberIn_0 rfl rfl ?_
  refine sg1 (kf := 2) (v := .ref 328) dX1_numberIn_1 flX1_28 (show kd 333 = 1 from rfl) (by decide) (by show some (va_rf ((σ1).2.2.2.2 333 2)) = _; rw [show (σ1).2.2.2.2 333 2 = some 328 from rd.2.1]; rfl) ?_
  refine sg3 (kf := 4) (v := .ref 332) dX1_numberIn_4 flX1_63 (show kd 328 = 3 from rfl) (by decide) rfl ?_
  refine q_aload_n dX1_numberIn_7 rfl rfl ?_
  refine sg1 (kf := 5) (v := .int (iZ (k : Int))) dX1_numberIn_8 flX1_22 (show kd 333 = 1 from rfl) (by decide) (by show some (Value.int (iZ ((σ1).1 333 5))) = _; rw [show (σ1).1 333 5 = (k : Int) from rd.2.2.2.2.2.2.1]) ?_
  refine s_iald (n := 301) (x := nu k) dX1_numberIn_11 (show kd 332 = 100 + 301 from rfl) (by omega) (by omega) (by decide) (rd_nu K rd hk) ?_
  refine q_istore_n dX1_numberIn_12 rfl (by decide) ?_
  show sE g_tt _ _ _ 13 [some (.ref 333), some (.int (iZ a)), some (.int (iZ b)), some (.int (iZ (nu k)))] [] σ1
  refine q_aload_n dX1_numberIn_13 rfl rfl ?_
  refine sg1 (kf := 6) (v := .int (iZ (tk k))) dX1_numberIn_14 flX1_25 (show kd 333 = 1 from rfl) (by decide) (by show some (Value.int (iZ ((σ1).1 333 6))) = _; rw [show (σ1).1 333 6 = tk k from rd.2.2.2.2.2.2.2.1]) ?_
  refine z_bipush dX1_numberIn_17 (by decide +kernel) ?_
  refine z_icmp_eq (tgt := 30) dX1_numberIn_19 (by decide) (kt_r K hk) (by unfold inR at *; omega) (fun c_1 => ?_) (fun c_1 => ?_)
  · refine q_iload_n dX1_numberIn_30 rfl rfl ?_
    refine q_iload_n dX1_numberIn_31 rfl rfl ?_
    refine z_icmp_lt (tgt := 40) dX1_numberIn_32 (by decide) (kn_r K hk) (by unfold inR at *; omega) (fun c_2 => ?_) (fun c_2 => ?_)
    · refine q_aload_n dX1_numberIn_40 rfl rfl ?_
      refine z_iconst dX1_numberIn_41 ?_
      refine s_callV (ci := 1) (a := 333) (As := [.int (iZ 2)]) (S := []) dX1_numberIn_42 okX1_fail mlX1_59 rfl (by omega) rfl (Nat.le_of_ble_eq_true rfl) (show kd 333 = 1 from rfl) (by decide) rfl (x_fail (d := d - 1) (c := 2) K rd ok) (fun v_ σ_ hq => ?_)
      obtain ⟨rfl, rd2⟩ := hq
      rename gS => σ2
      show sE g_tt _ _ _ 45 [some (.ref 333), some (.int (iZ a)), some (.int (iZ b)), some (.int (iZ (nu k)))] [] σ2
      refine q_goto (tgt := 59) dX1_numberIn_45 (by decide) ?_
      refine q_iload_n dX1_numberIn_59 rfl rfl ?_
      exact s_iretZ dX1_numberIn_60 rfl ⟨rfl, by unfold nuB; show rdR σ x tk so _ (if ¬ tk k = 38 then flB 1 st (f, pl, k, l, far, C) else if nu k < a ∨ b < nu k then flB 2 st (f, pl, k, l, far, C) else if f = 0 then adB (f, pl, k, l, far, C) else (f, pl, k, l, far, C)); rw [if_neg (by omega), if_pos (by omega)]; exact rd2⟩
    · refine q_iload_n dX1_numberIn_35 rfl rfl ?_
      refine q_iload_n dX1_numberIn_36 rfl rfl ?_
      refine z_icmp_le (tgt := 48) dX1_numberIn_37 (by decide) (kn_r K hk) (by unfold inR at *; omega) (fun c_3 => ?_) (fun c_3 => ?_)
      · refine q_aload_n dX1_numberIn_48 rfl rfl ?_
        refine sg1 (kf := 0) (v := .int (iZ f)) dX1_numberIn_49 flX1_9 (show kd 333 = 1 from rfl) (by decide) (by show some (Value.int (iZ ((σ1).1 333 0))) = _; rw [show (σ1).1 333 0 = f from rd.2.2.2.1]) ?_
        refine z_if_ne (tgt := 59) dX1_numberIn_52 (by decide) hf (fun c_4 => ?_) (fun c_4 => ?_)
        · refine q_iload_n dX1_numberIn_59 rfl rfl ?_
          exact s_iretZ dX1_numberIn_60 rfl ⟨rfl, by unfold nuB; show rdR σ x tk so _ (if ¬ tk k = 38 then flB 1 st (f, pl, k, l, far, C) else if nu k < a ∨ b < nu k then flB 2 st (f, pl, k, l, far, C) else if f = 0 then adB (f, pl, k, l, far, C) else (f, pl, k, l, far, C)); rw [if_neg (by omega), if_neg (by omega), if_neg (by omega)]; exact rd⟩
        · refine q_aload_n dX1_numberIn_55 rfl rfl ?_
          refine s_callV (ci := 1) (a := 333) (As := []) (S := []) dX1_numberIn_56 okX1_advance mlX1_56 rfl (by omega) rfl (Nat.le_of_ble_eq_true rfl) (show kd 333 = 1 from rfl) (by decide) rfl (x_advance (d := d - 1) K rd (k_lt K hk (by omega))) (fun v_ σ_ hq => ?_)
          obtain ⟨rfl, rd2⟩ := hq
          rename gS => σ2
          show sE g_tt _ _ _ 59 [some (.ref 333), some (.int (iZ a)), some (.int (iZ b)), some (.int (iZ (nu k)))] [] σ2
          refine q_iload_n dX1_numberIn_59 rfl rfl ?_
          exact s_iretZ dX1_numberIn_60 rfl ⟨rfl, by unfold nuB; show rdR σ x tk so _ (if ¬ tk k = 38 then flB 1 st (f, pl, k, l, far, C) else if nu k < a ∨ b < nu k then flB 2 st (f, pl, k, l, far, C) else if f = 0 then adB (f, pl, k, l, far, C) else (f, pl, k, l, far, C)); rw [if_neg (by omega), if_neg (by omega), if_pos (by omega)]; exact rd2⟩
      · refine q_aload_n dX1_numberIn_40 rfl rfl ?_
        refine z_iconst dX1_numberIn_41 ?_
        refine s_callV (ci := 1) (a := 333) (As := [.int (iZ 2)]) (S := []) dX1_numberIn_42 okX1_fail mlX1_59 rfl (by omega) rfl (Nat.le_of_ble_eq_true rfl) (show kd 333 = 1 from rfl) (by decide) rfl (x_fail (d := d - 1) (c := 2) K rd ok) (fun v_ σ_ hq => ?_)
        obtain ⟨rfl, rd2⟩ := hq
        rename gS => σ2
        show sE g_tt _ _ _ 45 [some (.ref 333), some (.int (iZ a)), some (.int (iZ b)), some (.int (iZ (nu k)))] [] σ2
        refine q_goto (tgt := 59) dX1_numberIn_45 (by decide) ?_
        refine q_iload_n dX1_numberIn_59 rfl rfl ?_
        exact s_iretZ dX1_numberIn_60 rfl ⟨rfl, by unfold nuB; show rdR σ x tk so _ (if ¬ tk k = 38 then flB 1 st (f, pl, k, l, far, C) else if nu k < a ∨ b < nu k then flB 2 st (f, pl, k, l, far, C) else if f = 0 then adB (f, pl, k, l, far, C) else (f, pl, k, l, far, C)); rw [if_neg (by omega), if_pos (by omega)]; exact rd2⟩
  · refine q_aload_n dX1_numberIn_22 rfl rfl ?_
    refine z_iconst dX1_numberIn_23 ?_
    refine s_callV (ci := 1) (a := 333) (As := [.int (iZ 1)]) (S := []) dX1_numberIn_24 okX1_fail mlX1_59 rfl (by omega) rfl (Nat.le_of_ble_eq_true rfl) (show kd 333 = 1 from rfl) (by decide) rfl (x_fail (d := d - 1) (c := 1) K rd ok) (fun v_ σ_ hq => ?_)
    obtain ⟨rfl, rd2⟩ := hq
    rename gS => σ2
    show sE g_tt _ _ _ 27 [some (.ref 333), some (.int (iZ a)), some (.int (iZ b)), some (.int (iZ (nu k)))] [] σ2
    refine q_goto (tgt := 59) dX1_numberIn_27 (by decide) ?_
    refine q_iload_n dX1_numberIn_59 rfl rfl ?_
    exact s_iretZ dX1_numberIn_60 rfl ⟨rfl, by unfold nuB; show rdR σ x tk so _ (if ¬ tk k = 38 then flB 1 st (f, pl, k, l, far, C) else if nu k < a ∨ b < nu k then flB 2 st (f, pl, k, l, far, C) else if f = 0 then adB (f, pl, k, l, far, C) else (f, pl, k, l, far, C)); rw [if_pos (by omega)]; exact rd2⟩
set_option maxHeartbeats 4000000 in
set_option maxRecDepth 100000 in
theorem x_opens {d : Nat} (hd : 1 ≤ d) {σ σ1 : gS} {x n : Nat} {tk st nu : Nat → Int} {so : Int} (K : rdK σ x n tk st nu) {f pl far : Int} {k l : Nat} {C : Nat → Int} (rd : rdR σ x tk so σ1 (f, pl, k, l, far, C)) (ok : okB n (f, pl, k, l, far, C)) {op : Int} (ho : inR op) (ht : tk k ≠ 39) : sC mX1_opens d [.ref 333, .int (iZ op)] σ1 (fun r σ' => r = some (.int (iZ (if op < 8 then 1 else 0))) ∧ rdR σ x tk so σ' (opB op st (f, pl, k, l, far, C))) := by
  have hk : k ≤ n := ok.2.1
  have hl : l ≤ 300 := ok.2.2.1
  have hf : inR f := ok.1
  have hn := K.2.2.1
  refine sC_of rfl (Nat.le_of_ble_eq_true rfl) ?_
  show sE g_tt _ _ _ 0 [some (.ref 333), some (.int (iZ op))] [] σ1
  refine q_iload_n dX1_opens_0 rfl rfl ?_
  refine z_bipush dX1_opens_1 (by decide +kernel) ?_
  refine z_icmp_lt (tgt := 13) dX1_opens_3 (by decide) (by unfold inR at *; omega) (by unfold inR at *; omega) (fun c_1 => ?_) (fun c_1 => ?_)
  · refine q_aload_n dX1_opens_13 rfl rfl ?_
    refine s_callV (ci := 1) (a := 333) (As := []) (S := []) dX1_opens_14 okX1_advance mlX1_56 rfl (by omega) rfl (Nat.le_of_ble_eq_true rfl) (show kd 333 = 1 from rfl) (by decide) rfl (x_advance (d := d - 1) K rd (k_lt K hk ht)) (fun v_ σ_ hq => ?_)
    obtain ⟨rfl, rd2⟩ := hq
    rename gS => σ2
    show sE g_tt _ _ _ 17 [some (.ref 333), some (.int (iZ op))] [] σ2
    refine z_iconst dX1_opens_17 ?_
    exact s_zret dX1_opens_18 rfl (by omega) ⟨by rw [if_pos (by omega)], by unfold opB; rw [if_neg (by omega)]; exact rd2⟩
  · refine q_aload_n dX1_opens_6 rfl rfl ?_
    refine z_iconst dX1_opens_7 ?_
    refine s_callV (ci := 1) (a := 333) (As := [.int (iZ 3)]) (S := []) dX1_opens_8 okX1_fail mlX1_59 rfl (by omega) rfl (Nat.le_of_ble_eq_true rfl) (show kd 333 = 1 from rfl) (by decide) rfl (x_fail (d := d - 1) (c := 3) K rd ok) (fun v_ σ_ hq => ?_)
    obtain ⟨rfl, rd2⟩ := hq
    rename gS => σ2
    show sE g_tt _ _ _ 11 [some (.ref 333), some (.int (iZ op))] [] σ2
    refine z_iconst dX1_opens_11 ?_
    exact s_zret dX1_opens_12 rfl (by omega) ⟨by rw [if_neg (by omega)], by unfold opB; rw [if_pos (by omega)]; exact rd2⟩
set_option maxHeartbeats 4000000 in
set_option maxRecDepth 100000 in
theorem x_readName {d : Nat} (hd : 1 ≤ d) {σ σ1 : gS} {x n : Nat} {tk st nu : Nat → Int} {so : Int} (K : rdK σ x n tk st nu) {f pl far : Int} {k l : Nat} {C : Nat → Int} (rd : rdR σ x tk so σ1 (f, pl, k, l, far, C)) (ok : okB n (f, pl, k, l, far, C)) (h0 : f = 0) (hs : so = 0 ∨ so = 1) : sC mX1_readName d [.ref 333] σ1 (fun r σ' => r = none ∧ ∃ B', rdR σ x tk so σ' B' ∧ rdQ n st so (f, pl, k, l, far, C) 1 0 (nmR tk (1 - so) k) B') := by
  have hk : k ≤ n := ok.2.1
  have hl : l ≤ 300 := ok.2.2.1
  have hf : inR f := ok.1
  have hn := K.2.2.1
  refine sC_of rfl (Nat.le_of_ble_eq_true rfl) ?_
  show sE g_tt _ _ _ 0 [some (.ref 333), none, none] [] σ1
  refine q_aload_n dX1_readName_0 rfl rfl ?_
  refine sg1 (kf := 6) (v := .int (iZ (tk k))) dX1_readName_1 flX1_25 (show kd 333 = 1 from rfl) (by decide) (by show some (Value.int (iZ ((σ1).1 333 6))) = _; rw [show (σ1).1 333 6 = tk k from rd.2.2.2.2.2.2.2.1]) ?_
  refine z_bipush dX1_readName_4 (by decide +kernel) ?_
  refine z_icmp_eq (tgt := 44) dX1_readName_6 (by decide) (kt_r K hk) (by unfold inR at *; omega) (fun c_1 => ?_) (fun c_1 => ?_)
  · refine z_iconst dX1_readName_44 ?_
    refine q_goto (tgt := 49) dX1_readName_45 (by decide) ?_
    refine q_istore_n dX1_readName_49 rfl (by decide) ?_
    show sE g_tt _ _ _ 50 [some (.ref 333), some (.int (iZ 1)), none] [] σ1
    refine q_aload_n dX1_readName_50 rfl rfl ?_
    refine sg1 (kf := 6) (v := .int (iZ (tk k))) dX1_readName_51 flX1_25 (show kd 333 = 1 from rfl) (by decide) (by show some (Value.int (iZ ((σ1).1 333 6))) = _; rw [show (σ1).1 333 6 = tk k from rd.2.2.2.2.2.2.2.1]) ?_
    refine z_bipush dX1_readName_54 (by decide +kernel) ?_
    refine z_icmp_eq (tgt := 68) dX1_readName_56 (by decide) (kt_r K hk) (by unfold inR at *; omega) (fun c_2 => ?_) (fun c_2 => ?_)
    · refine z_iconst dX1_readName_68 ?_
      refine q_goto (tgt := 73) dX1_readName_69 (by decide) ?_
      refine q_istore_n dX1_readName_73 rfl (by decide) ?_
      show sE g_tt _ _ _ 74 [some (.ref 333), some (.int (iZ 1)), some (.int (iZ 1))] [] σ1
      refine q_iload_n dX1_readName_74 rfl rfl ?_
      refine z_if_ne (tgt := 99) dX1_readName_75 (by decide) (by unfold inR at *; omega) (fun c_3 => ?_) (fun c_3 => ?_)
      · refine q_iload_n dX1_readName_99 rfl rfl ?_
        refine z_if_ne (tgt := 119) dX1_readName_100 (by decide) (by unfold inR at *; omega) (fun c_4 => ?_) (fun c_4 => ?_)
        · refine q_aload_n dX1_readName_119 rfl rfl ?_
          refine sg1 (kf := 3) (v := .ref x) dX1_readName_120 flX1_32 (show kd 333 = 1 from rfl) (by decide) (by show some (va_rf ((σ1).2.2.2.2 333 3)) = _; rw [show (σ1).2.2.2.2 333 3 = some x from rd.2.2.1]; rfl) ?_
          refine q_aload_n dX1_readName_123 rfl rfl ?_
          refine sg1 (kf := 6) (v := .int (iZ (tk k))) dX1_readName_124 flX1_25 (show kd 333 = 1 from rfl) (by decide) (by show some (Value.int (iZ ((σ1).1 333 6))) = _; rw [show (σ1).1 333 6 = tk k from rd.2.2.2.2.2.2.2.1]) ?_
          refine z_iconst dX1_readName_127 ?_
          refine s_callV (ci := 4) (a := x) (As := [.int (iZ (tk k)), .int (iZ 0)]) (S := []) dX1_readName_128 okX4_emit mlX1_107 rfl (by omega) rfl (Nat.le_of_ble_eq_true rfl) K.1 (by decide) rfl (x_emit (d := d - 1) (op := tk k) (v := 0) K rd ok) (fun v_ σ_ hq => ?_)
          obtain ⟨rfl, rd2⟩ := hq
          rename gS => σ2
          show sE g_tt _ _ _ 131 [some (.ref 333), some (.int (iZ 1)), some (.int (iZ 1))] [.int (iZ (if l < 300 then (l : Int) else -1))] σ2
          refine q_pop dX1_readName_131 rfl ?_
          refine q_aload_n dX1_readName_132 rfl rfl ?_
          refine s_callV (ci := 1) (a := 333) (As := []) (S := []) dX1_readName_133 okX1_advance mlX1_56 rfl (by omega) rfl (Nat.le_of_ble_eq_true rfl) (show kd 333 = 1 from rfl) (by decide) rfl (x_advance (d := d - 1) K rd2 (k_lt K hk (show tk k ≠ 39 by omega))) (fun v_ σ_ hq => ?_)
          obtain ⟨rfl, rd3⟩ := hq
          rename gS => σ3
          show sE g_tt _ _ _ 136 [some (.ref 333), some (.int (iZ 1)), some (.int (iZ 1))] [] σ3
          exact s_vret dX1_readName_136 rfl ⟨rfl, _, rd3, by rw [nmR_ok (by omega)]; exact (rdQ_leaf (B := (f, pl, k, l, far, C)) (by omega) (by omega) (nm_t (by omega)) (by omega) (by omega) ok hn (k_lt K hk (show tk k ≠ 39 by omega)) h0 (by omega)).1⟩
        · exfalso
          revert c_4
          decide
      · exfalso
        revert c_3
        decide
    · refine q_aload_n dX1_readName_59 rfl rfl ?_
      refine sg1 (kf := 6) (v := .int (iZ (tk k))) dX1_readName_60 flX1_25 (show kd 333 = 1 from rfl) (by decide) (by show some (Value.int (iZ ((σ1).1 333 6))) = _; rw [show (σ1).1 333 6 = tk k from rd.2.2.2.2.2.2.2.1]) ?_
      refine z_bipush dX1_readName_63 (by decide +kernel) ?_
      refine z_icmp_ne (tgt := 72) dX1_readName_65 (by decide) (kt_r K hk) (by unfold inR at *; omega) (fun c_5 => ?_) (fun c_5 => ?_)
      · refine z_iconst dX1_readName_72 ?_
        refine q_istore_n dX1_readName_73 rfl (by decide) ?_
        show sE g_tt _ _ _ 74 [some (.ref 333), some (.int (iZ 1)), some (.int (iZ 0))] [] σ1
        refine q_iload_n dX1_readName_74 rfl rfl ?_
        refine z_if_ne (tgt := 99) dX1_readName_75 (by decide) (by unfold inR at *; omega) (fun c_6 => ?_) (fun c_6 => ?_)
        · refine q_iload_n dX1_readName_99 rfl rfl ?_
          refine z_if_ne (tgt := 119) dX1_readName_100 (by decide) (by unfold inR at *; omega) (fun c_7 => ?_) (fun c_7 => ?_)
          · refine q_aload_n dX1_readName_119 rfl rfl ?_
            refine sg1 (kf := 3) (v := .ref x) dX1_readName_120 flX1_32 (show kd 333 = 1 from rfl) (by decide) (by show some (va_rf ((σ1).2.2.2.2 333 3)) = _; rw [show (σ1).2.2.2.2 333 3 = some x from rd.2.2.1]; rfl) ?_
            refine q_aload_n dX1_readName_123 rfl rfl ?_
            refine sg1 (kf := 6) (v := .int (iZ (tk k))) dX1_readName_124 flX1_25 (show kd 333 = 1 from rfl) (by decide) (by show some (Value.int (iZ ((σ1).1 333 6))) = _; rw [show (σ1).1 333 6 = tk k from rd.2.2.2.2.2.2.2.1]) ?_
            refine z_iconst dX1_readName_127 ?_
            refine s_callV (ci := 4) (a := x) (As := [.int (iZ (tk k)), .int (iZ 0)]) (S := []) dX1_readName_128 okX4_emit mlX1_107 rfl (by omega) rfl (Nat.le_of_ble_eq_true rfl) K.1 (by decide) rfl (x_emit (d := d - 1) (op := tk k) (v := 0) K rd ok) (fun v_ σ_ hq => ?_)
            obtain ⟨rfl, rd2⟩ := hq
            rename gS => σ2
            show sE g_tt _ _ _ 131 [some (.ref 333), some (.int (iZ 1)), some (.int (iZ 0))] [.int (iZ (if l < 300 then (l : Int) else -1))] σ2
            refine q_pop dX1_readName_131 rfl ?_
            refine q_aload_n dX1_readName_132 rfl rfl ?_
            refine s_callV (ci := 1) (a := 333) (As := []) (S := []) dX1_readName_133 okX1_advance mlX1_56 rfl (by omega) rfl (Nat.le_of_ble_eq_true rfl) (show kd 333 = 1 from rfl) (by decide) rfl (x_advance (d := d - 1) K rd2 (k_lt K hk (show tk k ≠ 39 by omega))) (fun v_ σ_ hq => ?_)
            obtain ⟨rfl, rd3⟩ := hq
            rename gS => σ3
            show sE g_tt _ _ _ 136 [some (.ref 333), some (.int (iZ 1)), some (.int (iZ 0))] [] σ3
            exact s_vret dX1_readName_136 rfl ⟨rfl, _, rd3, by rw [nmR_ok (by omega)]; exact (rdQ_leaf (B := (f, pl, k, l, far, C)) (by omega) (by omega) (nm_t (by omega)) (by omega) (by omega) ok hn (k_lt K hk (show tk k ≠ 39 by omega)) h0 (by omega)).1⟩
          · exfalso
            revert c_7
            decide
        · exfalso
          revert c_6
          decide
      · refine z_iconst dX1_readName_68 ?_
        refine q_goto (tgt := 73) dX1_readName_69 (by decide) ?_
        refine q_istore_n dX1_readName_73 rfl (by decide) ?_
        show sE g_tt _ _ _ 74 [some (.ref 333), some (.int (iZ 1)), some (.int (iZ 1))] [] σ1
        refine q_iload_n dX1_readName_74 rfl rfl ?_
        refine z_if_ne (tgt := 99) dX1_readName_75 (by decide) (by unfold inR at *; omega) (fun c_8 => ?_) (fun c_8 => ?_)
        · refine q_iload_n dX1_readName_99 rfl rfl ?_
          refine z_if_ne (tgt := 119) dX1_readName_100 (by decide) (by unfold inR at *; omega) (fun c_9 => ?_) (fun c_9 => ?_)
          · refine q_aload_n dX1_readName_119 rfl rfl ?_
            refine sg1 (kf := 3) (v := .ref x) dX1_readName_120 flX1_32 (show kd 333 = 1 from rfl) (by decide) (by show some (va_rf ((σ1).2.2.2.2 333 3)) = _; rw [show (σ1).2.2.2.2 333 3 = some x from rd.2.2.1]; rfl) ?_
            refine q_aload_n dX1_readName_123 rfl rfl ?_
            refine sg1 (kf := 6) (v := .int (iZ (tk k))) dX1_readName_124 flX1_25 (show kd 333 = 1 from rfl) (by decide) (by show some (Value.int (iZ ((σ1).1 333 6))) = _; rw [show (σ1).1 333 6 = tk k from rd.2.2.2.2.2.2.2.1]) ?_
            refine z_iconst dX1_readName_127 ?_
            refine s_callV (ci := 4) (a := x) (As := [.int (iZ (tk k)), .int (iZ 0)]) (S := []) dX1_readName_128 okX4_emit mlX1_107 rfl (by omega) rfl (Nat.le_of_ble_eq_true rfl) K.1 (by decide) rfl (x_emit (d := d - 1) (op := tk k) (v := 0) K rd ok) (fun v_ σ_ hq => ?_)
            obtain ⟨rfl, rd2⟩ := hq
            rename gS => σ2
            show sE g_tt _ _ _ 131 [some (.ref 333), some (.int (iZ 1)), some (.int (iZ 1))] [.int (iZ (if l < 300 then (l : Int) else -1))] σ2
            refine q_pop dX1_readName_131 rfl ?_
            refine q_aload_n dX1_readName_132 rfl rfl ?_
            refine s_callV (ci := 1) (a := 333) (As := []) (S := []) dX1_readName_133 okX1_advance mlX1_56 rfl (by omega) rfl (Nat.le_of_ble_eq_true rfl) (show kd 333 = 1 from rfl) (by decide) rfl (x_advance (d := d - 1) K rd2 (k_lt K hk (show tk k ≠ 39 by omega))) (fun v_ σ_ hq => ?_)
            obtain ⟨rfl, rd3⟩ := hq
            rename gS => σ3
            show sE g_tt _ _ _ 136 [some (.ref 333), some (.int (iZ 1)), some (.int (iZ 1))] [] σ3
            exact s_vret dX1_readName_136 rfl ⟨rfl, _, rd3, by rw [nmR_ok (by omega)]; exact (rdQ_leaf (B := (f, pl, k, l, far, C)) (by omega) (by omega) (nm_t (by omega)) (by omega) (by omega) ok hn (k_lt K hk (show tk k ≠ 39 by omega)) h0 (by omega)).1⟩
          · exfalso
            revert c_9
            decide
        · exfalso
          revert c_8
          decide
  · refine q_aload_n dX1_readName_9 rfl rfl ?_
    refine sg1 (kf := 6) (v := .int (iZ (tk k))) dX1_readName_10 flX1_25 (show kd 333 = 1 from rfl) (by decide) (by show some (Value.int (iZ ((σ1).1 333 6))) = _; rw [show (σ1).1 333 6 = tk k from rd.2.2.2.2.2.2.2.1]) ?_
    refine z_bipush dX1_readName_13 (by decide +kernel) ?_
    refine z_icmp_eq (tgt := 44) dX1_readName_15 (by decide) (kt_r K hk) (by unfold inR at *; omega) (fun c_10 => ?_) (fun c_10 => ?_)
    · refine z_iconst dX1_readName_44 ?_
      refine q_goto (tgt := 49) dX1_readName_45 (by decide) ?_
      refine q_istore_n dX1_readName_49 rfl (by decide) ?_
      show sE g_tt _ _ _ 50 [some (.ref 333), some (.int (iZ 1)), none] [] σ1
      refine q_aload_n dX1_readName_50 rfl rfl ?_
      refine sg1 (kf := 6) (v := .int (iZ (tk k))) dX1_readName_51 flX1_25 (show kd 333 = 1 from rfl) (by decide) (by show some (Value.int (iZ ((σ1).1 333 6))) = _; rw [show (σ1).1 333 6 = tk k from rd.2.2.2.2.2.2.2.1]) ?_
      refine z_bipush dX1_readName_54 (by decide +kernel) ?_
      refine z_icmp_eq (tgt := 68) dX1_readName_56 (by decide) (kt_r K hk) (by unfold inR at *; omega) (fun c_11 => ?_) (fun c_11 => ?_)
      · refine z_iconst dX1_readName_68 ?_
        refine q_goto (tgt := 73) dX1_readName_69 (by decide) ?_
        refine q_istore_n dX1_readName_73 rfl (by decide) ?_
        show sE g_tt _ _ _ 74 [some (.ref 333), some (.int (iZ 1)), some (.int (iZ 1))] [] σ1
        refine q_iload_n dX1_readName_74 rfl rfl ?_
        refine z_if_ne (tgt := 99) dX1_readName_75 (by decide) (by unfold inR at *; omega) (fun c_12 => ?_) (fun c_12 => ?_)
        · refine q_iload_n dX1_readName_99 rfl rfl ?_
          refine z_if_ne (tgt := 119) dX1_readName_100 (by decide) (by unfold inR at *; omega) (fun c_13 => ?_) (fun c_13 => ?_)
          · refine q_aload_n dX1_readName_119 rfl rfl ?_
            refine sg1 (kf := 3) (v := .ref x) dX1_readName_120 flX1_32 (show kd 333 = 1 from rfl) (by decide) (by show some (va_rf ((σ1).2.2.2.2 333 3)) = _; rw [show (σ1).2.2.2.2 333 3 = some x from rd.2.2.1]; rfl) ?_
            refine q_aload_n dX1_readName_123 rfl rfl ?_
            refine sg1 (kf := 6) (v := .int (iZ (tk k))) dX1_readName_124 flX1_25 (show kd 333 = 1 from rfl) (by decide) (by show some (Value.int (iZ ((σ1).1 333 6))) = _; rw [show (σ1).1 333 6 = tk k from rd.2.2.2.2.2.2.2.1]) ?_
            refine z_iconst dX1_readName_127 ?_
            refine s_callV (ci := 4) (a := x) (As := [.int (iZ (tk k)), .int (iZ 0)]) (S := []) dX1_readName_128 okX4_emit mlX1_107 rfl (by omega) rfl (Nat.le_of_ble_eq_true rfl) K.1 (by decide) rfl (x_emit (d := d - 1) (op := tk k) (v := 0) K rd ok) (fun v_ σ_ hq => ?_)
            obtain ⟨rfl, rd2⟩ := hq
            rename gS => σ2
            show sE g_tt _ _ _ 131 [some (.ref 333), some (.int (iZ 1)), some (.int (iZ 1))] [.int (iZ (if l < 300 then (l : Int) else -1))] σ2
            refine q_pop dX1_readName_131 rfl ?_
            refine q_aload_n dX1_readName_132 rfl rfl ?_
            refine s_callV (ci := 1) (a := 333) (As := []) (S := []) dX1_readName_133 okX1_advance mlX1_56 rfl (by omega) rfl (Nat.le_of_ble_eq_true rfl) (show kd 333 = 1 from rfl) (by decide) rfl (x_advance (d := d - 1) K rd2 (k_lt K hk (show tk k ≠ 39 by omega))) (fun v_ σ_ hq => ?_)
            obtain ⟨rfl, rd3⟩ := hq
            rename gS => σ3
            show sE g_tt _ _ _ 136 [some (.ref 333), some (.int (iZ 1)), some (.int (iZ 1))] [] σ3
            exact s_vret dX1_readName_136 rfl ⟨rfl, _, rd3, by rw [nmR_ok (by omega)]; exact (rdQ_leaf (B := (f, pl, k, l, far, C)) (by omega) (by omega) (nm_t (by omega)) (by omega) (by omega) ok hn (k_lt K hk (show tk k ≠ 39 by omega)) h0 (by omega)).1⟩
          · exfalso
            revert c_13
            decide
        · exfalso
          revert c_12
          decide
      · refine q_aload_n dX1_readName_59 rfl rfl ?_
        refine sg1 (kf := 6) (v := .int (iZ (tk k))) dX1_readName_60 flX1_25 (show kd 333 = 1 from rfl) (by decide) (by show some (Value.int (iZ ((σ1).1 333 6))) = _; rw [show (σ1).1 333 6 = tk k from rd.2.2.2.2.2.2.2.1]) ?_
        refine z_bipush dX1_readName_63 (by decide +kernel) ?_
        refine z_icmp_ne (tgt := 72) dX1_readName_65 (by decide) (kt_r K hk) (by unfold inR at *; omega) (fun c_14 => ?_) (fun c_14 => ?_)
        · refine z_iconst dX1_readName_72 ?_
          refine q_istore_n dX1_readName_73 rfl (by decide) ?_
          show sE g_tt _ _ _ 74 [some (.ref 333), some (.int (iZ 1)), some (.int (iZ 0))] [] σ1
          refine q_iload_n dX1_readName_74 rfl rfl ?_
          refine z_if_ne (tgt := 99) dX1_readName_75 (by decide) (by unfold inR at *; omega) (fun c_15 => ?_) (fun c_15 => ?_)
          · refine q_iload_n dX1_readName_99 rfl rfl ?_
            refine z_if_ne (tgt := 119) dX1_readName_100 (by decide) (by unfold inR at *; omega) (fun c_16 => ?_) (fun c_16 => ?_)
            · refine q_aload_n dX1_readName_119 rfl rfl ?_
              refine sg1 (kf := 3) (v := .ref x) dX1_readName_120 flX1_32 (show kd 333 = 1 from rfl) (by decide) (by show some (va_rf ((σ1).2.2.2.2 333 3)) = _; rw [show (σ1).2.2.2.2 333 3 = some x from rd.2.2.1]; rfl) ?_
              refine q_aload_n dX1_readName_123 rfl rfl ?_
              refine sg1 (kf := 6) (v := .int (iZ (tk k))) dX1_readName_124 flX1_25 (show kd 333 = 1 from rfl) (by decide) (by show some (Value.int (iZ ((σ1).1 333 6))) = _; rw [show (σ1).1 333 6 = tk k from rd.2.2.2.2.2.2.2.1]) ?_
              refine z_iconst dX1_readName_127 ?_
              refine s_callV (ci := 4) (a := x) (As := [.int (iZ (tk k)), .int (iZ 0)]) (S := []) dX1_readName_128 okX4_emit mlX1_107 rfl (by omega) rfl (Nat.le_of_ble_eq_true rfl) K.1 (by decide) rfl (x_emit (d := d - 1) (op := tk k) (v := 0) K rd ok) (fun v_ σ_ hq => ?_)
              obtain ⟨rfl, rd2⟩ := hq
              rename gS => σ2
              show sE g_tt _ _ _ 131 [some (.ref 333), some (.int (iZ 1)), some (.int (iZ 0))] [.int (iZ (if l < 300 then (l : Int) else -1))] σ2
              refine q_pop dX1_readName_131 rfl ?_
              refine q_aload_n dX1_readName_132 rfl rfl ?_
              refine s_callV (ci := 1) (a := 333) (As := []) (S := []) dX1_readName_133 okX1_advance mlX1_56 rfl (by omega) rfl (Nat.le_of_ble_eq_true rfl) (show kd 333 = 1 from rfl) (by decide) rfl (x_advance (d := d - 1) K rd2 (k_lt K hk (show tk k ≠ 39 by omega))) (fun v_ σ_ hq => ?_)
              obtain ⟨rfl, rd3⟩ := hq
              rename gS => σ3
              show sE g_tt _ _ _ 136 [some (.ref 333), some (.int (iZ 1)), some (.int (iZ 0))] [] σ3
              exact s_vret dX1_readName_136 rfl ⟨rfl, _, rd3, by rw [nmR_ok (by omega)]; exact (rdQ_leaf (B := (f, pl, k, l, far, C)) (by omega) (by omega) (nm_t (by omega)) (by omega) (by omega) ok hn (k_lt K hk (show tk k ≠ 39 by omega)) h0 (by omega)).1⟩
            · exfalso
              revert c_16
              decide
          · exfalso
            revert c_15
            decide
        · refine z_iconst dX1_readName_68 ?_
          refine q_goto (tgt := 73) dX1_readName_69 (by decide) ?_
          refine q_istore_n dX1_readName_73 rfl (by decide) ?_
          show sE g_tt _ _ _ 74 [some (.ref 333), some (.int (iZ 1)), some (.int (iZ 1))] [] σ1
          refine q_iload_n dX1_readName_74 rfl rfl ?_
          refine z_if_ne (tgt := 99) dX1_readName_75 (by decide) (by unfold inR at *; omega) (fun c_17 => ?_) (fun c_17 => ?_)
          · refine q_iload_n dX1_readName_99 rfl rfl ?_
            refine z_if_ne (tgt := 119) dX1_readName_100 (by decide) (by unfold inR at *; omega) (fun c_18 => ?_) (fun c_18 => ?_)
            · refine q_aload_n dX1_readName_119 rfl rfl ?_
              refine sg1 (kf := 3) (v := .ref x) dX1_readName_120 flX1_32 (show kd 333 = 1 from rfl) (by decide) (by show some (va_rf ((σ1).2.2.2.2 333 3)) = _; rw [show (σ1).2.2.2.2 333 3 = some x from rd.2.2.1]; rfl) ?_
              refine q_aload_n dX1_readName_123 rfl rfl ?_
              refine sg1 (kf := 6) (v := .int (iZ (tk k))) dX1_readName_124 flX1_25 (show kd 333 = 1 from rfl) (by decide) (by show some (Value.int (iZ ((σ1).1 333 6))) = _; rw [show (σ1).1 333 6 = tk k from rd.2.2.2.2.2.2.2.1]) ?_
              refine z_iconst dX1_readName_127 ?_
              refine s_callV (ci := 4) (a := x) (As := [.int (iZ (tk k)), .int (iZ 0)]) (S := []) dX1_readName_128 okX4_emit mlX1_107 rfl (by omega) rfl (Nat.le_of_ble_eq_true rfl) K.1 (by decide) rfl (x_emit (d := d - 1) (op := tk k) (v := 0) K rd ok) (fun v_ σ_ hq => ?_)
              obtain ⟨rfl, rd2⟩ := hq
              rename gS => σ2
              show sE g_tt _ _ _ 131 [some (.ref 333), some (.int (iZ 1)), some (.int (iZ 1))] [.int (iZ (if l < 300 then (l : Int) else -1))] σ2
              refine q_pop dX1_readName_131 rfl ?_
              refine q_aload_n dX1_readName_132 rfl rfl ?_
              refine s_callV (ci := 1) (a := 333) (As := []) (S := []) dX1_readName_133 okX1_advance mlX1_56 rfl (by omega) rfl (Nat.le_of_ble_eq_true rfl) (show kd 333 = 1 from rfl) (by decide) rfl (x_advance (d := d - 1) K rd2 (k_lt K hk (show tk k ≠ 39 by omega))) (fun v_ σ_ hq => ?_)
              obtain ⟨rfl, rd3⟩ := hq
              rename gS => σ3
              show sE g_tt _ _ _ 136 [some (.ref 333), some (.int (iZ 1)), some (.int (iZ 1))] [] σ3
              exact s_vret dX1_readName_136 rfl ⟨rfl, _, rd3, by rw [nmR_ok (by omega)]; exact (rdQ_leaf (B := (f, pl, k, l, far, C)) (by omega) (by omega) (nm_t (by omega)) (by omega) (by omega) ok hn (k_lt K hk (show tk k ≠ 39 by omega)) h0 (by omega)).1⟩
            · exfalso
              revert c_18
              decide
          · exfalso
            revert c_17
            decide
    · refine q_aload_n dX1_readName_18 rfl rfl ?_
      refine sg1 (kf := 6) (v := .int (iZ (tk k))) dX1_readName_19 flX1_25 (show kd 333 = 1 from rfl) (by decide) (by show some (Value.int (iZ ((σ1).1 333 6))) = _; rw [show (σ1).1 333 6 = tk k from rd.2.2.2.2.2.2.2.1]) ?_
      refine z_bipush dX1_readName_22 (by decide +kernel) ?_
      refine z_icmp_eq (tgt := 44) dX1_readName_24 (by decide) (kt_r K hk) (by unfold inR at *; omega) (fun c_19 => ?_) (fun c_19 => ?_)
      · refine z_iconst dX1_readName_44 ?_
        refine q_goto (tgt := 49) dX1_readName_45 (by decide) ?_
        refine q_istore_n dX1_readName_49 rfl (by decide) ?_
        show sE g_tt _ _ _ 50 [some (.ref 333), some (.int (iZ 1)), none] [] σ1
        refine q_aload_n dX1_readName_50 rfl rfl ?_
        refine sg1 (kf := 6) (v := .int (iZ (tk k))) dX1_readName_51 flX1_25 (show kd 333 = 1 from rfl) (by decide) (by show some (Value.int (iZ ((σ1).1 333 6))) = _; rw [show (σ1).1 333 6 = tk k from rd.2.2.2.2.2.2.2.1]) ?_
        refine z_bipush dX1_readName_54 (by decide +kernel) ?_
        refine z_icmp_eq (tgt := 68) dX1_readName_56 (by decide) (kt_r K hk) (by unfold inR at *; omega) (fun c_20 => ?_) (fun c_20 => ?_)
        · refine z_iconst dX1_readName_68 ?_
          refine q_goto (tgt := 73) dX1_readName_69 (by decide) ?_
          refine q_istore_n dX1_readName_73 rfl (by decide) ?_
          show sE g_tt _ _ _ 74 [some (.ref 333), some (.int (iZ 1)), some (.int (iZ 1))] [] σ1
          refine q_iload_n dX1_readName_74 rfl rfl ?_
          refine z_if_ne (tgt := 99) dX1_readName_75 (by decide) (by unfold inR at *; omega) (fun c_21 => ?_) (fun c_21 => ?_)
          · refine q_iload_n dX1_readName_99 rfl rfl ?_
            refine z_if_ne (tgt := 119) dX1_readName_100 (by decide) (by unfold inR at *; omega) (fun c_22 => ?_) (fun c_22 => ?_)
            · refine q_aload_n dX1_readName_119 rfl rfl ?_
              refine sg1 (kf := 3) (v := .ref x) dX1_readName_120 flX1_32 (show kd 333 = 1 from rfl) (by decide) (by show some (va_rf ((σ1).2.2.2.2 333 3)) = _; rw [show (σ1).2.2.2.2 333 3 = some x from rd.2.2.1]; rfl) ?_
              refine q_aload_n dX1_readName_123 rfl rfl ?_
              refine sg1 (kf := 6) (v := .int (iZ (tk k))) dX1_readName_124 flX1_25 (show kd 333 = 1 from rfl) (by decide) (by show some (Value.int (iZ ((σ1).1 333 6))) = _; rw [show (σ1).1 333 6 = tk k from rd.2.2.2.2.2.2.2.1]) ?_
              refine z_iconst dX1_readName_127 ?_
              refine s_callV (ci := 4) (a := x) (As := [.int (iZ (tk k)), .int (iZ 0)]) (S := []) dX1_readName_128 okX4_emit mlX1_107 rfl (by omega) rfl (Nat.le_of_ble_eq_true rfl) K.1 (by decide) rfl (x_emit (d := d - 1) (op := tk k) (v := 0) K rd ok) (fun v_ σ_ hq => ?_)
              obtain ⟨rfl, rd2⟩ := hq
              rename gS => σ2
              show sE g_tt _ _ _ 131 [some (.ref 333), some (.int (iZ 1)), some (.int (iZ 1))] [.int (iZ (if l < 300 then (l : Int) else -1))] σ2
              refine q_pop dX1_readName_131 rfl ?_
              refine q_aload_n dX1_readName_132 rfl rfl ?_
              refine s_callV (ci := 1) (a := 333) (As := []) (S := []) dX1_readName_133 okX1_advance mlX1_56 rfl (by omega) rfl (Nat.le_of_ble_eq_true rfl) (show kd 333 = 1 from rfl) (by decide) rfl (x_advance (d := d - 1) K rd2 (k_lt K hk (show tk k ≠ 39 by omega))) (fun v_ σ_ hq => ?_)
              obtain ⟨rfl, rd3⟩ := hq
              rename gS => σ3
              show sE g_tt _ _ _ 136 [some (.ref 333), some (.int (iZ 1)), some (.int (iZ 1))] [] σ3
              exact s_vret dX1_readName_136 rfl ⟨rfl, _, rd3, by rw [nmR_ok (by omega)]; exact (rdQ_leaf (B := (f, pl, k, l, far, C)) (by omega) (by omega) (nm_t (by omega)) (by omega) (by omega) ok hn (k_lt K hk (show tk k ≠ 39 by omega)) h0 (by omega)).1⟩
            · exfalso
              revert c_22
              decide
          · exfalso
            revert c_21
            decide
        · refine q_aload_n dX1_readName_59 rfl rfl ?_
          refine sg1 (kf := 6) (v := .int (iZ (tk k))) dX1_readName_60 flX1_25 (show kd 333 = 1 from rfl) (by decide) (by show some (Value.int (iZ ((σ1).1 333 6))) = _; rw [show (σ1).1 333 6 = tk k from rd.2.2.2.2.2.2.2.1]) ?_
          refine z_bipush dX1_readName_63 (by decide +kernel) ?_
          refine z_icmp_ne (tgt := 72) dX1_readName_65 (by decide) (kt_r K hk) (by unfold inR at *; omega) (fun c_23 => ?_) (fun c_23 => ?_)
          · refine z_iconst dX1_readName_72 ?_
            refine q_istore_n dX1_readName_73 rfl (by decide) ?_
            show sE g_tt _ _ _ 74 [some (.ref 333), some (.int (iZ 1)), some (.int (iZ 0))] [] σ1
            refine q_iload_n dX1_readName_74 rfl rfl ?_
            refine z_if_ne (tgt := 99) dX1_readName_75 (by decide) (by unfold inR at *; omega) (fun c_24 => ?_) (fun c_24 => ?_)
            · refine q_iload_n dX1_readName_99 rfl rfl ?_
              refine z_if_ne (tgt := 119) dX1_readName_100 (by decide) (by unfold inR at *; omega) (fun c_25 => ?_) (fun c_25 => ?_)
              · refine q_aload_n dX1_readName_119 rfl rfl ?_
                refine sg1 (kf := 3) (v := .ref x) dX1_readName_120 flX1_32 (show kd 333 = 1 from rfl) (by decide) (by show some (va_rf ((σ1).2.2.2.2 333 3)) = _; rw [show (σ1).2.2.2.2 333 3 = some x from rd.2.2.1]; rfl) ?_
                refine q_aload_n dX1_readName_123 rfl rfl ?_
                refine sg1 (kf := 6) (v := .int (iZ (tk k))) dX1_readName_124 flX1_25 (show kd 333 = 1 from rfl) (by decide) (by show some (Value.int (iZ ((σ1).1 333 6))) = _; rw [show (σ1).1 333 6 = tk k from rd.2.2.2.2.2.2.2.1]) ?_
                refine z_iconst dX1_readName_127 ?_
                refine s_callV (ci := 4) (a := x) (As := [.int (iZ (tk k)), .int (iZ 0)]) (S := []) dX1_readName_128 okX4_emit mlX1_107 rfl (by omega) rfl (Nat.le_of_ble_eq_true rfl) K.1 (by decide) rfl (x_emit (d := d - 1) (op := tk k) (v := 0) K rd ok) (fun v_ σ_ hq => ?_)
                obtain ⟨rfl, rd2⟩ := hq
                rename gS => σ2
                show sE g_tt _ _ _ 131 [some (.ref 333), some (.int (iZ 1)), some (.int (iZ 0))] [.int (iZ (if l < 300 then (l : Int) else -1))] σ2
                refine q_pop dX1_readName_131 rfl ?_
                refine q_aload_n dX1_readName_132 rfl rfl ?_
                refine s_callV (ci := 1) (a := 333) (As := []) (S := []) dX1_readName_133 okX1_advance mlX1_56 rfl (by omega) rfl (Nat.le_of_ble_eq_true rfl) (show kd 333 = 1 from rfl) (by decide) rfl (x_advance (d := d - 1) K rd2 (k_lt K hk (show tk k ≠ 39 by omega))) (fun v_ σ_ hq => ?_)
                obtain ⟨rfl, rd3⟩ := hq
                rename gS => σ3
                show sE g_tt _ _ _ 136 [some (.ref 333), some (.int (iZ 1)), some (.int (iZ 0))] [] σ3
                exact s_vret dX1_readName_136 rfl ⟨rfl, _, rd3, by rw [nmR_ok (by omega)]; exact (rdQ_leaf (B := (f, pl, k, l, far, C)) (by omega) (by omega) (nm_t (by omega)) (by omega) (by omega) ok hn (k_lt K hk (show tk k ≠ 39 by omega)) h0 (by omega)).1⟩
              · exfalso
                revert c_25
                decide
            · exfalso
              revert c_24
              decide
          · refine z_iconst dX1_readName_68 ?_
            refine q_goto (tgt := 73) dX1_readName_69 (by decide) ?_
            refine q_istore_n dX1_readName_73 rfl (by decide) ?_
            show sE g_tt _ _ _ 74 [some (.ref 333), some (.int (iZ 1)), some (.int (iZ 1))] [] σ1
            refine q_iload_n dX1_readName_74 rfl rfl ?_
            refine z_if_ne (tgt := 99) dX1_readName_75 (by decide) (by unfold inR at *; omega) (fun c_26 => ?_) (fun c_26 => ?_)
            · refine q_iload_n dX1_readName_99 rfl rfl ?_
              refine z_if_ne (tgt := 119) dX1_readName_100 (by decide) (by unfold inR at *; omega) (fun c_27 => ?_) (fun c_27 => ?_)
              · refine q_aload_n dX1_readName_119 rfl rfl ?_
                refine sg1 (kf := 3) (v := .ref x) dX1_readName_120 flX1_32 (show kd 333 = 1 from rfl) (by decide) (by show some (va_rf ((σ1).2.2.2.2 333 3)) = _; rw [show (σ1).2.2.2.2 333 3 = some x from rd.2.2.1]; rfl) ?_
                refine q_aload_n dX1_readName_123 rfl rfl ?_
                refine sg1 (kf := 6) (v := .int (iZ (tk k))) dX1_readName_124 flX1_25 (show kd 333 = 1 from rfl) (by decide) (by show some (Value.int (iZ ((σ1).1 333 6))) = _; rw [show (σ1).1 333 6 = tk k from rd.2.2.2.2.2.2.2.1]) ?_
                refine z_iconst dX1_readName_127 ?_
                refine s_callV (ci := 4) (a := x) (As := [.int (iZ (tk k)), .int (iZ 0)]) (S := []) dX1_readName_128 okX4_emit mlX1_107 rfl (by omega) rfl (Nat.le_of_ble_eq_true rfl) K.1 (by decide) rfl (x_emit (d := d - 1) (op := tk k) (v := 0) K rd ok) (fun v_ σ_ hq => ?_)
                obtain ⟨rfl, rd2⟩ := hq
                rename gS => σ2
                show sE g_tt _ _ _ 131 [some (.ref 333), some (.int (iZ 1)), some (.int (iZ 1))] [.int (iZ (if l < 300 then (l : Int) else -1))] σ2
                refine q_pop dX1_readName_131 rfl ?_
                refine q_aload_n dX1_readName_132 rfl rfl ?_
                refine s_callV (ci := 1) (a := 333) (As := []) (S := []) dX1_readName_133 okX1_advance mlX1_56 rfl (by omega) rfl (Nat.le_of_ble_eq_true rfl) (show kd 333 = 1 from rfl) (by decide) rfl (x_advance (d := d - 1) K rd2 (k_lt K hk (show tk k ≠ 39 by omega))) (fun v_ σ_ hq => ?_)
                obtain ⟨rfl, rd3⟩ := hq
                rename gS => σ3
                show sE g_tt _ _ _ 136 [some (.ref 333), some (.int (iZ 1)), some (.int (iZ 1))] [] σ3
                exact s_vret dX1_readName_136 rfl ⟨rfl, _, rd3, by rw [nmR_ok (by omega)]; exact (rdQ_leaf (B := (f, pl, k, l, far, C)) (by omega) (by omega) (nm_t (by omega)) (by omega) (by omega) ok hn (k_lt K hk (show tk k ≠ 39 by omega)) h0 (by omega)).1⟩
              · exfalso
                revert c_27
                decide
            · exfalso
              revert c_26
              decide
      · refine q_aload_n dX1_readName_27 rfl rfl ?_
        refine sg1 (kf := 6) (v := .int (iZ (tk k))) dX1_readName_28 flX1_25 (show kd 333 = 1 from rfl) (by decide) (by show some (Value.int (iZ ((σ1).1 333 6))) = _; rw [show (σ1).1 333 6 = tk k from rd.2.2.2.2.2.2.2.1]) ?_
        refine z_iconst dX1_readName_31 ?_
        refine z_icmp_eq (tgt := 44) dX1_readName_32 (by decide) (kt_r K hk) (by unfold inR at *; omega) (fun c_28 => ?_) (fun c_28 => ?_)
        · refine z_iconst dX1_readName_44 ?_
          refine q_goto (tgt := 49) dX1_readName_45 (by decide) ?_
          refine q_istore_n dX1_readName_49 rfl (by decide) ?_
          show sE g_tt _ _ _ 50 [some (.ref 333), some (.int (iZ 1)), none] [] σ1
          refine q_aload_n dX1_readName_50 rfl rfl ?_
          refine sg1 (kf := 6) (v := .int (iZ (tk k))) dX1_readName_51 flX1_25 (show kd 333 = 1 from rfl) (by decide) (by show some (Value.int (iZ ((σ1).1 333 6))) = _; rw [show (σ1).1 333 6 = tk k from rd.2.2.2.2.2.2.2.1]) ?_
          refine z_bipush dX1_readName_54 (by decide +kernel) ?_
          refine z_icmp_eq (tgt := 68) dX1_readName_56 (by decide) (kt_r K hk) (by unfold inR at *; omega) (fun c_29 => ?_) (fun c_29 => ?_)
          · refine z_iconst dX1_readName_68 ?_
            refine q_goto (tgt := 73) dX1_readName_69 (by decide) ?_
            refine q_istore_n dX1_readName_73 rfl (by decide) ?_
            show sE g_tt _ _ _ 74 [some (.ref 333), some (.int (iZ 1)), some (.int (iZ 1))] [] σ1
            refine q_iload_n dX1_readName_74 rfl rfl ?_
            refine z_if_ne (tgt := 99) dX1_readName_75 (by decide) (by unfold inR at *; omega) (fun c_30 => ?_) (fun c_30 => ?_)
            · refine q_iload_n dX1_readName_99 rfl rfl ?_
              refine z_if_ne (tgt := 119) dX1_readName_100 (by decide) (by unfold inR at *; omega) (fun c_31 => ?_) (fun c_31 => ?_)
              · refine q_aload_n dX1_readName_119 rfl rfl ?_
                refine sg1 (kf := 3) (v := .ref x) dX1_readName_120 flX1_32 (show kd 333 = 1 from rfl) (by decide) (by show some (va_rf ((σ1).2.2.2.2 333 3)) = _; rw [show (σ1).2.2.2.2 333 3 = some x from rd.2.2.1]; rfl) ?_
                refine q_aload_n dX1_readName_123 rfl rfl ?_
                refine sg1 (kf := 6) (v := .int (iZ (tk k))) dX1_readName_124 flX1_25 (show kd 333 = 1 from rfl) (by decide) (by show some (Value.int (iZ ((σ1).1 333 6))) = _; rw [show (σ1).1 333 6 = tk k from rd.2.2.2.2.2.2.2.1]) ?_
                refine z_iconst dX1_readName_127 ?_
                refine s_callV (ci := 4) (a := x) (As := [.int (iZ (tk k)), .int (iZ 0)]) (S := []) dX1_readName_128 okX4_emit mlX1_107 rfl (by omega) rfl (Nat.le_of_ble_eq_true rfl) K.1 (by decide) rfl (x_emit (d := d - 1) (op := tk k) (v := 0) K rd ok) (fun v_ σ_ hq => ?_)
                obtain ⟨rfl, rd2⟩ := hq
                rename gS => σ2
                show sE g_tt _ _ _ 131 [some (.ref 333), some (.int (iZ 1)), some (.int (iZ 1))] [.int (iZ (if l < 300 then (l : Int) else -1))] σ2
                refine q_pop dX1_readName_131 rfl ?_
                refine q_aload_n dX1_readName_132 rfl rfl ?_
                refine s_callV (ci := 1) (a := 333) (As := []) (S := []) dX1_readName_133 okX1_advance mlX1_56 rfl (by omega) rfl (Nat.le_of_ble_eq_true rfl) (show kd 333 = 1 from rfl) (by decide) rfl (x_advance (d := d - 1) K rd2 (k_lt K hk (show tk k ≠ 39 by omega))) (fun v_ σ_ hq => ?_)
                obtain ⟨rfl, rd3⟩ := hq
                rename gS => σ3
                show sE g_tt _ _ _ 136 [some (.ref 333), some (.int (iZ 1)), some (.int (iZ 1))] [] σ3
                exact s_vret dX1_readName_136 rfl ⟨rfl, _, rd3, by rw [nmR_ok (by omega)]; exact (rdQ_leaf (B := (f, pl, k, l, far, C)) (by omega) (by omega) (nm_t (by omega)) (by omega) (by omega) ok hn (k_lt K hk (show tk k ≠ 39 by omega)) h0 (by omega)).1⟩
              · exfalso
                revert c_31
                decide
            · exfalso
              revert c_30
              decide
          · refine q_aload_n dX1_readName_59 rfl rfl ?_
            refine sg1 (kf := 6) (v := .int (iZ (tk k))) dX1_readName_60 flX1_25 (show kd 333 = 1 from rfl) (by decide) (by show some (Value.int (iZ ((σ1).1 333 6))) = _; rw [show (σ1).1 333 6 = tk k from rd.2.2.2.2.2.2.2.1]) ?_
            refine z_bipush dX1_readName_63 (by decide +kernel) ?_
            refine z_icmp_ne (tgt := 72) dX1_readName_65 (by decide) (kt_r K hk) (by unfold inR at *; omega) (fun c_32 => ?_) (fun c_32 => ?_)
            · refine z_iconst dX1_readName_72 ?_
              refine q_istore_n dX1_readName_73 rfl (by decide) ?_
              show sE g_tt _ _ _ 74 [some (.ref 333), some (.int (iZ 1)), some (.int (iZ 0))] [] σ1
              refine q_iload_n dX1_readName_74 rfl rfl ?_
              refine z_if_ne (tgt := 99) dX1_readName_75 (by decide) (by unfold inR at *; omega) (fun c_33 => ?_) (fun c_33 => ?_)
              · refine q_iload_n dX1_readName_99 rfl rfl ?_
                refine z_if_ne (tgt := 119) dX1_readName_100 (by decide) (by unfold inR at *; omega) (fun c_34 => ?_) (fun c_34 => ?_)
                · refine q_aload_n dX1_readName_119 rfl rfl ?_
                  refine sg1 (kf := 3) (v := .ref x) dX1_readName_120 flX1_32 (show kd 333 = 1 from rfl) (by decide) (by show some (va_rf ((σ1).2.2.2.2 333 3)) = _; rw [show (σ1).2.2.2.2 333 3 = some x from rd.2.2.1]; rfl) ?_
                  refine q_aload_n dX1_readName_123 rfl rfl ?_
                  refine sg1 (kf := 6) (v := .int (iZ (tk k))) dX1_readName_124 flX1_25 (show kd 333 = 1 from rfl) (by decide) (by show some (Value.int (iZ ((σ1).1 333 6))) = _; rw [show (σ1).1 333 6 = tk k from rd.2.2.2.2.2.2.2.1]) ?_
                  refine z_iconst dX1_readName_127 ?_
                  refine s_callV (ci := 4) (a := x) (As := [.int (iZ (tk k)), .int (iZ 0)]) (S := []) dX1_readName_128 okX4_emit mlX1_107 rfl (by omega) rfl (Nat.le_of_ble_eq_true rfl) K.1 (by decide) rfl (x_emit (d := d - 1) (op := tk k) (v := 0) K rd ok) (fun v_ σ_ hq => ?_)
                  obtain ⟨rfl, rd2⟩ := hq
                  rename gS => σ2
                  show sE g_tt _ _ _ 131 [some (.ref 333), some (.int (iZ 1)), some (.int (iZ 0))] [.int (iZ (if l < 300 then (l : Int) else -1))] σ2
                  refine q_pop dX1_readName_131 rfl ?_
                  refine q_aload_n dX1_readName_132 rfl rfl ?_
                  refine s_callV (ci := 1) (a := 333) (As := []) (S := []) dX1_readName_133 okX1_advance mlX1_56 rfl (by omega) rfl (Nat.le_of_ble_eq_true rfl) (show kd 333 = 1 from rfl) (by decide) rfl (x_advance (d := d - 1) K rd2 (k_lt K hk (show tk k ≠ 39 by omega))) (fun v_ σ_ hq => ?_)
                  obtain ⟨rfl, rd3⟩ := hq
                  rename gS => σ3
                  show sE g_tt _ _ _ 136 [some (.ref 333), some (.int (iZ 1)), some (.int (iZ 0))] [] σ3
                  exact s_vret dX1_readName_136 rfl ⟨rfl, _, rd3, by rw [nmR_ok (by omega)]; exact (rdQ_leaf (B := (f, pl, k, l, far, C)) (by omega) (by omega) (nm_t (by omega)) (by omega) (by omega) ok hn (k_lt K hk (show tk k ≠ 39 by omega)) h0 (by omega)).1⟩
                · exfalso
                  revert c_34
                  decide
              · exfalso
                revert c_33
                decide
            · refine z_iconst dX1_readName_68 ?_
              refine q_goto (tgt := 73) dX1_readName_69 (by decide) ?_
              refine q_istore_n dX1_readName_73 rfl (by decide) ?_
              show sE g_tt _ _ _ 74 [some (.ref 333), some (.int (iZ 1)), some (.int (iZ 1))] [] σ1
              refine q_iload_n dX1_readName_74 rfl rfl ?_
              refine z_if_ne (tgt := 99) dX1_readName_75 (by decide) (by unfold inR at *; omega) (fun c_35 => ?_) (fun c_35 => ?_)
              · refine q_iload_n dX1_readName_99 rfl rfl ?_
                refine z_if_ne (tgt := 119) dX1_readName_100 (by decide) (by unfold inR at *; omega) (fun c_36 => ?_) (fun c_36 => ?_)
                · refine q_aload_n dX1_readName_119 rfl rfl ?_
                  refine sg1 (kf := 3) (v := .ref x) dX1_readName_120 flX1_32 (show kd 333 = 1 from rfl) (by decide) (by show some (va_rf ((σ1).2.2.2.2 333 3)) = _; rw [show (σ1).2.2.2.2 333 3 = some x from rd.2.2.1]; rfl) ?_
                  refine q_aload_n dX1_readName_123 rfl rfl ?_
                  refine sg1 (kf := 6) (v := .int (iZ (tk k))) dX1_readName_124 flX1_25 (show kd 333 = 1 from rfl) (by decide) (by show some (Value.int (iZ ((σ1).1 333 6))) = _; rw [show (σ1).1 333 6 = tk k from rd.2.2.2.2.2.2.2.1]) ?_
                  refine z_iconst dX1_readName_127 ?_
                  refine s_callV (ci := 4) (a := x) (As := [.int (iZ (tk k)), .int (iZ 0)]) (S := []) dX1_readName_128 okX4_emit mlX1_107 rfl (by omega) rfl (Nat.le_of_ble_eq_true rfl) K.1 (by decide) rfl (x_emit (d := d - 1) (op := tk k) (v := 0) K rd ok) (fun v_ σ_ hq => ?_)
                  obtain ⟨rfl, rd2⟩ := hq
                  rename gS => σ2
                  show sE g_tt _ _ _ 131 [some (.ref 333), some (.int (iZ 1)), some (.int (iZ 1))] [.int (iZ (if l < 300 then (l : Int) else -1))] σ2
                  refine q_pop dX1_readName_131 rfl ?_
                  refine q_aload_n dX1_readName_132 rfl rfl ?_
                  refine s_callV (ci := 1) (a := 333) (As := []) (S := []) dX1_readName_133 okX1_advance mlX1_56 rfl (by omega) rfl (Nat.le_of_ble_eq_true rfl) (show kd 333 = 1 from rfl) (by decide) rfl (x_advance (d := d - 1) K rd2 (k_lt K hk (show tk k ≠ 39 by omega))) (fun v_ σ_ hq => ?_)
                  obtain ⟨rfl, rd3⟩ := hq
                  rename gS => σ3
                  show sE g_tt _ _ _ 136 [some (.ref 333), some (.int (iZ 1)), some (.int (iZ 1))] [] σ3
                  exact s_vret dX1_readName_136 rfl ⟨rfl, _, rd3, by rw [nmR_ok (by omega)]; exact (rdQ_leaf (B := (f, pl, k, l, far, C)) (by omega) (by omega) (nm_t (by omega)) (by omega) (by omega) ok hn (k_lt K hk (show tk k ≠ 39 by omega)) h0 (by omega)).1⟩
                · exfalso
                  revert c_36
                  decide
              · exfalso
                revert c_35
                decide
        · refine q_aload_n dX1_readName_35 rfl rfl ?_
          refine sg1 (kf := 6) (v := .int (iZ (tk k))) dX1_readName_36 flX1_25 (show kd 333 = 1 from rfl) (by decide) (by show some (Value.int (iZ ((σ1).1 333 6))) = _; rw [show (σ1).1 333 6 = tk k from rd.2.2.2.2.2.2.2.1]) ?_
          refine z_bipush dX1_readName_39 (by decide +kernel) ?_
          refine z_icmp_ne (tgt := 48) dX1_readName_41 (by decide) (kt_r K hk) (by unfold inR at *; omega) (fun c_37 => ?_) (fun c_37 => ?_)
          · refine z_iconst dX1_readName_48 ?_
            refine q_istore_n dX1_readName_49 rfl (by decide) ?_
            show sE g_tt _ _ _ 50 [some (.ref 333), some (.int (iZ 0)), none] [] σ1
            refine q_aload_n dX1_readName_50 rfl rfl ?_
            refine sg1 (kf := 6) (v := .int (iZ (tk k))) dX1_readName_51 flX1_25 (show kd 333 = 1 from rfl) (by decide) (by show some (Value.int (iZ ((σ1).1 333 6))) = _; rw [show (σ1).1 333 6 = tk k from rd.2.2.2.2.2.2.2.1]) ?_
            refine z_bipush dX1_readName_54 (by decide +kernel) ?_
            refine z_icmp_eq (tgt := 68) dX1_readName_56 (by decide) (kt_r K hk) (by unfold inR at *; omega) (fun c_38 => ?_) (fun c_38 => ?_)
            · refine z_iconst dX1_readName_68 ?_
              refine q_goto (tgt := 73) dX1_readName_69 (by decide) ?_
              refine q_istore_n dX1_readName_73 rfl (by decide) ?_
              show sE g_tt _ _ _ 74 [some (.ref 333), some (.int (iZ 0)), some (.int (iZ 1))] [] σ1
              refine q_iload_n dX1_readName_74 rfl rfl ?_
              refine z_if_ne (tgt := 99) dX1_readName_75 (by decide) (by unfold inR at *; omega) (fun c_39 => ?_) (fun c_39 => ?_)
              · exfalso
                revert c_39
                decide
              · refine q_iload_n dX1_readName_78 rfl rfl ?_
                refine z_if_ne (tgt := 99) dX1_readName_79 (by decide) (by unfold inR at *; omega) (fun c_40 => ?_) (fun c_40 => ?_)
                · refine q_iload_n dX1_readName_99 rfl rfl ?_
                  refine z_if_ne (tgt := 119) dX1_readName_100 (by decide) (by unfold inR at *; omega) (fun c_41 => ?_) (fun c_41 => ?_)
                  · exfalso
                    revert c_41
                    decide
                  · refine q_iload_n dX1_readName_103 rfl rfl ?_
                    refine q_aload_n dX1_readName_104 rfl rfl ?_
                    refine sg1 (kf := 4) (v := .int (iZ so)) dX1_readName_105 flX1_18 (show kd 333 = 1 from rfl) (by decide) (by show some (Value.int (iZ ((σ1).1 333 4))) = _; rw [show (σ1).1 333 4 = so from rd.2.2.2.2.2.1]) ?_
                    refine z_icmp_eq (tgt := 119) dX1_readName_108 (by decide) (by unfold inR at *; omega) (by unfold inR at *; omega) (fun c_42 => ?_) (fun c_42 => ?_)
                    · refine q_aload_n dX1_readName_119 rfl rfl ?_
                      refine sg1 (kf := 3) (v := .ref x) dX1_readName_120 flX1_32 (show kd 333 = 1 from rfl) (by decide) (by show some (va_rf ((σ1).2.2.2.2 333 3)) = _; rw [show (σ1).2.2.2.2 333 3 = some x from rd.2.2.1]; rfl) ?_
                      refine q_aload_n dX1_readName_123 rfl rfl ?_
                      refine sg1 (kf := 6) (v := .int (iZ (tk k))) dX1_readName_124 flX1_25 (show kd 333 = 1 from rfl) (by decide) (by show some (Value.int (iZ ((σ1).1 333 6))) = _; rw [show (σ1).1 333 6 = tk k from rd.2.2.2.2.2.2.2.1]) ?_
                      refine z_iconst dX1_readName_127 ?_
                      refine s_callV (ci := 4) (a := x) (As := [.int (iZ (tk k)), .int (iZ 0)]) (S := []) dX1_readName_128 okX4_emit mlX1_107 rfl (by omega) rfl (Nat.le_of_ble_eq_true rfl) K.1 (by decide) rfl (x_emit (d := d - 1) (op := tk k) (v := 0) K rd ok) (fun v_ σ_ hq => ?_)
                      obtain ⟨rfl, rd2⟩ := hq
                      rename gS => σ2
                      show sE g_tt _ _ _ 131 [some (.ref 333), some (.int (iZ 0)), some (.int (iZ 1))] [.int (iZ (if l < 300 then (l : Int) else -1))] σ2
                      refine q_pop dX1_readName_131 rfl ?_
                      refine q_aload_n dX1_readName_132 rfl rfl ?_
                      refine s_callV (ci := 1) (a := 333) (As := []) (S := []) dX1_readName_133 okX1_advance mlX1_56 rfl (by omega) rfl (Nat.le_of_ble_eq_true rfl) (show kd 333 = 1 from rfl) (by decide) rfl (x_advance (d := d - 1) K rd2 (k_lt K hk (show tk k ≠ 39 by omega))) (fun v_ σ_ hq => ?_)
                      obtain ⟨rfl, rd3⟩ := hq
                      rename gS => σ3
                      show sE g_tt _ _ _ 136 [some (.ref 333), some (.int (iZ 0)), some (.int (iZ 1))] [] σ3
                      exact s_vret dX1_readName_136 rfl ⟨rfl, _, rd3, by rw [nmR_ok (by omega)]; exact (rdQ_leaf (B := (f, pl, k, l, far, C)) (by omega) (by omega) (nm_t (by omega)) (by omega) (by omega) ok hn (k_lt K hk (show tk k ≠ 39 by omega)) h0 (by omega)).1⟩
                    · refine q_aload_n dX1_readName_111 rfl rfl ?_
                      refine z_iconst dX1_readName_112 ?_
                      refine s_callV (ci := 1) (a := 333) (As := [.int (iZ 5)]) (S := []) dX1_readName_113 okX1_fail mlX1_59 rfl (by omega) rfl (Nat.le_of_ble_eq_true rfl) (show kd 333 = 1 from rfl) (by decide) rfl (x_fail (d := d - 1) (c := 5) K rd ok) (fun v_ σ_ hq => ?_)
                      obtain ⟨rfl, rd2⟩ := hq
                      rename gS => σ2
                      show sE g_tt _ _ _ 116 [some (.ref 333), some (.int (iZ 0)), some (.int (iZ 1))] [] σ2
                      refine q_goto (tgt := 136) dX1_readName_116 (by decide) ?_
                      exact s_vret dX1_readName_136 rfl ⟨rfl, _, rd2, by rw [nmR_5 (by omega)]; exact rdQ_fail (B := (f, pl, k, l, far, C)) (by omega) ok⟩
                · exfalso
                  revert c_40
                  decide
            · refine q_aload_n dX1_readName_59 rfl rfl ?_
              refine sg1 (kf := 6) (v := .int (iZ (tk k))) dX1_readName_60 flX1_25 (show kd 333 = 1 from rfl) (by decide) (by show some (Value.int (iZ ((σ1).1 333 6))) = _; rw [show (σ1).1 333 6 = tk k from rd.2.2.2.2.2.2.2.1]) ?_
              refine z_bipush dX1_readName_63 (by decide +kernel) ?_
              refine z_icmp_ne (tgt := 72) dX1_readName_65 (by decide) (kt_r K hk) (by unfold inR at *; omega) (fun c_43 => ?_) (fun c_43 => ?_)
              · refine z_iconst dX1_readName_72 ?_
                refine q_istore_n dX1_readName_73 rfl (by decide) ?_
                show sE g_tt _ _ _ 74 [some (.ref 333), some (.int (iZ 0)), some (.int (iZ 0))] [] σ1
                refine q_iload_n dX1_readName_74 rfl rfl ?_
                refine z_if_ne (tgt := 99) dX1_readName_75 (by decide) (by unfold inR at *; omega) (fun c_44 => ?_) (fun c_44 => ?_)
                · exfalso
                  revert c_44
                  decide
                · refine q_iload_n dX1_readName_78 rfl rfl ?_
                  refine z_if_ne (tgt := 99) dX1_readName_79 (by decide) (by unfold inR at *; omega) (fun c_45 => ?_) (fun c_45 => ?_)
                  · exfalso
                    revert c_45
                    decide
                  · refine q_aload_n dX1_readName_82 rfl rfl ?_
                    refine sg1 (kf := 6) (v := .int (iZ (tk k))) dX1_readName_83 flX1_25 (show kd 333 = 1 from rfl) (by decide) (by show some (Value.int (iZ ((σ1).1 333 6))) = _; rw [show (σ1).1 333 6 = tk k from rd.2.2.2.2.2.2.2.1]) ?_
                    refine z_bipush dX1_readName_86 (by decide +kernel) ?_
                    refine z_icmp_eq (tgt := 99) dX1_readName_88 (by decide) (kt_r K hk) (by unfold inR at *; omega) (fun c_46 => ?_) (fun c_46 => ?_)
                    · refine q_iload_n dX1_readName_99 rfl rfl ?_
                      refine z_if_ne (tgt := 119) dX1_readName_100 (by decide) (by unfold inR at *; omega) (fun c_47 => ?_) (fun c_47 => ?_)
                      · exfalso
                        revert c_47
                        decide
                      · refine q_iload_n dX1_readName_103 rfl rfl ?_
                        refine q_aload_n dX1_readName_104 rfl rfl ?_
                        refine sg1 (kf := 4) (v := .int (iZ so)) dX1_readName_105 flX1_18 (show kd 333 = 1 from rfl) (by decide) (by show some (Value.int (iZ ((σ1).1 333 4))) = _; rw [show (σ1).1 333 4 = so from rd.2.2.2.2.2.1]) ?_
                        refine z_icmp_eq (tgt := 119) dX1_readName_108 (by decide) (by unfold inR at *; omega) (by unfold inR at *; omega) (fun c_48 => ?_) (fun c_48 => ?_)
                        · refine q_aload_n dX1_readName_119 rfl rfl ?_
                          refine sg1 (kf := 3) (v := .ref x) dX1_readName_120 flX1_32 (show kd 333 = 1 from rfl) (by decide) (by show some (va_rf ((σ1).2.2.2.2 333 3)) = _; rw [show (σ1).2.2.2.2 333 3 = some x from rd.2.2.1]; rfl) ?_
                          refine q_aload_n dX1_readName_123 rfl rfl ?_
                          refine sg1 (kf := 6) (v := .int (iZ (tk k))) dX1_readName_124 flX1_25 (show kd 333 = 1 from rfl) (by decide) (by show some (Value.int (iZ ((σ1).1 333 6))) = _; rw [show (σ1).1 333 6 = tk k from rd.2.2.2.2.2.2.2.1]) ?_
                          refine z_iconst dX1_readName_127 ?_
                          refine s_callV (ci := 4) (a := x) (As := [.int (iZ (tk k)), .int (iZ 0)]) (S := []) dX1_readName_128 okX4_emit mlX1_107 rfl (by omega) rfl (Nat.le_of_ble_eq_true rfl) K.1 (by decide) rfl (x_emit (d := d - 1) (op := tk k) (v := 0) K rd ok) (fun v_ σ_ hq => ?_)
                          obtain ⟨rfl, rd2⟩ := hq
                          rename gS => σ2
                          show sE g_tt _ _ _ 131 [some (.ref 333), some (.int (iZ 0)), some (.int (iZ 0))] [.int (iZ (if l < 300 then (l : Int) else -1))] σ2
                          refine q_pop dX1_readName_131 rfl ?_
                          refine q_aload_n dX1_readName_132 rfl rfl ?_
                          refine s_callV (ci := 1) (a := 333) (As := []) (S := []) dX1_readName_133 okX1_advance mlX1_56 rfl (by omega) rfl (Nat.le_of_ble_eq_true rfl) (show kd 333 = 1 from rfl) (by decide) rfl (x_advance (d := d - 1) K rd2 (k_lt K hk (show tk k ≠ 39 by omega))) (fun v_ σ_ hq => ?_)
                          obtain ⟨rfl, rd3⟩ := hq
                          rename gS => σ3
                          show sE g_tt _ _ _ 136 [some (.ref 333), some (.int (iZ 0)), some (.int (iZ 0))] [] σ3
                          exact s_vret dX1_readName_136 rfl ⟨rfl, _, rd3, by rw [nmR_ok (by omega)]; exact (rdQ_leaf (B := (f, pl, k, l, far, C)) (by omega) (by omega) (nm_t (by omega)) (by omega) (by omega) ok hn (k_lt K hk (show tk k ≠ 39 by omega)) h0 (by omega)).1⟩
                        · refine q_aload_n dX1_readName_111 rfl rfl ?_
                          refine z_iconst dX1_readName_112 ?_
                          refine s_callV (ci := 1) (a := 333) (As := [.int (iZ 5)]) (S := []) dX1_readName_113 okX1_fail mlX1_59 rfl (by omega) rfl (Nat.le_of_ble_eq_true rfl) (show kd 333 = 1 from rfl) (by decide) rfl (x_fail (d := d - 1) (c := 5) K rd ok) (fun v_ σ_ hq => ?_)
                          obtain ⟨rfl, rd2⟩ := hq
                          rename gS => σ2
                          show sE g_tt _ _ _ 116 [some (.ref 333), some (.int (iZ 0)), some (.int (iZ 0))] [] σ2
                          refine q_goto (tgt := 136) dX1_readName_116 (by decide) ?_
                          exact s_vret dX1_readName_136 rfl ⟨rfl, _, rd2, by rw [nmR_5 (by omega)]; exact rdQ_fail (B := (f, pl, k, l, far, C)) (by omega) ok⟩
                    · refine q_aload_n dX1_readName_91 rfl rfl ?_
                      refine z_iconst dX1_readName_92 ?_
                      refine s_callV (ci := 1) (a := 333) (As := [.int (iZ 1)]) (S := []) dX1_readName_93 okX1_fail mlX1_59 rfl (by omega) rfl (Nat.le_of_ble_eq_true rfl) (show kd 333 = 1 from rfl) (by decide) rfl (x_fail (d := d - 1) (c := 1) K rd ok) (fun v_ σ_ hq => ?_)
                      obtain ⟨rfl, rd2⟩ := hq
                      rename gS => σ2
                      show sE g_tt _ _ _ 96 [some (.ref 333), some (.int (iZ 0)), some (.int (iZ 0))] [] σ2
                      refine q_goto (tgt := 136) dX1_readName_96 (by decide) ?_
                      exact s_vret dX1_readName_136 rfl ⟨rfl, _, rd2, by rw [nmR_1 (by omega)]; exact rdQ_fail (B := (f, pl, k, l, far, C)) (by omega) ok⟩
              · refine z_iconst dX1_readName_68 ?_
                refine q_goto (tgt := 73) dX1_readName_69 (by decide) ?_
                refine q_istore_n dX1_readName_73 rfl (by decide) ?_
                show sE g_tt _ _ _ 74 [some (.ref 333), some (.int (iZ 0)), some (.int (iZ 1))] [] σ1
                refine q_iload_n dX1_readName_74 rfl rfl ?_
                refine z_if_ne (tgt := 99) dX1_readName_75 (by decide) (by unfold inR at *; omega) (fun c_49 => ?_) (fun c_49 => ?_)
                · exfalso
                  revert c_49
                  decide
                · refine q_iload_n dX1_readName_78 rfl rfl ?_
                  refine z_if_ne (tgt := 99) dX1_readName_79 (by decide) (by unfold inR at *; omega) (fun c_50 => ?_) (fun c_50 => ?_)
                  · refine q_iload_n dX1_readName_99 rfl rfl ?_
                    refine z_if_ne (tgt := 119) dX1_readName_100 (by decide) (by unfold inR at *; omega) (fun c_51 => ?_) (fun c_51 => ?_)
                    · exfalso
                      revert c_51
                      decide
                    · refine q_iload_n dX1_readName_103 rfl rfl ?_
                      refine q_aload_n dX1_readName_104 rfl rfl ?_
                      refine sg1 (kf := 4) (v := .int (iZ so)) dX1_readName_105 flX1_18 (show kd 333 = 1 from rfl) (by decide) (by show some (Value.int (iZ ((σ1).1 333 4))) = _; rw [show (σ1).1 333 4 = so from rd.2.2.2.2.2.1]) ?_
                      refine z_icmp_eq (tgt := 119) dX1_readName_108 (by decide) (by unfold inR at *; omega) (by unfold inR at *; omega) (fun c_52 => ?_) (fun c_52 => ?_)
                      · refine q_aload_n dX1_readName_119 rfl rfl ?_
                        refine sg1 (kf := 3) (v := .ref x) dX1_readName_120 flX1_32 (show kd 333 = 1 from rfl) (by decide) (by show some (va_rf ((σ1).2.2.2.2 333 3)) = _; rw [show (σ1).2.2.2.2 333 3 = some x from rd.2.2.1]; rfl) ?_
                        refine q_aload_n dX1_readName_123 rfl rfl ?_
                        refine sg1 (kf := 6) (v := .int (iZ (tk k))) dX1_readName_124 flX1_25 (show kd 333 = 1 from rfl) (by decide) (by show some (Value.int (iZ ((σ1).1 333 6))) = _; rw [show (σ1).1 333 6 = tk k from rd.2.2.2.2.2.2.2.1]) ?_
                        refine z_iconst dX1_readName_127 ?_
                        refine s_callV (ci := 4) (a := x) (As := [.int (iZ (tk k)), .int (iZ 0)]) (S := []) dX1_readName_128 okX4_emit mlX1_107 rfl (by omega) rfl (Nat.le_of_ble_eq_true rfl) K.1 (by decide) rfl (x_emit (d := d - 1) (op := tk k) (v := 0) K rd ok) (fun v_ σ_ hq => ?_)
                        obtain ⟨rfl, rd2⟩ := hq
                        rename gS => σ2
                        show sE g_tt _ _ _ 131 [some (.ref 333), some (.int (iZ 0)), some (.int (iZ 1))] [.int (iZ (if l < 300 then (l : Int) else -1))] σ2
                        refine q_pop dX1_readName_131 rfl ?_
                        refine q_aload_n dX1_readName_132 rfl rfl ?_
                        refine s_callV (ci := 1) (a := 333) (As := []) (S := []) dX1_readName_133 okX1_advance mlX1_56 rfl (by omega) rfl (Nat.le_of_ble_eq_true rfl) (show kd 333 = 1 from rfl) (by decide) rfl (x_advance (d := d - 1) K rd2 (k_lt K hk (show tk k ≠ 39 by omega))) (fun v_ σ_ hq => ?_)
                        obtain ⟨rfl, rd3⟩ := hq
                        rename gS => σ3
                        show sE g_tt _ _ _ 136 [some (.ref 333), some (.int (iZ 0)), some (.int (iZ 1))] [] σ3
                        exact s_vret dX1_readName_136 rfl ⟨rfl, _, rd3, by rw [nmR_ok (by omega)]; exact (rdQ_leaf (B := (f, pl, k, l, far, C)) (by omega) (by omega) (nm_t (by omega)) (by omega) (by omega) ok hn (k_lt K hk (show tk k ≠ 39 by omega)) h0 (by omega)).1⟩
                      · refine q_aload_n dX1_readName_111 rfl rfl ?_
                        refine z_iconst dX1_readName_112 ?_
                        refine s_callV (ci := 1) (a := 333) (As := [.int (iZ 5)]) (S := []) dX1_readName_113 okX1_fail mlX1_59 rfl (by omega) rfl (Nat.le_of_ble_eq_true rfl) (show kd 333 = 1 from rfl) (by decide) rfl (x_fail (d := d - 1) (c := 5) K rd ok) (fun v_ σ_ hq => ?_)
                        obtain ⟨rfl, rd2⟩ := hq
                        rename gS => σ2
                        show sE g_tt _ _ _ 116 [some (.ref 333), some (.int (iZ 0)), some (.int (iZ 1))] [] σ2
                        refine q_goto (tgt := 136) dX1_readName_116 (by decide) ?_
                        exact s_vret dX1_readName_136 rfl ⟨rfl, _, rd2, by rw [nmR_5 (by omega)]; exact rdQ_fail (B := (f, pl, k, l, far, C)) (by omega) ok⟩
                  · exfalso
                    revert c_50
                    decide
          · refine z_iconst dX1_readName_44 ?_
            refine q_goto (tgt := 49) dX1_readName_45 (by decide) ?_
            refine q_istore_n dX1_readName_49 rfl (by decide) ?_
            show sE g_tt _ _ _ 50 [some (.ref 333), some (.int (iZ 1)), none] [] σ1
            refine q_aload_n dX1_readName_50 rfl rfl ?_
            refine sg1 (kf := 6) (v := .int (iZ (tk k))) dX1_readName_51 flX1_25 (show kd 333 = 1 from rfl) (by decide) (by show some (Value.int (iZ ((σ1).1 333 6))) = _; rw [show (σ1).1 333 6 = tk k from rd.2.2.2.2.2.2.2.1]) ?_
            refine z_bipush dX1_readName_54 (by decide +kernel) ?_
            refine z_icmp_eq (tgt := 68) dX1_readName_56 (by decide) (kt_r K hk) (by unfold inR at *; omega) (fun c_53 => ?_) (fun c_53 => ?_)
            · refine z_iconst dX1_readName_68 ?_
              refine q_goto (tgt := 73) dX1_readName_69 (by decide) ?_
              refine q_istore_n dX1_readName_73 rfl (by decide) ?_
              show sE g_tt _ _ _ 74 [some (.ref 333), some (.int (iZ 1)), some (.int (iZ 1))] [] σ1
              refine q_iload_n dX1_readName_74 rfl rfl ?_
              refine z_if_ne (tgt := 99) dX1_readName_75 (by decide) (by unfold inR at *; omega) (fun c_54 => ?_) (fun c_54 => ?_)
              · refine q_iload_n dX1_readName_99 rfl rfl ?_
                refine z_if_ne (tgt := 119) dX1_readName_100 (by decide) (by unfold inR at *; omega) (fun c_55 => ?_) (fun c_55 => ?_)
                · refine q_aload_n dX1_readName_119 rfl rfl ?_
                  refine sg1 (kf := 3) (v := .ref x) dX1_readName_120 flX1_32 (show kd 333 = 1 from rfl) (by decide) (by show some (va_rf ((σ1).2.2.2.2 333 3)) = _; rw [show (σ1).2.2.2.2 333 3 = some x from rd.2.2.1]; rfl) ?_
                  refine q_aload_n dX1_readName_123 rfl rfl ?_
                  refine sg1 (kf := 6) (v := .int (iZ (tk k))) dX1_readName_124 flX1_25 (show kd 333 = 1 from rfl) (by decide) (by show some (Value.int (iZ ((σ1).1 333 6))) = _; rw [show (σ1).1 333 6 = tk k from rd.2.2.2.2.2.2.2.1]) ?_
                  refine z_iconst dX1_readName_127 ?_
                  refine s_callV (ci := 4) (a := x) (As := [.int (iZ (tk k)), .int (iZ 0)]) (S := []) dX1_readName_128 okX4_emit mlX1_107 rfl (by omega) rfl (Nat.le_of_ble_eq_true rfl) K.1 (by decide) rfl (x_emit (d := d - 1) (op := tk k) (v := 0) K rd ok) (fun v_ σ_ hq => ?_)
                  obtain ⟨rfl, rd2⟩ := hq
                  rename gS => σ2
                  show sE g_tt _ _ _ 131 [some (.ref 333), some (.int (iZ 1)), some (.int (iZ 1))] [.int (iZ (if l < 300 then (l : Int) else -1))] σ2
                  refine q_pop dX1_readName_131 rfl ?_
                  refine q_aload_n dX1_readName_132 rfl rfl ?_
                  refine s_callV (ci := 1) (a := 333) (As := []) (S := []) dX1_readName_133 okX1_advance mlX1_56 rfl (by omega) rfl (Nat.le_of_ble_eq_true rfl) (show kd 333 = 1 from rfl) (by decide) rfl (x_advance (d := d - 1) K rd2 (k_lt K hk (show tk k ≠ 39 by omega))) (fun v_ σ_ hq => ?_)
                  obtain ⟨rfl, rd3⟩ := hq
                  rename gS => σ3
                  show sE g_tt _ _ _ 136 [some (.ref 333), some (.int (iZ 1)), some (.int (iZ 1))] [] σ3
                  exact s_vret dX1_readName_136 rfl ⟨rfl, _, rd3, by rw [nmR_ok (by omega)]; exact (rdQ_leaf (B := (f, pl, k, l, far, C)) (by omega) (by omega) (nm_t (by omega)) (by omega) (by omega) ok hn (k_lt K hk (show tk k ≠ 39 by omega)) h0 (by omega)).1⟩
                · exfalso
                  revert c_55
                  decide
              · exfalso
                revert c_54
                decide
            · refine q_aload_n dX1_readName_59 rfl rfl ?_
              refine sg1 (kf := 6) (v := .int (iZ (tk k))) dX1_readName_60 flX1_25 (show kd 333 = 1 from rfl) (by decide) (by show some (Value.int (iZ ((σ1).1 333 6))) = _; rw [show (σ1).1 333 6 = tk k from rd.2.2.2.2.2.2.2.1]) ?_
              refine z_bipush dX1_readName_63 (by decide +kernel) ?_
              refine z_icmp_ne (tgt := 72) dX1_readName_65 (by decide) (kt_r K hk) (by unfold inR at *; omega) (fun c_56 => ?_) (fun c_56 => ?_)
              · refine z_iconst dX1_readName_72 ?_
                refine q_istore_n dX1_readName_73 rfl (by decide) ?_
                show sE g_tt _ _ _ 74 [some (.ref 333), some (.int (iZ 1)), some (.int (iZ 0))] [] σ1
                refine q_iload_n dX1_readName_74 rfl rfl ?_
                refine z_if_ne (tgt := 99) dX1_readName_75 (by decide) (by unfold inR at *; omega) (fun c_57 => ?_) (fun c_57 => ?_)
                · refine q_iload_n dX1_readName_99 rfl rfl ?_
                  refine z_if_ne (tgt := 119) dX1_readName_100 (by decide) (by unfold inR at *; omega) (fun c_58 => ?_) (fun c_58 => ?_)
                  · refine q_aload_n dX1_readName_119 rfl rfl ?_
                    refine sg1 (kf := 3) (v := .ref x) dX1_readName_120 flX1_32 (show kd 333 = 1 from rfl) (by decide) (by show some (va_rf ((σ1).2.2.2.2 333 3)) = _; rw [show (σ1).2.2.2.2 333 3 = some x from rd.2.2.1]; rfl) ?_
                    refine q_aload_n dX1_readName_123 rfl rfl ?_
                    refine sg1 (kf := 6) (v := .int (iZ (tk k))) dX1_readName_124 flX1_25 (show kd 333 = 1 from rfl) (by decide) (by show some (Value.int (iZ ((σ1).1 333 6))) = _; rw [show (σ1).1 333 6 = tk k from rd.2.2.2.2.2.2.2.1]) ?_
                    refine z_iconst dX1_readName_127 ?_
                    refine s_callV (ci := 4) (a := x) (As := [.int (iZ (tk k)), .int (iZ 0)]) (S := []) dX1_readName_128 okX4_emit mlX1_107 rfl (by omega) rfl (Nat.le_of_ble_eq_true rfl) K.1 (by decide) rfl (x_emit (d := d - 1) (op := tk k) (v := 0) K rd ok) (fun v_ σ_ hq => ?_)
                    obtain ⟨rfl, rd2⟩ := hq
                    rename gS => σ2
                    show sE g_tt _ _ _ 131 [some (.ref 333), some (.int (iZ 1)), some (.int (iZ 0))] [.int (iZ (if l < 300 then (l : Int) else -1))] σ2
                    refine q_pop dX1_readName_131 rfl ?_
                    refine q_aload_n dX1_readName_132 rfl rfl ?_
                    refine s_callV (ci := 1) (a := 333) (As := []) (S := []) dX1_readName_133 okX1_advance mlX1_56 rfl (by omega) rfl (Nat.le_of_ble_eq_true rfl) (show kd 333 = 1 from rfl) (by decide) rfl (x_advance (d := d - 1) K rd2 (k_lt K hk (show tk k ≠ 39 by omega))) (fun v_ σ_ hq => ?_)
                    obtain ⟨rfl, rd3⟩ := hq
                    rename gS => σ3
                    show sE g_tt _ _ _ 136 [some (.ref 333), some (.int (iZ 1)), some (.int (iZ 0))] [] σ3
                    exact s_vret dX1_readName_136 rfl ⟨rfl, _, rd3, by rw [nmR_ok (by omega)]; exact (rdQ_leaf (B := (f, pl, k, l, far, C)) (by omega) (by omega) (nm_t (by omega)) (by omega) (by omega) ok hn (k_lt K hk (show tk k ≠ 39 by omega)) h0 (by omega)).1⟩
                  · exfalso
                    revert c_58
                    decide
                · exfalso
                  revert c_57
                  decide
              · refine z_iconst dX1_readName_68 ?_
                refine q_goto (tgt := 73) dX1_readName_69 (by decide) ?_
                refine q_istore_n dX1_readName_73 rfl (by decide) ?_
                show sE g_tt _ _ _ 74 [some (.ref 333), some (.int (iZ 1)), some (.int (iZ 1))] [] σ1
                refine q_iload_n dX1_readName_74 rfl rfl ?_
                refine z_if_ne (tgt := 99) dX1_readName_75 (by decide) (by unfold inR at *; omega) (fun c_59 => ?_) (fun c_59 => ?_)
                · refine q_iload_n dX1_readName_99 rfl rfl ?_
                  refine z_if_ne (tgt := 119) dX1_readName_100 (by decide) (by unfold inR at *; omega) (fun c_60 => ?_) (fun c_60 => ?_)
                  · refine q_aload_n dX1_readName_119 rfl rfl ?_
                    refine sg1 (kf := 3) (v := .ref x) dX1_readName_120 flX1_32 (show kd 333 = 1 from rfl) (by decide) (by show some (va_rf ((σ1).2.2.2.2 333 3)) = _; rw [show (σ1).2.2.2.2 333 3 = some x from rd.2.2.1]; rfl) ?_
                    refine q_aload_n dX1_readName_123 rfl rfl ?_
                    refine sg1 (kf := 6) (v := .int (iZ (tk k))) dX1_readName_124 flX1_25 (show kd 333 = 1 from rfl) (by decide) (by show some (Value.int (iZ ((σ1).1 333 6))) = _; rw [show (σ1).1 333 6 = tk k from rd.2.2.2.2.2.2.2.1]) ?_
                    refine z_iconst dX1_readName_127 ?_
                    refine s_callV (ci := 4) (a := x) (As := [.int (iZ (tk k)), .int (iZ 0)]) (S := []) dX1_readName_128 okX4_emit mlX1_107 rfl (by omega) rfl (Nat.le_of_ble_eq_true rfl) K.1 (by decide) rfl (x_emit (d := d - 1) (op := tk k) (v := 0) K rd ok) (fun v_ σ_ hq => ?_)
                    obtain ⟨rfl, rd2⟩ := hq
                    rename gS => σ2
                    show sE g_tt _ _ _ 131 [some (.ref 333), some (.int (iZ 1)), some (.int (iZ 1))] [.int (iZ (if l < 300 then (l : Int) else -1))] σ2
                    refine q_pop dX1_readName_131 rfl ?_
                    refine q_aload_n dX1_readName_132 rfl rfl ?_
                    refine s_callV (ci := 1) (a := 333) (As := []) (S := []) dX1_readName_133 okX1_advance mlX1_56 rfl (by omega) rfl (Nat.le_of_ble_eq_true rfl) (show kd 333 = 1 from rfl) (by decide) rfl (x_advance (d := d - 1) K rd2 (k_lt K hk (show tk k ≠ 39 by omega))) (fun v_ σ_ hq => ?_)
                    obtain ⟨rfl, rd3⟩ := hq
                    rename gS => σ3
                    show sE g_tt _ _ _ 136 [some (.ref 333), some (.int (iZ 1)), some (.int (iZ 1))] [] σ3
                    exact s_vret dX1_readName_136 rfl ⟨rfl, _, rd3, by rw [nmR_ok (by omega)]; exact (rdQ_leaf (B := (f, pl, k, l, far, C)) (by omega) (by omega) (nm_t (by omega)) (by omega) (by omega) ok hn (k_lt K hk (show tk k ≠ 39 by omega)) h0 (by omega)).1⟩
                  · exfalso
                    revert c_60
                    decide
                · exfalso
                  revert c_59
                  decide
