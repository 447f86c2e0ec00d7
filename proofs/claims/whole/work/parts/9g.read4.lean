/-! ===== the model's reader: beginOne, behindOne, summed ===== -/
theorem nmI_ran (t : Int) : -1 ≤ nmI t ∧ nmI t ≤ 7 := by
  unfold nmI
  repeat' split
  all_goals omega
theorem nmI_38 : nmI 38 = -1 := by decide
theorem mAns_tr {b : Nat → Int} {n tx : Nat} {so : Int} {σ : gS} {A F F1 T T1 : Nat → Int} {x : Int × Int × pS} {r : Option Value} {σ' : gS} (h : mAns b n tx so σ A F1 T1 x r σ') (kM : kpM F F1) (kX : kpX tx T T1) : mAns b n tx so σ A F T x r σ' := by
  obtain ⟨a, w1, T2, P2, F2, e, f, g, i, j⟩ := h
  exact ⟨a, w1, T2, P2, F2, e, f, g, kpM_tr kM i, kpX_tr kX j⟩
set_option maxHeartbeats 4000000 in
set_option maxRecDepth 100000 in
theorem m_beginOne {d : Nat} (hd : 7 ≤ d) (σ : gS) (A F T Pf : Nat → Int) {w0 : Int} {b : Nat → Int} {n tx : Nat} {so : Int} {s : pS} (hR : psR b n tx so F w0 T Pf s) (hw : F 18 = 0) (htx : tx < 4) (hn3 : n ≤ 300) (hb : σ.2.1 388 = b) (hb8 : ∀ i, i < n → 0 ≤ b i ∧ b i < 256) (hso : so = 0 ∨ so = 1) (hB : inB s) : sC mX7_beginOne d [.ref 384] (ms (pt σ T Pf w0) A F) (mAns b n tx so σ A F T (bgS (tkA b n) (nuA b n) so s)) := by
  have tr := hR.1.2.2.2
  have t1 := tr.1
  have t2 := tr.2.1
  have q1 := tr.2.2.2.2.2.1
  have qv := tr.2.2.2.2.2.2.1
  have q40 := tr.2.2.2.2.2.2.2.2.2.2.2.2.2.2.2.2.2.2.2.1
  have q45 := tr.2.2.2.2.2.2.2.2.2.2.2.2.2.2.2.2.1
  have nr := nmI_ran (tkA b n s.1)
  have n38 : tkA b n s.1 = 38 → nmI (tkA b n s.1) = -1 := fun z => by rw [z]; exact nmI_38
  obtain ⟨hB1, hB2, hB3, hB4⟩ := hB
  refine sC_of rfl (Nat.le_of_ble_eq_true rfl) ?_
  show sE g_tt _ _ _ 0 [some (.ref 384), none] [] (ms (pt σ T Pf w0) A F)
  refine q_aload_n dX7_beginOne_0 rfl rfl ?_
  refine sg7 (kf := 9) (v := .int (iZ (F 9))) dX7_beginOne_1 flX7_91 (show kd 384 = 7 from rfl) (by decide) rfl ?_
  refine z_iconst dX7_beginOne_4 ?_
  refine z_icmp_ne (tgt := 20) dX7_beginOne_5 (by decide) (by unfold inR; omega) (by unfold inR; omega) (fun c_1 => ?_) (fun c_1 => ?_)
  · refine q_aload_n dX7_beginOne_20 rfl rfl ?_
    refine s_callV (ci := 7) (a := 384) (As := []) (S := []) dX7_beginOne_21 okX7_nameOf mlX7_165 rfl (by omega) rfl (Nat.le_of_ble_eq_true rfl) (show kd 384 = 7 from rfl) (by decide) rfl (m_nameOf (d := d - 1) (by omega) σ A F T Pf hR.1) (fun v_ σ_ hq => ?_)
    obtain ⟨rfl, e9⟩ := hq
    have e9 := e9.symm
    subst e9
    show sE g_tt _ _ _ 24 [some (.ref 384), none] [.int (iZ (nmI (tkA b n s.1)))] (ms (pt σ T Pf w0) A F)
    refine q_istore_n dX7_beginOne_24 rfl (by decide) ?_
    show sE g_tt _ _ _ 25 [some (.ref 384), some (.int (iZ (nmI (tkA b n s.1))))] [] (ms (pt σ T Pf w0) A F)
    refine q_iload_n dX7_beginOne_25 rfl rfl ?_
    refine z_if_lt (tgt := 39) dX7_beginOne_26 (by decide) (by unfold inR; omega) (fun c_2 => ?_) (fun c_2 => ?_)
    · refine q_aload_n dX7_beginOne_39 rfl rfl ?_
      refine sg7 (kf := 9) (v := .int (iZ (F 9))) dX7_beginOne_40 flX7_91 (show kd 384 = 7 from rfl) (by decide) rfl ?_
      refine z_iconst dX7_beginOne_43 ?_
      refine z_icmp_eq (tgt := 51) dX7_beginOne_44 (by decide) (by unfold inR; omega) (by unfold inR; omega) (fun c_3 => ?_) (fun c_3 => ?_)
      · refine q_aload_n dX7_beginOne_51 rfl rfl ?_
        refine q_aload_n dX7_beginOne_52 rfl rfl ?_
        refine sg7 (kf := 9) (v := .int (iZ (F 9))) dX7_beginOne_53 flX7_91 (show kd 384 = 7 from rfl) (by decide) rfl ?_
        refine z_iconst dX7_beginOne_56 ?_
        refine z_icmp_ne (tgt := 64) dX7_beginOne_57 (by decide) (by unfold inR; omega) (by unfold inR; omega) (fun c_4 => ?_) (fun c_4 => ?_)
        · refine z_iconst dX7_beginOne_64 ?_
          refine q_aload_n dX7_beginOne_65 rfl rfl ?_
          refine sg7 (kf := 9) (v := .int (iZ (F 9))) dX7_beginOne_66 flX7_91 (show kd 384 = 7 from rfl) (by decide) rfl ?_
          refine z_iconst dX7_beginOne_69 ?_
          refine z_icmp_ne (tgt := 80) dX7_beginOne_70 (by decide) (by unfold inR; omega) (by unfold inR; omega) (fun c_5 => ?_) (fun c_5 => ?_)
          · refine q_iload_n dX7_beginOne_80 rfl rfl ?_
            refine s_callV (ci := 7) (a := 384) (As := [.int (iZ 1), .int (iZ (nmI (tkA b n s.1)))]) (S := []) dX7_beginOne_81 okX7_emit mlX7_148 rfl (by omega) rfl (Nat.le_of_ble_eq_true rfl) (show kd 384 = 7 from rfl) (by decide) rfl (m_emit (d := d - 1) (x := 1) (y := nmI (tkA b n s.1)) σ A F T Pf hR htx (by omega)) (fun v_ σ_ hq => ?_)
            obtain ⟨rfl, T1, F1, e9, hR1, h18, kM, kX⟩ := hq
            subst e9
            show sE g_tt _ _ _ 84 [some (.ref 384), some (.int (iZ (nmI (tkA b n s.1))))] [] (ms (pt σ T1 Pf w0) A F1)
            refine q_aload_n dX7_beginOne_84 rfl rfl ?_
            refine s_callV (ci := 7) (a := 384) (As := []) (S := []) dX7_beginOne_85 okX7_nextToken mlX7_162 rfl (by omega) rfl (Nat.le_of_ble_eq_true rfl) (show kd 384 = 7 from rfl) (by decide) rfl (m_nxt (d := d - 1) (by omega) σ A F1 T1 Pf hn3 hb hb8 hR1.1) (fun v_ σ_ hq => ?_)
            obtain ⟨rfl, w1, F2, e9, ld9, kp9⟩ := hq
            subst e9
            have hR2 := psR_k hR1 kp9 ld9
            show sE g_tt _ _ _ 88 [some (.ref 384), some (.int (iZ (nmI (tkA b n s.1))))] [] (ms (pt σ T1 Pf w1) A F2)
            refine q_aload_n dX7_beginOne_88 rfl rfl ?_
            refine s_callV (ci := 7) (a := 384) (As := []) (S := []) dX7_beginOne_89 okX7_endOne mlX7_171 rfl (by omega) rfl (Nat.le_of_ble_eq_true rfl) (show kd 384 = 7 from rfl) (by decide) rfl (m_endOne (d := d - 1) (by omega) σ A F2 T1 Pf hR2 htx hn3 hb hb8 ⟨by show s.2.1.length ≤ 155; omega, by show s.2.1.length + ((1, nmI (tkA b n s.1)) :: s.2.2.2).length ≤ 304; rw [List.length_cons]; omega⟩) (fun v_ σ_ hq => ?_)
            rename gS => τ9
            obtain ⟨rfl, hq2⟩ := hq
            have hq : mAns b n tx so σ A F T (eoS (tkA b n) (s.1 + 1, s.2.1, s.2.2.1, (1, nmI (tkA b n s.1)) :: s.2.2.2)) _ τ9 := mAns_tr ⟨rfl, hq2⟩ (kpM_tr kM (kpM_T kp9)) kX
            show sE g_tt _ _ _ 92 [some (.ref 384), some (.int (iZ (nmI (tkA b n s.1))))] [.int (iZ ((eoS (tkA b n) (s.1 + 1, s.2.1, s.2.2.1, (1, nmI (tkA b n s.1)) :: s.2.2.2)).1))] τ9
            exact s_iretZ dX7_beginOne_92 rfl (show mAns b n tx so σ A F T (bgS (tkA b n) (nuA b n) so s) _ _ by
              unfold bgS
              rw [if_neg (fun z : tkA b n s.1 = 38 ∧ 9999 < nuA b n s.1 => by have z1 := z.1; have z2 := z.2; omega)]; rw [if_neg (fun z : 0 ≤ nmI (tkA b n s.1) ∧ ¬ isOfP (nmI (tkA b n s.1)) so => by have z1 := z.1; have z2 := z.2; unfold isOfP at z2; omega)]; rw [if_pos (show tkA b n s.1 = 38 ∨ 0 ≤ nmI (tkA b n s.1) by omega), show (if tkA b n s.1 = 38 then ((0 : Int), nuA b n s.1) else (1, nmI (tkA b n s.1))) = (1, nmI (tkA b n s.1)) by rw [if_neg (by omega)]]
              exact hq)
          · refine q_aload_n dX7_beginOne_73 rfl rfl ?_
            refine sg7 (kf := 10) (v := .int (iZ (F 10))) dX7_beginOne_74 flX7_97 (show kd 384 = 7 from rfl) (by decide) rfl ?_
            refine q_goto (tgt := 81) dX7_beginOne_77 (by decide) ?_
            exfalso
            omega
        · refine z_iconst dX7_beginOne_60 ?_
          refine q_goto (tgt := 65) dX7_beginOne_61 (by decide) ?_
          refine q_aload_n dX7_beginOne_65 rfl rfl ?_
          refine sg7 (kf := 9) (v := .int (iZ (F 9))) dX7_beginOne_66 flX7_91 (show kd 384 = 7 from rfl) (by decide) rfl ?_
          refine z_iconst dX7_beginOne_69 ?_
          refine z_icmp_ne (tgt := 80) dX7_beginOne_70 (by decide) (by unfold inR; omega) (by unfold inR; omega) (fun c_6 => ?_) (fun c_6 => ?_)
          · refine q_iload_n dX7_beginOne_80 rfl rfl ?_
            exfalso
            omega
          · refine q_aload_n dX7_beginOne_73 rfl rfl ?_
            refine sg7 (kf := 10) (v := .int (iZ (F 10))) dX7_beginOne_74 flX7_97 (show kd 384 = 7 from rfl) (by decide) rfl ?_
            refine q_goto (tgt := 81) dX7_beginOne_77 (by decide) ?_
            refine s_callV (ci := 7) (a := 384) (As := [.int (iZ 0), .int (iZ (F 10))]) (S := []) dX7_beginOne_81 okX7_emit mlX7_148 rfl (by omega) rfl (Nat.le_of_ble_eq_true rfl) (show kd 384 = 7 from rfl) (by decide) rfl (m_emit (d := d - 1) (x := 0) (y := F 10) σ A F T Pf hR htx (by omega)) (fun v_ σ_ hq => ?_)
            obtain ⟨rfl, T1, F1, e9, hR1, h18, kM, kX⟩ := hq
            subst e9
            show sE g_tt _ _ _ 84 [some (.ref 384), some (.int (iZ (nmI (tkA b n s.1))))] [] (ms (pt σ T1 Pf w0) A F1)
            refine q_aload_n dX7_beginOne_84 rfl rfl ?_
            refine s_callV (ci := 7) (a := 384) (As := []) (S := []) dX7_beginOne_85 okX7_nextToken mlX7_162 rfl (by omega) rfl (Nat.le_of_ble_eq_true rfl) (show kd 384 = 7 from rfl) (by decide) rfl (m_nxt (d := d - 1) (by omega) σ A F1 T1 Pf hn3 hb hb8 hR1.1) (fun v_ σ_ hq => ?_)
            obtain ⟨rfl, w1, F2, e9, ld9, kp9⟩ := hq
            subst e9
            have hR2 := psR_k hR1 kp9 ld9
            show sE g_tt _ _ _ 88 [some (.ref 384), some (.int (iZ (nmI (tkA b n s.1))))] [] (ms (pt σ T1 Pf w1) A F2)
            refine q_aload_n dX7_beginOne_88 rfl rfl ?_
            refine s_callV (ci := 7) (a := 384) (As := []) (S := []) dX7_beginOne_89 okX7_endOne mlX7_171 rfl (by omega) rfl (Nat.le_of_ble_eq_true rfl) (show kd 384 = 7 from rfl) (by decide) rfl (m_endOne (d := d - 1) (by omega) σ A F2 T1 Pf hR2 htx hn3 hb hb8 ⟨by show s.2.1.length ≤ 155; omega, by show s.2.1.length + ((0, F 10) :: s.2.2.2).length ≤ 304; rw [List.length_cons]; omega⟩) (fun v_ σ_ hq => ?_)
            rename gS => τ9
            obtain ⟨rfl, hq2⟩ := hq
            have hq : mAns b n tx so σ A F T (eoS (tkA b n) (s.1 + 1, s.2.1, s.2.2.1, (0, F 10) :: s.2.2.2)) _ τ9 := mAns_tr ⟨rfl, hq2⟩ (kpM_tr kM (kpM_T kp9)) kX
            show sE g_tt _ _ _ 92 [some (.ref 384), some (.int (iZ (nmI (tkA b n s.1))))] [.int (iZ ((eoS (tkA b n) (s.1 + 1, s.2.1, s.2.2.1, (0, F 10) :: s.2.2.2)).1))] τ9
            exact s_iretZ dX7_beginOne_92 rfl (show mAns b n tx so σ A F T (bgS (tkA b n) (nuA b n) so s) _ _ by
              unfold bgS
              rw [if_neg (fun z : tkA b n s.1 = 38 ∧ 9999 < nuA b n s.1 => by have z1 := z.1; have z2 := z.2; omega)]; rw [if_neg (fun z : 0 ≤ nmI (tkA b n s.1) ∧ ¬ isOfP (nmI (tkA b n s.1)) so => by have z1 := z.1; have z2 := z.2; unfold isOfP at z2; omega)]; rw [if_pos (show tkA b n s.1 = 38 ∨ 0 ≤ nmI (tkA b n s.1) by omega), show (if tkA b n s.1 = 38 then ((0 : Int), nuA b n s.1) else (1, nmI (tkA b n s.1))) = (0, F 10) by rw [if_pos (by omega)]; rw [show nuA b n s.1 = F 10 by omega]]
              exact hq)
      · refine q_iload_n dX7_beginOne_47 rfl rfl ?_
        refine z_if_lt (tgt := 93) dX7_beginOne_48 (by decide) (by unfold inR; omega) (fun c_7 => ?_) (fun c_7 => ?_)
        · refine q_aload_n dX7_beginOne_93 rfl rfl ?_
          refine sg7 (kf := 9) (v := .int (iZ (F 9))) dX7_beginOne_94 flX7_91 (show kd 384 = 7 from rfl) (by decide) rfl ?_
          refine z_bipush dX7_beginOne_97 (by decide +kernel) ?_
          refine z_icmp_ne (tgt := 109) dX7_beginOne_99 (by decide) (by unfold inR; omega) (by unfold inR; omega) (fun c_8 => ?_) (fun c_8 => ?_)
          · refine q_aload_n dX7_beginOne_109 rfl rfl ?_
            refine sg7 (kf := 9) (v := .int (iZ (F 9))) dX7_beginOne_110 flX7_91 (show kd 384 = 7 from rfl) (by decide) rfl ?_
            refine z_bipush dX7_beginOne_113 (by decide +kernel) ?_
            refine z_icmp_ne (tgt := 124) dX7_beginOne_115 (by decide) (by unfold inR; omega) (by unfold inR; omega) (fun c_9 => ?_) (fun c_9 => ?_)
            · refine q_aload_n dX7_beginOne_124 rfl rfl ?_
              refine z_bipush dX7_beginOne_125 (by decide +kernel) ?_
              refine z_bipush dX7_beginOne_127 (by decide +kernel) ?_
              refine z_bipush dX7_beginOne_129 (by decide +kernel) ?_
              refine z_bipush dX7_beginOne_131 (by decide +kernel) ?_
              refine s_callS (As := [.int (iZ 111), .int (iZ 118), .int (iZ 101), .int (iZ 114)]) (S := [.ref 384]) dX7_beginOne_133 okX7_w4 mlX7_121 rfl (by omega) rfl (Nat.le_of_ble_eq_true rfl) (m_w4 (d := d - 1) (x := 111) (y := 118) (z := 101) (u := 114) (by omega) (by omega) (by omega) (by omega) (by omega) (ms (pt σ T Pf w0) A F)) (fun v_ σ_ hq => ?_)
              obtain ⟨rfl, e9⟩ := hq
              have e9 := e9.symm
              subst e9
              show sE g_tt _ _ _ 136 [some (.ref 384), some (.int (iZ (nmI (tkA b n s.1))))] [.long (lZ (((111 * 256 + 118) * 256 + 101) * 256 + 114)), .ref 384] (ms (pt σ T Pf w0) A F)
              refine s_callV (ci := 7) (a := 384) (As := [.long (lZ (((111 * 256 + 118) * 256 + 101) * 256 + 114))]) (S := []) dX7_beginOne_136 okX7_isWord mlX7_177 rfl (by omega) rfl (Nat.le_of_ble_eq_true rfl) (show kd 384 = 7 from rfl) (by decide) rfl (m_isW (d := d - 1) (x := ((111 * 256 + 118) * 256 + 101) * 256 + 114) σ A F T Pf (b := b) (n := n) (k := s.1) hR.1 (j := 9) (by decide) (by decide +kernel)) (fun v_ σ_ hq => ?_)
              obtain ⟨rfl, e9⟩ := hq
              have e9 := e9.symm
              subst e9
              show sE g_tt _ _ _ 139 [some (.ref 384), some (.int (iZ (nmI (tkA b n s.1))))] [.int (iZ (if tkA b n s.1 = ((9 : Nat) : Int) then 1 else 0))] (ms (pt σ T Pf w0) A F)
              refine z_if_eq (tgt := 149) dX7_beginOne_139 (by decide) inR_01 (fun c_10 => ?_) (fun c_10 => ?_)
              · have c_10 := if01_0 c_10
                refine q_aload_n dX7_beginOne_149 rfl rfl ?_
                refine z_bipush dX7_beginOne_150 (by decide +kernel) ?_
                refine z_bipush dX7_beginOne_152 (by decide +kernel) ?_
                refine z_bipush dX7_beginOne_154 (by decide +kernel) ?_
                refine z_bipush dX7_beginOne_156 (by decide +kernel) ?_
                refine z_bipush dX7_beginOne_158 (by decide +kernel) ?_
                refine s_callS (As := [.int (iZ 104), .int (iZ 111), .int (iZ 117), .int (iZ 115), .int (iZ 101)]) (S := [.ref 384]) dX7_beginOne_160 okX7_w5 mlX7_125 rfl (by omega) rfl (Nat.le_of_ble_eq_true rfl) (m_w5 (d := d - 1) (x := 104) (y := 111) (z := 117) (u := 115) (v := 101) (by omega) (by omega) (by omega) (by omega) (by omega) (by omega) (ms (pt σ T Pf w0) A F)) (fun v_ σ_ hq => ?_)
                obtain ⟨rfl, e9⟩ := hq
                have e9 := e9.symm
                subst e9
                show sE g_tt _ _ _ 163 [some (.ref 384), some (.int (iZ (nmI (tkA b n s.1))))] [.long (lZ ((((104 * 256 + 111) * 256 + 117) * 256 + 115) * 256 + 101)), .ref 384] (ms (pt σ T Pf w0) A F)
                refine s_callV (ci := 7) (a := 384) (As := [.long (lZ ((((104 * 256 + 111) * 256 + 117) * 256 + 115) * 256 + 101))]) (S := []) dX7_beginOne_163 okX7_isWord mlX7_177 rfl (by omega) rfl (Nat.le_of_ble_eq_true rfl) (show kd 384 = 7 from rfl) (by decide) rfl (m_isW (d := d - 1) (x := (((104 * 256 + 111) * 256 + 117) * 256 + 115) * 256 + 101) σ A F T Pf (b := b) (n := n) (k := s.1) hR.1 (j := 11) (by decide) (by decide +kernel)) (fun v_ σ_ hq => ?_)
                obtain ⟨rfl, e9⟩ := hq
                have e9 := e9.symm
                subst e9
                show sE g_tt _ _ _ 166 [some (.ref 384), some (.int (iZ (nmI (tkA b n s.1))))] [.int (iZ (if tkA b n s.1 = ((11 : Nat) : Int) then 1 else 0))] (ms (pt σ T Pf w0) A F)
                refine z_if_eq (tgt := 175) dX7_beginOne_166 (by decide) inR_01 (fun c_11 => ?_) (fun c_11 => ?_)
                · have c_11 := if01_0 c_11
                  refine q_aload_n dX7_beginOne_175 rfl rfl ?_
                  refine z_bipush dX7_beginOne_176 (by decide +kernel) ?_
                  refine z_bipush dX7_beginOne_178 (by decide +kernel) ?_
                  refine s_callS (As := [.int (iZ 105), .int (iZ 102)]) (S := [.ref 384]) dX7_beginOne_180 okX7_w2 mlX7_113 rfl (by omega) rfl (Nat.le_of_ble_eq_true rfl) (m_w2 (d := d - 1) (x := 105) (y := 102) (by omega) (by omega) (by omega) (ms (pt σ T Pf w0) A F)) (fun v_ σ_ hq => ?_)
                  obtain ⟨rfl, e9⟩ := hq
                  have e9 := e9.symm
                  subst e9
                  show sE g_tt _ _ _ 183 [some (.ref 384), some (.int (iZ (nmI (tkA b n s.1))))] [.long (lZ (105 * 256 + 102)), .ref 384] (ms (pt σ T Pf w0) A F)
                  refine s_callV (ci := 7) (a := 384) (As := [.long (lZ (105 * 256 + 102))]) (S := []) dX7_beginOne_183 okX7_isWord mlX7_177 rfl (by omega) rfl (Nat.le_of_ble_eq_true rfl) (show kd 384 = 7 from rfl) (by decide) rfl (m_isW (d := d - 1) (x := 105 * 256 + 102) σ A F T Pf (b := b) (n := n) (k := s.1) hR.1 (j := 12) (by decide) (by decide +kernel)) (fun v_ σ_ hq => ?_)
                  obtain ⟨rfl, e9⟩ := hq
                  have e9 := e9.symm
                  subst e9
                  show sE g_tt _ _ _ 186 [some (.ref 384), some (.int (iZ (nmI (tkA b n s.1))))] [.int (iZ (if tkA b n s.1 = ((12 : Nat) : Int) then 1 else 0))] (ms (pt σ T Pf w0) A F)
                  refine z_if_eq (tgt := 196) dX7_beginOne_186 (by decide) inR_01 (fun c_12 => ?_) (fun c_12 => ?_)
                  · have c_12 := if01_0 c_12
                    refine q_aload_n dX7_beginOne_196 rfl rfl ?_
                    refine z_bipush dX7_beginOne_197 (by decide +kernel) ?_
                    refine z_bipush dX7_beginOne_199 (by decide +kernel) ?_
                    refine z_bipush dX7_beginOne_201 (by decide +kernel) ?_
                    refine s_callS (As := [.int (iZ 110), .int (iZ 111), .int (iZ 116)]) (S := [.ref 384]) dX7_beginOne_203 okX7_w3 mlX7_117 rfl (by omega) rfl (Nat.le_of_ble_eq_true rfl) (m_w3 (d := d - 1) (x := 110) (y := 111) (z := 116) (by omega) (by omega) (by omega) (by omega) (ms (pt σ T Pf w0) A F)) (fun v_ σ_ hq => ?_)
                    obtain ⟨rfl, e9⟩ := hq
                    have e9 := e9.symm
                    subst e9
                    show sE g_tt _ _ _ 206 [some (.ref 384), some (.int (iZ (nmI (tkA b n s.1))))] [.long (lZ ((110 * 256 + 111) * 256 + 116)), .ref 384] (ms (pt σ T Pf w0) A F)
                    refine s_callV (ci := 7) (a := 384) (As := [.long (lZ ((110 * 256 + 111) * 256 + 116))]) (S := []) dX7_beginOne_206 okX7_isWord mlX7_177 rfl (by omega) rfl (Nat.le_of_ble_eq_true rfl) (show kd 384 = 7 from rfl) (by decide) rfl (m_isW (d := d - 1) (x := (110 * 256 + 111) * 256 + 116) σ A F T Pf (b := b) (n := n) (k := s.1) hR.1 (j := 18) (by decide) (by decide +kernel)) (fun v_ σ_ hq => ?_)
                    obtain ⟨rfl, e9⟩ := hq
                    have e9 := e9.symm
                    subst e9
                    show sE g_tt _ _ _ 209 [some (.ref 384), some (.int (iZ (nmI (tkA b n s.1))))] [.int (iZ (if tkA b n s.1 = ((18 : Nat) : Int) then 1 else 0))] (ms (pt σ T Pf w0) A F)
                    refine z_if_eq (tgt := 228) dX7_beginOne_209 (by decide) inR_01 (fun c_13 => ?_) (fun c_13 => ?_)
                    · have c_13 := if01_0 c_13
                      refine z_iconst dX7_beginOne_228 ?_
                      exact s_iretZ dX7_beginOne_229 rfl (show mAns b n tx so σ A F T (bgS (tkA b n) (nuA b n) so s) _ _ by
                        unfold bgS
                        rw [if_neg (fun z : tkA b n s.1 = 38 ∧ 9999 < nuA b n s.1 => by have z1 := z.1; have z2 := z.2; omega)]; rw [if_neg (fun z : 0 ≤ nmI (tkA b n s.1) ∧ ¬ isOfP (nmI (tkA b n s.1)) so => by have z1 := z.1; have z2 := z.2; unfold isOfP at z2; omega)]; rw [if_neg (show ¬ (tkA b n s.1 = 38 ∨ 0 ≤ nmI (tkA b n s.1)) by omega)]; rw [if_neg (show ¬ tkA b n s.1 = 33 by omega)]; rw [if_neg (show ¬ tkA b n s.1 = 30 by omega)]; rw [if_neg (show ¬ tkA b n s.1 = 9 by omega)]; rw [if_neg (show ¬ tkA b n s.1 = 11 by omega)]; rw [if_neg (show ¬ tkA b n s.1 = 12 by omega)]; rw [if_neg (fun z : tkA b n s.1 = 18 ∧ askA s.2.1 => by have := z.1; omega)]
                        exact ⟨rfl, w0, T, Pf, F, rfl, hR, hw, kpM_rf F, kpX_rf tx T⟩)
                    · have c_13 := if01_1 c_13
                      refine q_aload_n dX7_beginOne_212 rfl rfl ?_
                      refine s_callV (ci := 7) (a := 384) (As := []) (S := []) dX7_beginOne_213 okX7_isAskAhead mlX7_181 rfl (by omega) rfl (Nat.le_of_ble_eq_true rfl) (show kd 384 = 7 from rfl) (by decide) rfl (m_isAskAhead (d := d - 1) (by omega) σ A F T Pf hR (by omega)) (fun v_ σ_ hq => ?_)
                      obtain ⟨zz, rfl, hz, hz01, e9⟩ := hq
                      subst e9
                      show sE g_tt _ _ _ 216 [some (.ref 384), some (.int (iZ (nmI (tkA b n s.1))))] [.int (iZ zz)] (ms (pt σ T Pf w0) A F)
                      refine z_if_eq (tgt := 228) dX7_beginOne_216 (by decide) (by unfold inR; omega) (fun c_14 => ?_) (fun c_14 => ?_)
                      · refine z_iconst dX7_beginOne_228 ?_
                        exact s_iretZ dX7_beginOne_229 rfl (show mAns b n tx so σ A F T (bgS (tkA b n) (nuA b n) so s) _ _ by
                          unfold bgS
                          rw [if_neg (fun z : tkA b n s.1 = 38 ∧ 9999 < nuA b n s.1 => by have z1 := z.1; have z2 := z.2; omega)]; rw [if_neg (fun z : 0 ≤ nmI (tkA b n s.1) ∧ ¬ isOfP (nmI (tkA b n s.1)) so => by have z1 := z.1; have z2 := z.2; unfold isOfP at z2; omega)]; rw [if_neg (show ¬ (tkA b n s.1 = 38 ∨ 0 ≤ nmI (tkA b n s.1)) by omega)]; rw [if_neg (show ¬ tkA b n s.1 = 33 by omega)]; rw [if_neg (show ¬ tkA b n s.1 = 30 by omega)]; rw [if_neg (show ¬ tkA b n s.1 = 9 by omega)]; rw [if_neg (show ¬ tkA b n s.1 = 11 by omega)]; rw [if_neg (show ¬ tkA b n s.1 = 12 by omega)]; rw [if_neg (fun z : tkA b n s.1 = 18 ∧ askA s.2.1 => by have := hz.2 z.2; omega)]
                          exact ⟨rfl, w0, T, Pf, F, rfl, hR, hw, kpM_rf F, kpX_rf tx T⟩)
                      · refine q_aload_n dX7_beginOne_219 rfl rfl ?_
                        refine z_bipush dX7_beginOne_220 (by decide +kernel) ?_
                        refine s_callV (ci := 7) (a := 384) (As := [.int (iZ 20)]) (S := []) dX7_beginOne_222 okX7_opened mlX7_174 rfl (by omega) rfl (Nat.le_of_ble_eq_true rfl) (show kd 384 = 7 from rfl) (by decide) rfl (m_opened (d := d - 1) (x := 20) (by omega) (by omega) σ A F T Pf hR hw htx hn3 hb hb8 (by omega) (by omega)) (fun v_ σ_ hq => ?_)
                        rename gS => τ9
                        obtain ⟨rfl, hq2⟩ := hq
                        have hq : mAns b n tx so σ A F T (opS 20 s) _ τ9 := ⟨rfl, hq2⟩
                        show sE g_tt _ _ _ 225 [some (.ref 384), some (.int (iZ (nmI (tkA b n s.1))))] [.int (iZ ((opS 20 s).1))] τ9
                        refine q_goto (tgt := 229) dX7_beginOne_225 (by decide) ?_
                        exact s_iretZ dX7_beginOne_229 rfl (show mAns b n tx so σ A F T (bgS (tkA b n) (nuA b n) so s) _ _ by
                          unfold bgS
                          rw [if_neg (fun z : tkA b n s.1 = 38 ∧ 9999 < nuA b n s.1 => by have z1 := z.1; have z2 := z.2; omega)]; rw [if_neg (fun z : 0 ≤ nmI (tkA b n s.1) ∧ ¬ isOfP (nmI (tkA b n s.1)) so => by have z1 := z.1; have z2 := z.2; unfold isOfP at z2; omega)]; rw [if_neg (show ¬ (tkA b n s.1 = 38 ∨ 0 ≤ nmI (tkA b n s.1)) by omega)]; rw [if_neg (show ¬ tkA b n s.1 = 33 by omega)]; rw [if_neg (show ¬ tkA b n s.1 = 30 by omega)]; rw [if_neg (show ¬ tkA b n s.1 = 9 by omega)]; rw [if_neg (show ¬ tkA b n s.1 = 11 by omega)]; rw [if_neg (show ¬ tkA b n s.1 = 12 by omega)]; rw [if_pos (show tkA b n s.1 = 18 ∧ askA s.2.1 from ⟨by omega, hz.1 (by omega)⟩)]
                          exact hq)
                  · have c_12 := if01_1 c_12
                    refine q_aload_n dX7_beginOne_189 rfl rfl ?_
                    refine z_bipush dX7_beginOne_190 (by decide +kernel) ?_
                    refine s_callV (ci := 7) (a := 384) (As := [.int (iZ 42)]) (S := []) dX7_beginOne_192 okX7_opened mlX7_174 rfl (by omega) rfl (Nat.le_of_ble_eq_true rfl) (show kd 384 = 7 from rfl) (by decide) rfl (m_opened (d := d - 1) (x := 42) (by omega) (by omega) σ A F T Pf hR hw htx hn3 hb hb8 (by omega) (by omega)) (fun v_ σ_ hq => ?_)
                    rename gS => τ9
                    obtain ⟨rfl, hq2⟩ := hq
                    have hq : mAns b n tx so σ A F T (opS 42 s) _ τ9 := ⟨rfl, hq2⟩
                    show sE g_tt _ _ _ 195 [some (.ref 384), some (.int (iZ (nmI (tkA b n s.1))))] [.int (iZ ((opS 42 s).1))] τ9
                    exact s_iretZ dX7_beginOne_195 rfl (show mAns b n tx so σ A F T (bgS (tkA b n) (nuA b n) so s) _ _ by
                      unfold bgS
                      rw [if_neg (fun z : tkA b n s.1 = 38 ∧ 9999 < nuA b n s.1 => by have z1 := z.1; have z2 := z.2; omega)]; rw [if_neg (fun z : 0 ≤ nmI (tkA b n s.1) ∧ ¬ isOfP (nmI (tkA b n s.1)) so => by have z1 := z.1; have z2 := z.2; unfold isOfP at z2; omega)]; rw [if_neg (show ¬ (tkA b n s.1 = 38 ∨ 0 ≤ nmI (tkA b n s.1)) by omega)]; rw [if_neg (show ¬ tkA b n s.1 = 33 by omega)]; rw [if_neg (show ¬ tkA b n s.1 = 30 by omega)]; rw [if_neg (show ¬ tkA b n s.1 = 9 by omega)]; rw [if_neg (show ¬ tkA b n s.1 = 11 by omega)]; rw [if_pos (show tkA b n s.1 = 12 by omega)]
                      exact hq)
                · have c_11 := if01_1 c_11
                  refine q_aload_n dX7_beginOne_169 rfl rfl ?_
                  refine z_iconst dX7_beginOne_170 ?_
                  refine s_callV (ci := 7) (a := 384) (As := [.int (iZ 2)]) (S := []) dX7_beginOne_171 okX7_opened mlX7_174 rfl (by omega) rfl (Nat.le_of_ble_eq_true rfl) (show kd 384 = 7 from rfl) (by decide) rfl (m_opened (d := d - 1) (x := 2) (by omega) (by omega) σ A F T Pf hR hw htx hn3 hb hb8 (by omega) (by omega)) (fun v_ σ_ hq => ?_)
                  rename gS => τ9
                  obtain ⟨rfl, hq2⟩ := hq
                  have hq : mAns b n tx so σ A F T (opS 2 s) _ τ9 := ⟨rfl, hq2⟩
                  show sE g_tt _ _ _ 174 [some (.ref 384), some (.int (iZ (nmI (tkA b n s.1))))] [.int (iZ ((opS 2 s).1))] τ9
                  exact s_iretZ dX7_beginOne_174 rfl (show mAns b n tx so σ A F T (bgS (tkA b n) (nuA b n) so s) _ _ by
                    unfold bgS
                    rw [if_neg (fun z : tkA b n s.1 = 38 ∧ 9999 < nuA b n s.1 => by have z1 := z.1; have z2 := z.2; omega)]; rw [if_neg (fun z : 0 ≤ nmI (tkA b n s.1) ∧ ¬ isOfP (nmI (tkA b n s.1)) so => by have z1 := z.1; have z2 := z.2; unfold isOfP at z2; omega)]; rw [if_neg (show ¬ (tkA b n s.1 = 38 ∨ 0 ≤ nmI (tkA b n s.1)) by omega)]; rw [if_neg (show ¬ tkA b n s.1 = 33 by omega)]; rw [if_neg (show ¬ tkA b n s.1 = 30 by omega)]; rw [if_neg (show ¬ tkA b n s.1 = 9 by omega)]; rw [if_pos (show tkA b n s.1 = 11 by omega)]
                    exact hq)
              · have c_10 := if01_1 c_10
                refine q_aload_n dX7_beginOne_142 rfl rfl ?_
                refine z_bipush dX7_beginOne_143 (by decide +kernel) ?_
                refine s_callV (ci := 7) (a := 384) (As := [.int (iZ 41)]) (S := []) dX7_beginOne_145 okX7_opened mlX7_174 rfl (by omega) rfl (Nat.le_of_ble_eq_true rfl) (show kd 384 = 7 from rfl) (by decide) rfl (m_opened (d := d - 1) (x := 41) (by omega) (by omega) σ A F T Pf hR hw htx hn3 hb hb8 (by omega) (by omega)) (fun v_ σ_ hq => ?_)
                rename gS => τ9
                obtain ⟨rfl, hq2⟩ := hq
                have hq : mAns b n tx so σ A F T (opS 41 s) _ τ9 := ⟨rfl, hq2⟩
                show sE g_tt _ _ _ 148 [some (.ref 384), some (.int (iZ (nmI (tkA b n s.1))))] [.int (iZ ((opS 41 s).1))] τ9
                exact s_iretZ dX7_beginOne_148 rfl (show mAns b n tx so σ A F T (bgS (tkA b n) (nuA b n) so s) _ _ by
                  unfold bgS
                  rw [if_neg (fun z : tkA b n s.1 = 38 ∧ 9999 < nuA b n s.1 => by have z1 := z.1; have z2 := z.2; omega)]; rw [if_neg (fun z : 0 ≤ nmI (tkA b n s.1) ∧ ¬ isOfP (nmI (tkA b n s.1)) so => by have z1 := z.1; have z2 := z.2; unfold isOfP at z2; omega)]; rw [if_neg (show ¬ (tkA b n s.1 = 38 ∨ 0 ≤ nmI (tkA b n s.1)) by omega)]; rw [if_neg (show ¬ tkA b n s.1 = 33 by omega)]; rw [if_neg (show ¬ tkA b n s.1 = 30 by omega)]; rw [if_pos (show tkA b n s.1 = 9 by omega)]
                  exact hq)
            · refine q_aload_n dX7_beginOne_118 rfl rfl ?_
              refine z_iconst dX7_beginOne_119 ?_
              refine s_callV (ci := 7) (a := 384) (As := [.int (iZ 5)]) (S := []) dX7_beginOne_120 okX7_opened mlX7_174 rfl (by omega) rfl (Nat.le_of_ble_eq_true rfl) (show kd 384 = 7 from rfl) (by decide) rfl (m_opened (d := d - 1) (x := 5) (by omega) (by omega) σ A F T Pf hR hw htx hn3 hb hb8 (by omega) (by omega)) (fun v_ σ_ hq => ?_)
              rename gS => τ9
              obtain ⟨rfl, hq2⟩ := hq
              have hq : mAns b n tx so σ A F T (opS 5 s) _ τ9 := ⟨rfl, hq2⟩
              show sE g_tt _ _ _ 123 [some (.ref 384), some (.int (iZ (nmI (tkA b n s.1))))] [.int (iZ ((opS 5 s).1))] τ9
              exact s_iretZ dX7_beginOne_123 rfl (show mAns b n tx so σ A F T (bgS (tkA b n) (nuA b n) so s) _ _ by
                unfold bgS
                rw [if_neg (fun z : tkA b n s.1 = 38 ∧ 9999 < nuA b n s.1 => by have z1 := z.1; have z2 := z.2; omega)]; rw [if_neg (fun z : 0 ≤ nmI (tkA b n s.1) ∧ ¬ isOfP (nmI (tkA b n s.1)) so => by have z1 := z.1; have z2 := z.2; unfold isOfP at z2; omega)]; rw [if_neg (show ¬ (tkA b n s.1 = 38 ∨ 0 ≤ nmI (tkA b n s.1)) by omega)]; rw [if_neg (show ¬ tkA b n s.1 = 33 by omega)]; rw [if_pos (show tkA b n s.1 = 30 by omega)]
                exact hq)
          · refine q_aload_n dX7_beginOne_102 rfl rfl ?_
            refine z_bipush dX7_beginOne_103 (by decide +kernel) ?_
            refine s_callV (ci := 7) (a := 384) (As := [.int (iZ 40)]) (S := []) dX7_beginOne_105 okX7_opened mlX7_174 rfl (by omega) rfl (Nat.le_of_ble_eq_true rfl) (show kd 384 = 7 from rfl) (by decide) rfl (m_opened (d := d - 1) (x := 40) (by omega) (by omega) σ A F T Pf hR hw htx hn3 hb hb8 (by omega) (by omega)) (fun v_ σ_ hq => ?_)
            rename gS => τ9
            obtain ⟨rfl, hq2⟩ := hq
            have hq : mAns b n tx so σ A F T (opS 40 s) _ τ9 := ⟨rfl, hq2⟩
            show sE g_tt _ _ _ 108 [some (.ref 384), some (.int (iZ (nmI (tkA b n s.1))))] [.int (iZ ((opS 40 s).1))] τ9
            exact s_iretZ dX7_beginOne_108 rfl (show mAns b n tx so σ A F T (bgS (tkA b n) (nuA b n) so s) _ _ by
              unfold bgS
              rw [if_neg (fun z : tkA b n s.1 = 38 ∧ 9999 < nuA b n s.1 => by have z1 := z.1; have z2 := z.2; omega)]; rw [if_neg (fun z : 0 ≤ nmI (tkA b n s.1) ∧ ¬ isOfP (nmI (tkA b n s.1)) so => by have z1 := z.1; have z2 := z.2; unfold isOfP at z2; omega)]; rw [if_neg (show ¬ (tkA b n s.1 = 38 ∨ 0 ≤ nmI (tkA b n s.1)) by omega)]; rw [if_pos (show tkA b n s.1 = 33 by omega)]
              exact hq)
        · refine q_aload_n dX7_beginOne_51 rfl rfl ?_
          refine q_aload_n dX7_beginOne_52 rfl rfl ?_
          refine sg7 (kf := 9) (v := .int (iZ (F 9))) dX7_beginOne_53 flX7_91 (show kd 384 = 7 from rfl) (by decide) rfl ?_
          refine z_iconst dX7_beginOne_56 ?_
          refine z_icmp_ne (tgt := 64) dX7_beginOne_57 (by decide) (by unfold inR; omega) (by unfold inR; omega) (fun c_15 => ?_) (fun c_15 => ?_)
          · refine z_iconst dX7_beginOne_64 ?_
            refine q_aload_n dX7_beginOne_65 rfl rfl ?_
            refine sg7 (kf := 9) (v := .int (iZ (F 9))) dX7_beginOne_66 flX7_91 (show kd 384 = 7 from rfl) (by decide) rfl ?_
            refine z_iconst dX7_beginOne_69 ?_
            refine z_icmp_ne (tgt := 80) dX7_beginOne_70 (by decide) (by unfold inR; omega) (by unfold inR; omega) (fun c_16 => ?_) (fun c_16 => ?_)
            · refine q_iload_n dX7_beginOne_80 rfl rfl ?_
              refine s_callV (ci := 7) (a := 384) (As := [.int (iZ 1), .int (iZ (nmI (tkA b n s.1)))]) (S := []) dX7_beginOne_81 okX7_emit mlX7_148 rfl (by omega) rfl (Nat.le_of_ble_eq_true rfl) (show kd 384 = 7 from rfl) (by decide) rfl (m_emit (d := d - 1) (x := 1) (y := nmI (tkA b n s.1)) σ A F T Pf hR htx (by omega)) (fun v_ σ_ hq => ?_)
              obtain ⟨rfl, T1, F1, e9, hR1, h18, kM, kX⟩ := hq
              subst e9
              show sE g_tt _ _ _ 84 [some (.ref 384), some (.int (iZ (nmI (tkA b n s.1))))] [] (ms (pt σ T1 Pf w0) A F1)
              refine q_aload_n dX7_beginOne_84 rfl rfl ?_
              refine s_callV (ci := 7) (a := 384) (As := []) (S := []) dX7_beginOne_85 okX7_nextToken mlX7_162 rfl (by omega) rfl (Nat.le_of_ble_eq_true rfl) (show kd 384 = 7 from rfl) (by decide) rfl (m_nxt (d := d - 1) (by omega) σ A F1 T1 Pf hn3 hb hb8 hR1.1) (fun v_ σ_ hq => ?_)
              obtain ⟨rfl, w1, F2, e9, ld9, kp9⟩ := hq
              subst e9
              have hR2 := psR_k hR1 kp9 ld9
              show sE g_tt _ _ _ 88 [some (.ref 384), some (.int (iZ (nmI (tkA b n s.1))))] [] (ms (pt σ T1 Pf w1) A F2)
              refine q_aload_n dX7_beginOne_88 rfl rfl ?_
              refine s_callV (ci := 7) (a := 384) (As := []) (S := []) dX7_beginOne_89 okX7_endOne mlX7_171 rfl (by omega) rfl (Nat.le_of_ble_eq_true rfl) (show kd 384 = 7 from rfl) (by decide) rfl (m_endOne (d := d - 1) (by omega) σ A F2 T1 Pf hR2 htx hn3 hb hb8 ⟨by show s.2.1.length ≤ 155; omega, by show s.2.1.length + ((1, nmI (tkA b n s.1)) :: s.2.2.2).length ≤ 304; rw [List.length_cons]; omega⟩) (fun v_ σ_ hq => ?_)
              rename gS => τ9
              obtain ⟨rfl, hq2⟩ := hq
              have hq : mAns b n tx so σ A F T (eoS (tkA b n) (s.1 + 1, s.2.1, s.2.2.1, (1, nmI (tkA b n s.1)) :: s.2.2.2)) _ τ9 := mAns_tr ⟨rfl, hq2⟩ (kpM_tr kM (kpM_T kp9)) kX
              show sE g_tt _ _ _ 92 [some (.ref 384), some (.int (iZ (nmI (tkA b n s.1))))] [.int (iZ ((eoS (tkA b n) (s.1 + 1, s.2.1, s.2.2.1, (1, nmI (tkA b n s.1)) :: s.2.2.2)).1))] τ9
              exact s_iretZ dX7_beginOne_92 rfl (show mAns b n tx so σ A F T (bgS (tkA b n) (nuA b n) so s) _ _ by
                unfold bgS
                rw [if_neg (fun z : tkA b n s.1 = 38 ∧ 9999 < nuA b n s.1 => by have z1 := z.1; have z2 := z.2; omega)]; rw [if_neg (fun z : 0 ≤ nmI (tkA b n s.1) ∧ ¬ isOfP (nmI (tkA b n s.1)) so => by have z1 := z.1; have z2 := z.2; unfold isOfP at z2; omega)]; rw [if_pos (show tkA b n s.1 = 38 ∨ 0 ≤ nmI (tkA b n s.1) by omega), show (if tkA b n s.1 = 38 then ((0 : Int), nuA b n s.1) else (1, nmI (tkA b n s.1))) = (1, nmI (tkA b n s.1)) by rw [if_neg (by omega)]]
                exact hq)
            · refine q_aload_n dX7_beginOne_73 rfl rfl ?_
              refine sg7 (kf := 10) (v := .int (iZ (F 10))) dX7_beginOne_74 flX7_97 (show kd 384 = 7 from rfl) (by decide) rfl ?_
              refine q_goto (tgt := 81) dX7_beginOne_77 (by decide) ?_
              exfalso
              omega
          · refine z_iconst dX7_beginOne_60 ?_
            refine q_goto (tgt := 65) dX7_beginOne_61 (by decide) ?_
            refine q_aload_n dX7_beginOne_65 rfl rfl ?_
            refine sg7 (kf := 9) (v := .int (iZ (F 9))) dX7_beginOne_66 flX7_91 (show kd 384 = 7 from rfl) (by decide) rfl ?_
            refine z_iconst dX7_beginOne_69 ?_
            refine z_icmp_ne (tgt := 80) dX7_beginOne_70 (by decide) (by unfold inR; omega) (by unfold inR; omega) (fun c_17 => ?_) (fun c_17 => ?_)
            · refine q_iload_n dX7_beginOne_80 rfl rfl ?_
              exfalso
              omega
            · refine q_aload_n dX7_beginOne_73 rfl rfl ?_
              refine sg7 (kf := 10) (v := .int (iZ (F 10))) dX7_beginOne_74 flX7_97 (show kd 384 = 7 from rfl) (by decide) rfl ?_
              refine q_goto (tgt := 81) dX7_beginOne_77 (by decide) ?_
              refine s_callV (ci := 7) (a := 384) (As := [.int (iZ 0), .int (iZ (F 10))]) (S := []) dX7_beginOne_81 okX7_emit mlX7_148 rfl (by omega) rfl (Nat.le_of_ble_eq_true rfl) (show kd 384 = 7 from rfl) (by decide) rfl (m_emit (d := d - 1) (x := 0) (y := F 10) σ A F T Pf hR htx (by omega)) (fun v_ σ_ hq => ?_)
              obtain ⟨rfl, T1, F1, e9, hR1, h18, kM, kX⟩ := hq
              subst e9
              show sE g_tt _ _ _ 84 [some (.ref 384), some (.int (iZ (nmI (tkA b n s.1))))] [] (ms (pt σ T1 Pf w0) A F1)
              refine q_aload_n dX7_beginOne_84 rfl rfl ?_
              refine s_callV (ci := 7) (a := 384) (As := []) (S := []) dX7_beginOne_85 okX7_nextToken mlX7_162 rfl (by omega) rfl (Nat.le_of_ble_eq_true rfl) (show kd 384 = 7 from rfl) (by decide) rfl (m_nxt (d := d - 1) (by omega) σ A F1 T1 Pf hn3 hb hb8 hR1.1) (fun v_ σ_ hq => ?_)
              obtain ⟨rfl, w1, F2, e9, ld9, kp9⟩ := hq
              subst e9
              have hR2 := psR_k hR1 kp9 ld9
              show sE g_tt _ _ _ 88 [some (.ref 384), some (.int (iZ (nmI (tkA b n s.1))))] [] (ms (pt σ T1 Pf w1) A F2)
              refine q_aload_n dX7_beginOne_88 rfl rfl ?_
              refine s_callV (ci := 7) (a := 384) (As := []) (S := []) dX7_beginOne_89 okX7_endOne mlX7_171 rfl (by omega) rfl (Nat.le_of_ble_eq_true rfl) (show kd 384 = 7 from rfl) (by decide) rfl (m_endOne (d := d - 1) (by omega) σ A F2 T1 Pf hR2 htx hn3 hb hb8 ⟨by show s.2.1.length ≤ 155; omega, by show s.2.1.length + ((0, F 10) :: s.2.2.2).length ≤ 304; rw [List.length_cons]; omega⟩) (fun v_ σ_ hq => ?_)
              rename gS => τ9
              obtain ⟨rfl, hq2⟩ := hq
              have hq : mAns b n tx so σ A F T (eoS (tkA b n) (s.1 + 1, s.2.1, s.2.2.1, (0, F 10) :: s.2.2.2)) _ τ9 := mAns_tr ⟨rfl, hq2⟩ (kpM_tr kM (kpM_T kp9)) kX
              show sE g_tt _ _ _ 92 [some (.ref 384), some (.int (iZ (nmI (tkA b n s.1))))] [.int (iZ ((eoS (tkA b n) (s.1 + 1, s.2.1, s.2.2.1, (0, F 10) :: s.2.2.2)).1))] τ9
              exact s_iretZ dX7_beginOne_92 rfl (show mAns b n tx so σ A F T (bgS (tkA b n) (nuA b n) so s) _ _ by
                unfold bgS
                rw [if_neg (fun z : tkA b n s.1 = 38 ∧ 9999 < nuA b n s.1 => by have z1 := z.1; have z2 := z.2; omega)]; rw [if_neg (fun z : 0 ≤ nmI (tkA b n s.1) ∧ ¬ isOfP (nmI (tkA b n s.1)) so => by have z1 := z.1; have z2 := z.2; unfold isOfP at z2; omega)]; rw [if_pos (show tkA b n s.1 = 38 ∨ 0 ≤ nmI (tkA b n s.1) by omega), show (if tkA b n s.1 = 38 then ((0 : Int), nuA b n s.1) else (1, nmI (tkA b n s.1))) = (0, F 10) by rw [if_pos (by omega)]; rw [show nuA b n s.1 = F 10 by omega]]
                exact hq)
    · refine q_aload_n dX7_beginOne_29 rfl rfl ?_
      refine q_iload_n dX7_beginOne_30 rfl rfl ?_
      refine s_callV (ci := 7) (a := 384) (As := [.int (iZ (nmI (tkA b n s.1)))]) (S := []) dX7_beginOne_31 okX7_isOf mlX7_168 rfl (by omega) rfl (Nat.le_of_ble_eq_true rfl) (show kd 384 = 7 from rfl) (by decide) rfl (m_isOf (d := d - 1) (n := nmI (tkA b n s.1)) (by unfold inR; omega) (pt σ T Pf w0) A F (by rw [hR.2.2.2.1]; unfold inR; omega)) (fun v_ σ_ hq => ?_)
      obtain ⟨rfl, e9⟩ := hq
      have e9 := e9.symm
      subst e9
      refine z_top (y := if nmI (tkA b n s.1) < 5 ∨ (nmI (tkA b n s.1) = 7 ∧ so = 1) ∨ (¬ nmI (tkA b n s.1) = 7 ∧ so = 0) then 1 else 0) (by rw [hR.2.2.2.1]) ?_
      show sE g_tt _ _ _ 34 [some (.ref 384), some (.int (iZ (nmI (tkA b n s.1))))] [.int (iZ (if nmI (tkA b n s.1) < 5 ∨ (nmI (tkA b n s.1) = 7 ∧ so = 1) ∨ (¬ nmI (tkA b n s.1) = 7 ∧ so = 0) then 1 else 0))] (ms (pt σ T Pf w0) A F)
      refine z_if_ne (tgt := 39) dX7_beginOne_34 (by decide) inR_01 (fun c_18 => ?_) (fun c_18 => ?_)
      · have c_18 := if01_1 c_18
        refine q_aload_n dX7_beginOne_39 rfl rfl ?_
        refine sg7 (kf := 9) (v := .int (iZ (F 9))) dX7_beginOne_40 flX7_91 (show kd 384 = 7 from rfl) (by decide) rfl ?_
        refine z_iconst dX7_beginOne_43 ?_
        refine z_icmp_eq (tgt := 51) dX7_beginOne_44 (by decide) (by unfold inR; omega) (by unfold inR; omega) (fun c_19 => ?_) (fun c_19 => ?_)
        · refine q_aload_n dX7_beginOne_51 rfl rfl ?_
          refine q_aload_n dX7_beginOne_52 rfl rfl ?_
          refine sg7 (kf := 9) (v := .int (iZ (F 9))) dX7_beginOne_53 flX7_91 (show kd 384 = 7 from rfl) (by decide) rfl ?_
          refine z_iconst dX7_beginOne_56 ?_
          refine z_icmp_ne (tgt := 64) dX7_beginOne_57 (by decide) (by unfold inR; omega) (by unfold inR; omega) (fun c_20 => ?_) (fun c_20 => ?_)
          · refine z_iconst dX7_beginOne_64 ?_
            refine q_aload_n dX7_beginOne_65 rfl rfl ?_
            refine sg7 (kf := 9) (v := .int (iZ (F 9))) dX7_beginOne_66 flX7_91 (show kd 384 = 7 from rfl) (by decide) rfl ?_
            refine z_iconst dX7_beginOne_69 ?_
            refine z_icmp_ne (tgt := 80) dX7_beginOne_70 (by decide) (by unfold inR; omega) (by unfold inR; omega) (fun c_21 => ?_) (fun c_21 => ?_)
            · refine q_iload_n dX7_beginOne_80 rfl rfl ?_
              refine s_callV (ci := 7) (a := 384) (As := [.int (iZ 1), .int (iZ (nmI (tkA b n s.1)))]) (S := []) dX7_beginOne_81 okX7_emit mlX7_148 rfl (by omega) rfl (Nat.le_of_ble_eq_true rfl) (show kd 384 = 7 from rfl) (by decide) rfl (m_emit (d := d - 1) (x := 1) (y := nmI (tkA b n s.1)) σ A F T Pf hR htx (by omega)) (fun v_ σ_ hq => ?_)
              obtain ⟨rfl, T1, F1, e9, hR1, h18, kM, kX⟩ := hq
              subst e9
              show sE g_tt _ _ _ 84 [some (.ref 384), some (.int (iZ (nmI (tkA b n s.1))))] [] (ms (pt σ T1 Pf w0) A F1)
              refine q_aload_n dX7_beginOne_84 rfl rfl ?_
              refine s_callV (ci := 7) (a := 384) (As := []) (S := []) dX7_beginOne_85 okX7_nextToken mlX7_162 rfl (by omega) rfl (Nat.le_of_ble_eq_true rfl) (show kd 384 = 7 from rfl) (by decide) rfl (m_nxt (d := d - 1) (by omega) σ A F1 T1 Pf hn3 hb hb8 hR1.1) (fun v_ σ_ hq => ?_)
              obtain ⟨rfl, w1, F2, e9, ld9, kp9⟩ := hq
              subst e9
              have hR2 := psR_k hR1 kp9 ld9
              show sE g_tt _ _ _ 88 [some (.ref 384), some (.int (iZ (nmI (tkA b n s.1))))] [] (ms (pt σ T1 Pf w1) A F2)
              refine q_aload_n dX7_beginOne_88 rfl rfl ?_
              refine s_callV (ci := 7) (a := 384) (As := []) (S := []) dX7_beginOne_89 okX7_endOne mlX7_171 rfl (by omega) rfl (Nat.le_of_ble_eq_true rfl) (show kd 384 = 7 from rfl) (by decide) rfl (m_endOne (d := d - 1) (by omega) σ A F2 T1 Pf hR2 htx hn3 hb hb8 ⟨by show s.2.1.length ≤ 155; omega, by show s.2.1.length + ((1, nmI (tkA b n s.1)) :: s.2.2.2).length ≤ 304; rw [List.length_cons]; omega⟩) (fun v_ σ_ hq => ?_)
              rename gS => τ9
              obtain ⟨rfl, hq2⟩ := hq
              have hq : mAns b n tx so σ A F T (eoS (tkA b n) (s.1 + 1, s.2.1, s.2.2.1, (1, nmI (tkA b n s.1)) :: s.2.2.2)) _ τ9 := mAns_tr ⟨rfl, hq2⟩ (kpM_tr kM (kpM_T kp9)) kX
              show sE g_tt _ _ _ 92 [some (.ref 384), some (.int (iZ (nmI (tkA b n s.1))))] [.int (iZ ((eoS (tkA b n) (s.1 + 1, s.2.1, s.2.2.1, (1, nmI (tkA b n s.1)) :: s.2.2.2)).1))] τ9
              exact s_iretZ dX7_beginOne_92 rfl (show mAns b n tx so σ A F T (bgS (tkA b n) (nuA b n) so s) _ _ by
                unfold bgS
                rw [if_neg (fun z : tkA b n s.1 = 38 ∧ 9999 < nuA b n s.1 => by have z1 := z.1; have z2 := z.2; omega)]; rw [if_neg (fun z : 0 ≤ nmI (tkA b n s.1) ∧ ¬ isOfP (nmI (tkA b n s.1)) so => by have z1 := z.1; have z2 := z.2; unfold isOfP at z2; omega)]; rw [if_pos (show tkA b n s.1 = 38 ∨ 0 ≤ nmI (tkA b n s.1) by omega), show (if tkA b n s.1 = 38 then ((0 : Int), nuA b n s.1) else (1, nmI (tkA b n s.1))) = (1, nmI (tkA b n s.1)) by rw [if_neg (by omega)]]
                exact hq)
            · refine q_aload_n dX7_beginOne_73 rfl rfl ?_
              refine sg7 (kf := 10) (v := .int (iZ (F 10))) dX7_beginOne_74 flX7_97 (show kd 384 = 7 from rfl) (by decide) rfl ?_
              refine q_goto (tgt := 81) dX7_beginOne_77 (by decide) ?_
              exfalso
              omega
          · refine z_iconst dX7_beginOne_60 ?_
            refine q_goto (tgt := 65) dX7_beginOne_61 (by decide) ?_
            refine q_aload_n dX7_beginOne_65 rfl rfl ?_
            refine sg7 (kf := 9) (v := .int (iZ (F 9))) dX7_beginOne_66 flX7_91 (show kd 384 = 7 from rfl) (by decide) rfl ?_
            refine z_iconst dX7_beginOne_69 ?_
            refine z_icmp_ne (tgt := 80) dX7_beginOne_70 (by decide) (by unfold inR; omega) (by unfold inR; omega) (fun c_22 => ?_) (fun c_22 => ?_)
            · refine q_iload_n dX7_beginOne_80 rfl rfl ?_
              exfalso
              omega
            · refine q_aload_n dX7_beginOne_73 rfl rfl ?_
              refine sg7 (kf := 10) (v := .int (iZ (F 10))) dX7_beginOne_74 flX7_97 (show kd 384 = 7 from rfl) (by decide) rfl ?_
              refine q_goto (tgt := 81) dX7_beginOne_77 (by decide) ?_
              refine s_callV (ci := 7) (a := 384) (As := [.int (iZ 0), .int (iZ (F 10))]) (S := []) dX7_beginOne_81 okX7_emit mlX7_148 rfl (by omega) rfl (Nat.le_of_ble_eq_true rfl) (show kd 384 = 7 from rfl) (by decide) rfl (m_emit (d := d - 1) (x := 0) (y := F 10) σ A F T Pf hR htx (by omega)) (fun v_ σ_ hq => ?_)
              obtain ⟨rfl, T1, F1, e9, hR1, h18, kM, kX⟩ := hq
              subst e9
              show sE g_tt _ _ _ 84 [some (.ref 384), some (.int (iZ (nmI (tkA b n s.1))))] [] (ms (pt σ T1 Pf w0) A F1)
              refine q_aload_n dX7_beginOne_84 rfl rfl ?_
              refine s_callV (ci := 7) (a := 384) (As := []) (S := []) dX7_beginOne_85 okX7_nextToken mlX7_162 rfl (by omega) rfl (Nat.le_of_ble_eq_true rfl) (show kd 384 = 7 from rfl) (by decide) rfl (m_nxt (d := d - 1) (by omega) σ A F1 T1 Pf hn3 hb hb8 hR1.1) (fun v_ σ_ hq => ?_)
              obtain ⟨rfl, w1, F2, e9, ld9, kp9⟩ := hq
              subst e9
              have hR2 := psR_k hR1 kp9 ld9
              show sE g_tt _ _ _ 88 [some (.ref 384), some (.int (iZ (nmI (tkA b n s.1))))] [] (ms (pt σ T1 Pf w1) A F2)
              refine q_aload_n dX7_beginOne_88 rfl rfl ?_
              refine s_callV (ci := 7) (a := 384) (As := []) (S := []) dX7_beginOne_89 okX7_endOne mlX7_171 rfl (by omega) rfl (Nat.le_of_ble_eq_true rfl) (show kd 384 = 7 from rfl) (by decide) rfl (m_endOne (d := d - 1) (by omega) σ A F2 T1 Pf hR2 htx hn3 hb hb8 ⟨by show s.2.1.length ≤ 155; omega, by show s.2.1.length + ((0, F 10) :: s.2.2.2).length ≤ 304; rw [List.length_cons]; omega⟩) (fun v_ σ_ hq => ?_)
              rename gS => τ9
              obtain ⟨rfl, hq2⟩ := hq
              have hq : mAns b n tx so σ A F T (eoS (tkA b n) (s.1 + 1, s.2.1, s.2.2.1, (0, F 10) :: s.2.2.2)) _ τ9 := mAns_tr ⟨rfl, hq2⟩ (kpM_tr kM (kpM_T kp9)) kX
              show sE g_tt _ _ _ 92 [some (.ref 384), some (.int (iZ (nmI (tkA b n s.1))))] [.int (iZ ((eoS (tkA b n) (s.1 + 1, s.2.1, s.2.2.1, (0, F 10) :: s.2.2.2)).1))] τ9
              exact s_iretZ dX7_beginOne_92 rfl (show mAns b n tx so σ A F T (bgS (tkA b n) (nuA b n) so s) _ _ by
                unfold bgS
                rw [if_neg (fun z : tkA b n s.1 = 38 ∧ 9999 < nuA b n s.1 => by have z1 := z.1; have z2 := z.2; omega)]; rw [if_neg (fun z : 0 ≤ nmI (tkA b n s.1) ∧ ¬ isOfP (nmI (tkA b n s.1)) so => by have z1 := z.1; have z2 := z.2; unfold isOfP at z2; omega)]; rw [if_pos (show tkA b n s.1 = 38 ∨ 0 ≤ nmI (tkA b n s.1) by omega), show (if tkA b n s.1 = 38 then ((0 : Int), nuA b n s.1) else (1, nmI (tkA b n s.1))) = (0, F 10) by rw [if_pos (by omega)]; rw [show nuA b n s.1 = F 10 by omega]]
                exact hq)
        · refine q_iload_n dX7_beginOne_47 rfl rfl ?_
          refine z_if_lt (tgt := 93) dX7_beginOne_48 (by decide) (by unfold inR; omega) (fun c_23 => ?_) (fun c_23 => ?_)
          · refine q_aload_n dX7_beginOne_93 rfl rfl ?_
            refine sg7 (kf := 9) (v := .int (iZ (F 9))) dX7_beginOne_94 flX7_91 (show kd 384 = 7 from rfl) (by decide) rfl ?_
            refine z_bipush dX7_beginOne_97 (by decide +kernel) ?_
            refine z_icmp_ne (tgt := 109) dX7_beginOne_99 (by decide) (by unfold inR; omega) (by unfold inR; omega) (fun c_24 => ?_) (fun c_24 => ?_)
            · refine q_aload_n dX7_beginOne_109 rfl rfl ?_
              refine sg7 (kf := 9) (v := .int (iZ (F 9))) dX7_beginOne_110 flX7_91 (show kd 384 = 7 from rfl) (by decide) rfl ?_
              refine z_bipush dX7_beginOne_113 (by decide +kernel) ?_
              refine z_icmp_ne (tgt := 124) dX7_beginOne_115 (by decide) (by unfold inR; omega) (by unfold inR; omega) (fun c_25 => ?_) (fun c_25 => ?_)
              · refine q_aload_n dX7_beginOne_124 rfl rfl ?_
                refine z_bipush dX7_beginOne_125 (by decide +kernel) ?_
                refine z_bipush dX7_beginOne_127 (by decide +kernel) ?_
                refine z_bipush dX7_beginOne_129 (by decide +kernel) ?_
                refine z_bipush dX7_beginOne_131 (by decide +kernel) ?_
                refine s_callS (As := [.int (iZ 111), .int (iZ 118), .int (iZ 101), .int (iZ 114)]) (S := [.ref 384]) dX7_beginOne_133 okX7_w4 mlX7_121 rfl (by omega) rfl (Nat.le_of_ble_eq_true rfl) (m_w4 (d := d - 1) (x := 111) (y := 118) (z := 101) (u := 114) (by omega) (by omega) (by omega) (by omega) (by omega) (ms (pt σ T Pf w0) A F)) (fun v_ σ_ hq => ?_)
                obtain ⟨rfl, e9⟩ := hq
                have e9 := e9.symm
                subst e9
                show sE g_tt _ _ _ 136 [some (.ref 384), some (.int (iZ (nmI (tkA b n s.1))))] [.long (lZ (((111 * 256 + 118) * 256 + 101) * 256 + 114)), .ref 384] (ms (pt σ T Pf w0) A F)
                refine s_callV (ci := 7) (a := 384) (As := [.long (lZ (((111 * 256 + 118) * 256 + 101) * 256 + 114))]) (S := []) dX7_beginOne_136 okX7_isWord mlX7_177 rfl (by omega) rfl (Nat.le_of_ble_eq_true rfl) (show kd 384 = 7 from rfl) (by decide) rfl (m_isW (d := d - 1) (x := ((111 * 256 + 118) * 256 + 101) * 256 + 114) σ A F T Pf (b := b) (n := n) (k := s.1) hR.1 (j := 9) (by decide) (by decide +kernel)) (fun v_ σ_ hq => ?_)
                obtain ⟨rfl, e9⟩ := hq
                have e9 := e9.symm
                subst e9
                show sE g_tt _ _ _ 139 [some (.ref 384), some (.int (iZ (nmI (tkA b n s.1))))] [.int (iZ (if tkA b n s.1 = ((9 : Nat) : Int) then 1 else 0))] (ms (pt σ T Pf w0) A F)
                refine z_if_eq (tgt := 149) dX7_beginOne_139 (by decide) inR_01 (fun c_26 => ?_) (fun c_26 => ?_)
                · have c_26 := if01_0 c_26
                  refine q_aload_n dX7_beginOne_149 rfl rfl ?_
                  refine z_bipush dX7_beginOne_150 (by decide +kernel) ?_
                  refine z_bipush dX7_beginOne_152 (by decide +kernel) ?_
                  refine z_bipush dX7_beginOne_154 (by decide +kernel) ?_
                  refine z_bipush dX7_beginOne_156 (by decide +kernel) ?_
                  refine z_bipush dX7_beginOne_158 (by decide +kernel) ?_
                  refine s_callS (As := [.int (iZ 104), .int (iZ 111), .int (iZ 117), .int (iZ 115), .int (iZ 101)]) (S := [.ref 384]) dX7_beginOne_160 okX7_w5 mlX7_125 rfl (by omega) rfl (Nat.le_of_ble_eq_true rfl) (m_w5 (d := d - 1) (x := 104) (y := 111) (z := 117) (u := 115) (v := 101) (by omega) (by omega) (by omega) (by omega) (by omega) (by omega) (ms (pt σ T Pf w0) A F)) (fun v_ σ_ hq => ?_)
                  obtain ⟨rfl, e9⟩ := hq
                  have e9 := e9.symm
                  subst e9
                  show sE g_tt _ _ _ 163 [some (.ref 384), some (.int (iZ (nmI (tkA b n s.1))))] [.long (lZ ((((104 * 256 + 111) * 256 + 117) * 256 + 115) * 256 + 101)), .ref 384] (ms (pt σ T Pf w0) A F)
                  refine s_callV (ci := 7) (a := 384) (As := [.long (lZ ((((104 * 256 + 111) * 256 + 117) * 256 + 115) * 256 + 101))]) (S := []) dX7_beginOne_163 okX7_isWord mlX7_177 rfl (by omega) rfl (Nat.le_of_ble_eq_true rfl) (show kd 384 = 7 from rfl) (by decide) rfl (m_isW (d := d - 1) (x := (((104 * 256 + 111) * 256 + 117) * 256 + 115) * 256 + 101) σ A F T Pf (b := b) (n := n) (k := s.1) hR.1 (j := 11) (by decide) (by decide +kernel)) (fun v_ σ_ hq => ?_)
                  obtain ⟨rfl, e9⟩ := hq
                  have e9 := e9.symm
                  subst e9
                  show sE g_tt _ _ _ 166 [some (.ref 384), some (.int (iZ (nmI (tkA b n s.1))))] [.int (iZ (if tkA b n s.1 = ((11 : Nat) : Int) then 1 else 0))] (ms (pt σ T Pf w0) A F)
                  refine z_if_eq (tgt := 175) dX7_beginOne_166 (by decide) inR_01 (fun c_27 => ?_) (fun c_27 => ?_)
                  · have c_27 := if01_0 c_27
                    refine q_aload_n dX7_beginOne_175 rfl rfl ?_
                    refine z_bipush dX7_beginOne_176 (by decide +kernel) ?_
                    refine z_bipush dX7_beginOne_178 (by decide +kernel) ?_
                    refine s_callS (As := [.int (iZ 105), .int (iZ 102)]) (S := [.ref 384]) dX7_beginOne_180 okX7_w2 mlX7_113 rfl (by omega) rfl (Nat.le_of_ble_eq_true rfl) (m_w2 (d := d - 1) (x := 105) (y := 102) (by omega) (by omega) (by omega) (ms (pt σ T Pf w0) A F)) (fun v_ σ_ hq => ?_)
                    obtain ⟨rfl, e9⟩ := hq
                    have e9 := e9.symm
                    subst e9
                    show sE g_tt _ _ _ 183 [some (.ref 384), some (.int (iZ (nmI (tkA b n s.1))))] [.long (lZ (105 * 256 + 102)), .ref 384] (ms (pt σ T Pf w0) A F)
                    refine s_callV (ci := 7) (a := 384) (As := [.long (lZ (105 * 256 + 102))]) (S := []) dX7_beginOne_183 okX7_isWord mlX7_177 rfl (by omega) rfl (Nat.le_of_ble_eq_true rfl) (show kd 384 = 7 from rfl) (by decide) rfl (m_isW (d := d - 1) (x := 105 * 256 + 102) σ A F T Pf (b := b) (n := n) (k := s.1) hR.1 (j := 12) (by decide) (by decide +kernel)) (fun v_ σ_ hq => ?_)
                    obtain ⟨rfl, e9⟩ := hq
                    have e9 := e9.symm
                    subst e9
                    show sE g_tt _ _ _ 186 [some (.ref 384), some (.int (iZ (nmI (tkA b n s.1))))] [.int (iZ (if tkA b n s.1 = ((12 : Nat) : Int) then 1 else 0))] (ms (pt σ T Pf w0) A F)
                    refine z_if_eq (tgt := 196) dX7_beginOne_186 (by decide) inR_01 (fun c_28 => ?_) (fun c_28 => ?_)
                    · have c_28 := if01_0 c_28
                      refine q_aload_n dX7_beginOne_196 rfl rfl ?_
                      refine z_bipush dX7_beginOne_197 (by decide +kernel) ?_
                      refine z_bipush dX7_beginOne_199 (by decide +kernel) ?_
                      refine z_bipush dX7_beginOne_201 (by decide +kernel) ?_
                      refine s_callS (As := [.int (iZ 110), .int (iZ 111), .int (iZ 116)]) (S := [.ref 384]) dX7_beginOne_203 okX7_w3 mlX7_117 rfl (by omega) rfl (Nat.le_of_ble_eq_true rfl) (m_w3 (d := d - 1) (x := 110) (y := 111) (z := 116) (by omega) (by omega) (by omega) (by omega) (ms (pt σ T Pf w0) A F)) (fun v_ σ_ hq => ?_)
                      obtain ⟨rfl, e9⟩ := hq
                      have e9 := e9.symm
                      subst e9
                      show sE g_tt _ _ _ 206 [some (.ref 384), some (.int (iZ (nmI (tkA b n s.1))))] [.long (lZ ((110 * 256 + 111) * 256 + 116)), .ref 384] (ms (pt σ T Pf w0) A F)
                      refine s_callV (ci := 7) (a := 384) (As := [.long (lZ ((110 * 256 + 111) * 256 + 116))]) (S := []) dX7_beginOne_206 okX7_isWord mlX7_177 rfl (by omega) rfl (Nat.le_of_ble_eq_true rfl) (show kd 384 = 7 from rfl) (by decide) rfl (m_isW (d := d - 1) (x := (110 * 256 + 111) * 256 + 116) σ A F T Pf (b := b) (n := n) (k := s.1) hR.1 (j := 18) (by decide) (by decide +kernel)) (fun v_ σ_ hq => ?_)
                      obtain ⟨rfl, e9⟩ := hq
                      have e9 := e9.symm
                      subst e9
                      show sE g_tt _ _ _ 209 [some (.ref 384), some (.int (iZ (nmI (tkA b n s.1))))] [.int (iZ (if tkA b n s.1 = ((18 : Nat) : Int) then 1 else 0))] (ms (pt σ T Pf w0) A F)
                      refine z_if_eq (tgt := 228) dX7_beginOne_209 (by decide) inR_01 (fun c_29 => ?_) (fun c_29 => ?_)
                      · have c_29 := if01_0 c_29
                        refine z_iconst dX7_beginOne_228 ?_
                        exact s_iretZ dX7_beginOne_229 rfl (show mAns b n tx so σ A F T (bgS (tkA b n) (nuA b n) so s) _ _ by
                          unfold bgS
                          rw [if_neg (fun z : tkA b n s.1 = 38 ∧ 9999 < nuA b n s.1 => by have z1 := z.1; have z2 := z.2; omega)]; rw [if_neg (fun z : 0 ≤ nmI (tkA b n s.1) ∧ ¬ isOfP (nmI (tkA b n s.1)) so => by have z1 := z.1; have z2 := z.2; unfold isOfP at z2; omega)]; rw [if_neg (show ¬ (tkA b n s.1 = 38 ∨ 0 ≤ nmI (tkA b n s.1)) by omega)]; rw [if_neg (show ¬ tkA b n s.1 = 33 by omega)]; rw [if_neg (show ¬ tkA b n s.1 = 30 by omega)]; rw [if_neg (show ¬ tkA b n s.1 = 9 by omega)]; rw [if_neg (show ¬ tkA b n s.1 = 11 by omega)]; rw [if_neg (show ¬ tkA b n s.1 = 12 by omega)]; rw [if_neg (fun z : tkA b n s.1 = 18 ∧ askA s.2.1 => by have := z.1; omega)]
                          exact ⟨rfl, w0, T, Pf, F, rfl, hR, hw, kpM_rf F, kpX_rf tx T⟩)
                      · have c_29 := if01_1 c_29
                        refine q_aload_n dX7_beginOne_212 rfl rfl ?_
                        refine s_callV (ci := 7) (a := 384) (As := []) (S := []) dX7_beginOne_213 okX7_isAskAhead mlX7_181 rfl (by omega) rfl (Nat.le_of_ble_eq_true rfl) (show kd 384 = 7 from rfl) (by decide) rfl (m_isAskAhead (d := d - 1) (by omega) σ A F T Pf hR (by omega)) (fun v_ σ_ hq => ?_)
                        obtain ⟨zz, rfl, hz, hz01, e9⟩ := hq
                        subst e9
                        show sE g_tt _ _ _ 216 [some (.ref 384), some (.int (iZ (nmI (tkA b n s.1))))] [.int (iZ zz)] (ms (pt σ T Pf w0) A F)
                        refine z_if_eq (tgt := 228) dX7_beginOne_216 (by decide) (by unfold inR; omega) (fun c_30 => ?_) (fun c_30 => ?_)
                        · refine z_iconst dX7_beginOne_228 ?_
                          exact s_iretZ dX7_beginOne_229 rfl (show mAns b n tx so σ A F T (bgS (tkA b n) (nuA b n) so s) _ _ by
                            unfold bgS
                            rw [if_neg (fun z : tkA b n s.1 = 38 ∧ 9999 < nuA b n s.1 => by have z1 := z.1; have z2 := z.2; omega)]; rw [if_neg (fun z : 0 ≤ nmI (tkA b n s.1) ∧ ¬ isOfP (nmI (tkA b n s.1)) so => by have z1 := z.1; have z2 := z.2; unfold isOfP at z2; omega)]; rw [if_neg (show ¬ (tkA b n s.1 = 38 ∨ 0 ≤ nmI (tkA b n s.1)) by omega)]; rw [if_neg (show ¬ tkA b n s.1 = 33 by omega)]; rw [if_neg (show ¬ tkA b n s.1 = 30 by omega)]; rw [if_neg (show ¬ tkA b n s.1 = 9 by omega)]; rw [if_neg (show ¬ tkA b n s.1 = 11 by omega)]; rw [if_neg (show ¬ tkA b n s.1 = 12 by omega)]; rw [if_neg (fun z : tkA b n s.1 = 18 ∧ askA s.2.1 => by have := hz.2 z.2; omega)]
                            exact ⟨rfl, w0, T, Pf, F, rfl, hR, hw, kpM_rf F, kpX_rf tx T⟩)
                        · refine q_aload_n dX7_beginOne_219 rfl rfl ?_
                          refine z_bipush dX7_beginOne_220 (by decide +kernel) ?_
                          refine s_callV (ci := 7) (a := 384) (As := [.int (iZ 20)]) (S := []) dX7_beginOne_222 okX7_opened mlX7_174 rfl (by omega) rfl (Nat.le_of_ble_eq_true rfl) (show kd 384 = 7 from rfl) (by decide) rfl (m_opened (d := d - 1) (x := 20) (by omega) (by omega) σ A F T Pf hR hw htx hn3 hb hb8 (by omega) (by omega)) (fun v_ σ_ hq => ?_)
                          rename gS => τ9
                          obtain ⟨rfl, hq2⟩ := hq
                          have hq : mAns b n tx so σ A F T (opS 20 s) _ τ9 := ⟨rfl, hq2⟩
                          show sE g_tt _ _ _ 225 [some (.ref 384), some (.int (iZ (nmI (tkA b n s.1))))] [.int (iZ ((opS 20 s).1))] τ9
                          refine q_goto (tgt := 229) dX7_beginOne_225 (by decide) ?_
                          exact s_iretZ dX7_beginOne_229 rfl (show mAns b n tx so σ A F T (bgS (tkA b n) (nuA b n) so s) _ _ by
                            unfold bgS
                            rw [if_neg (fun z : tkA b n s.1 = 38 ∧ 9999 < nuA b n s.1 => by have z1 := z.1; have z2 := z.2; omega)]; rw [if_neg (fun z : 0 ≤ nmI (tkA b n s.1) ∧ ¬ isOfP (nmI (tkA b n s.1)) so => by have z1 := z.1; have z2 := z.2; unfold isOfP at z2; omega)]; rw [if_neg (show ¬ (tkA b n s.1 = 38 ∨ 0 ≤ nmI (tkA b n s.1)) by omega)]; rw [if_neg (show ¬ tkA b n s.1 = 33 by omega)]; rw [if_neg (show ¬ tkA b n s.1 = 30 by omega)]; rw [if_neg (show ¬ tkA b n s.1 = 9 by omega)]; rw [if_neg (show ¬ tkA b n s.1 = 11 by omega)]; rw [if_neg (show ¬ tkA b n s.1 = 12 by omega)]; rw [if_pos (show tkA b n s.1 = 18 ∧ askA s.2.1 from ⟨by omega, hz.1 (by omega)⟩)]
                            exact hq)
                    · have c_28 := if01_1 c_28
                      refine q_aload_n dX7_beginOne_189 rfl rfl ?_
                      refine z_bipush dX7_beginOne_190 (by decide +kernel) ?_
                      refine s_callV (ci := 7) (a := 384) (As := [.int (iZ 42)]) (S := []) dX7_beginOne_192 okX7_opened mlX7_174 rfl (by omega) rfl (Nat.le_of_ble_eq_true rfl) (show kd 384 = 7 from rfl) (by decide) rfl (m_opened (d := d - 1) (x := 42) (by omega) (by omega) σ A F T Pf hR hw htx hn3 hb hb8 (by omega) (by omega)) (fun v_ σ_ hq => ?_)
                      rename gS => τ9
                      obtain ⟨rfl, hq2⟩ := hq
                      have hq : mAns b n tx so σ A F T (opS 42 s) _ τ9 := ⟨rfl, hq2⟩
                      show sE g_tt _ _ _ 195 [some (.ref 384), some (.int (iZ (nmI (tkA b n s.1))))] [.int (iZ ((opS 42 s).1))] τ9
                      exact s_iretZ dX7_beginOne_195 rfl (show mAns b n tx so σ A F T (bgS (tkA b n) (nuA b n) so s) _ _ by
                        unfold bgS
                        rw [if_neg (fun z : tkA b n s.1 = 38 ∧ 9999 < nuA b n s.1 => by have z1 := z.1; have z2 := z.2; omega)]; rw [if_neg (fun z : 0 ≤ nmI (tkA b n s.1) ∧ ¬ isOfP (nmI (tkA b n s.1)) so => by have z1 := z.1; have z2 := z.2; unfold isOfP at z2; omega)]; rw [if_neg (show ¬ (tkA b n s.1 = 38 ∨ 0 ≤ nmI (tkA b n s.1)) by omega)]; rw [if_neg (show ¬ tkA b n s.1 = 33 by omega)]; rw [if_neg (show ¬ tkA b n s.1 = 30 by omega)]; rw [if_neg (show ¬ tkA b n s.1 = 9 by omega)]; rw [if_neg (show ¬ tkA b n s.1 = 11 by omega)]; rw [if_pos (show tkA b n s.1 = 12 by omega)]
                        exact hq)
                  · have c_27 := if01_1 c_27
                    refine q_aload_n dX7_beginOne_169 rfl rfl ?_
                    refine z_iconst dX7_beginOne_170 ?_
                    refine s_callV (ci := 7) (a := 384) (As := [.int (iZ 2)]) (S := []) dX7_beginOne_171 okX7_opened mlX7_174 rfl (by omega) rfl (Nat.le_of_ble_eq_true rfl) (show kd 384 = 7 from rfl) (by decide) rfl (m_opened (d := d - 1) (x := 2) (by omega) (by omega) σ A F T Pf hR hw htx hn3 hb hb8 (by omega) (by omega)) (fun v_ σ_ hq => ?_)
                    rename gS => τ9
                    obtain ⟨rfl, hq2⟩ := hq
                    have hq : mAns b n tx so σ A F T (opS 2 s) _ τ9 := ⟨rfl, hq2⟩
                    show sE g_tt _ _ _ 174 [some (.ref 384), some (.int (iZ (nmI (tkA b n s.1))))] [.int (iZ ((opS 2 s).1))] τ9
                    exact s_iretZ dX7_beginOne_174 rfl (show mAns b n tx so σ A F T (bgS (tkA b n) (nuA b n) so s) _ _ by
                      unfold bgS
                      rw [if_neg (fun z : tkA b n s.1 = 38 ∧ 9999 < nuA b n s.1 => by have z1 := z.1; have z2 := z.2; omega)]; rw [if_neg (fun z : 0 ≤ nmI (tkA b n s.1) ∧ ¬ isOfP (nmI (tkA b n s.1)) so => by have z1 := z.1; have z2 := z.2; unfold isOfP at z2; omega)]; rw [if_neg (show ¬ (tkA b n s.1 = 38 ∨ 0 ≤ nmI (tkA b n s.1)) by omega)]; rw [if_neg (show ¬ tkA b n s.1 = 33 by omega)]; rw [if_neg (show ¬ tkA b n s.1 = 30 by omega)]; rw [if_neg (show ¬ tkA b n s.1 = 9 by omega)]; rw [if_pos (show tkA b n s.1 = 11 by omega)]
                      exact hq)
                · have c_26 := if01_1 c_26
                  refine q_aload_n dX7_beginOne_142 rfl rfl ?_
                  refine z_bipush dX7_beginOne_143 (by decide +kernel) ?_
                  refine s_callV (ci := 7) (a := 384) (As := [.int (iZ 41)]) (S := []) dX7_beginOne_145 okX7_opened mlX7_174 rfl (by omega) rfl (Nat.le_of_ble_eq_true rfl) (show kd 384 = 7 from rfl) (by decide) rfl (m_opened (d := d - 1) (x := 41) (by omega) (by omega) σ A F T Pf hR hw htx hn3 hb hb8 (by omega) (by omega)) (fun v_ σ_ hq => ?_)
                  rename gS => τ9
                  obtain ⟨rfl, hq2⟩ := hq
                  have hq : mAns b n tx so σ A F T (opS 41 s) _ τ9 := ⟨rfl, hq2⟩
                  show sE g_tt _ _ _ 148 [some (.ref 384), some (.int (iZ (nmI (tkA b n s.1))))] [.int (iZ ((opS 41 s).1))] τ9
                  exact s_iretZ dX7_beginOne_148 rfl (show mAns b n tx so σ A F T (bgS (tkA b n) (nuA b n) so s) _ _ by
                    unfold bgS
                    rw [if_neg (fun z : tkA b n s.1 = 38 ∧ 9999 < nuA b n s.1 => by have z1 := z.1; have z2 := z.2; omega)]; rw [if_neg (fun z : 0 ≤ nmI (tkA b n s.1) ∧ ¬ isOfP (nmI (tkA b n s.1)) so => by have z1 := z.1; have z2 := z.2; unfold isOfP at z2; omega)]; rw [if_neg (show ¬ (tkA b n s.1 = 38 ∨ 0 ≤ nmI (tkA b n s.1)) by omega)]; rw [if_neg (show ¬ tkA b n s.1 = 33 by omega)]; rw [if_neg (show ¬ tkA b n s.1 = 30 by omega)]; rw [if_pos (show tkA b n s.1 = 9 by omega)]
                    exact hq)
              · refine q_aload_n dX7_beginOne_118 rfl rfl ?_
                refine z_iconst dX7_beginOne_119 ?_
                refine s_callV (ci := 7) (a := 384) (As := [.int (iZ 5)]) (S := []) dX7_beginOne_120 okX7_opened mlX7_174 rfl (by omega) rfl (Nat.le_of_ble_eq_true rfl) (show kd 384 = 7 from rfl) (by decide) rfl (m_opened (d := d - 1) (x := 5) (by omega) (by omega) σ A F T Pf hR hw htx hn3 hb hb8 (by omega) (by omega)) (fun v_ σ_ hq => ?_)
                rename gS => τ9
                obtain ⟨rfl, hq2⟩ := hq
                have hq : mAns b n tx so σ A F T (opS 5 s) _ τ9 := ⟨rfl, hq2⟩
                show sE g_tt _ _ _ 123 [some (.ref 384), some (.int (iZ (nmI (tkA b n s.1))))] [.int (iZ ((opS 5 s).1))] τ9
                exact s_iretZ dX7_beginOne_123 rfl (show mAns b n tx so σ A F T (bgS (tkA b n) (nuA b n) so s) _ _ by
                  unfold bgS
                  rw [if_neg (fun z : tkA b n s.1 = 38 ∧ 9999 < nuA b n s.1 => by have z1 := z.1; have z2 := z.2; omega)]; rw [if_neg (fun z : 0 ≤ nmI (tkA b n s.1) ∧ ¬ isOfP (nmI (tkA b n s.1)) so => by have z1 := z.1; have z2 := z.2; unfold isOfP at z2; omega)]; rw [if_neg (show ¬ (tkA b n s.1 = 38 ∨ 0 ≤ nmI (tkA b n s.1)) by omega)]; rw [if_neg (show ¬ tkA b n s.1 = 33 by omega)]; rw [if_pos (show tkA b n s.1 = 30 by omega)]
                  exact hq)
            · refine q_aload_n dX7_beginOne_102 rfl rfl ?_
              refine z_bipush dX7_beginOne_103 (by decide +kernel) ?_
              refine s_callV (ci := 7) (a := 384) (As := [.int (iZ 40)]) (S := []) dX7_beginOne_105 okX7_opened mlX7_174 rfl (by omega) rfl (Nat.le_of_ble_eq_true rfl) (show kd 384 = 7 from rfl) (by decide) rfl (m_opened (d := d - 1) (x := 40) (by omega) (by omega) σ A F T Pf hR hw htx hn3 hb hb8 (by omega) (by omega)) (fun v_ σ_ hq => ?_)
              rename gS => τ9
              obtain ⟨rfl, hq2⟩ := hq
              have hq : mAns b n tx so σ A F T (opS 40 s) _ τ9 := ⟨rfl, hq2⟩
              show sE g_tt _ _ _ 108 [some (.ref 384), some (.int (iZ (nmI (tkA b n s.1))))] [.int (iZ ((opS 40 s).1))] τ9
              exact s_iretZ dX7_beginOne_108 rfl (show mAns b n tx so σ A F T (bgS (tkA b n) (nuA b n) so s) _ _ by
                unfold bgS
                rw [if_neg (fun z : tkA b n s.1 = 38 ∧ 9999 < nuA b n s.1 => by have z1 := z.1; have z2 := z.2; omega)]; rw [if_neg (fun z : 0 ≤ nmI (tkA b n s.1) ∧ ¬ isOfP (nmI (tkA b n s.1)) so => by have z1 := z.1; have z2 := z.2; unfold isOfP at z2; omega)]; rw [if_neg (show ¬ (tkA b n s.1 = 38 ∨ 0 ≤ nmI (tkA b n s.1)) by omega)]; rw [if_pos (show tkA b n s.1 = 33 by omega)]
                exact hq)
          · refine q_aload_n dX7_beginOne_51 rfl rfl ?_
            refine q_aload_n dX7_beginOne_52 rfl rfl ?_
            refine sg7 (kf := 9) (v := .int (iZ (F 9))) dX7_beginOne_53 flX7_91 (show kd 384 = 7 from rfl) (by decide) rfl ?_
            refine z_iconst dX7_beginOne_56 ?_
            refine z_icmp_ne (tgt := 64) dX7_beginOne_57 (by decide) (by unfold inR; omega) (by unfold inR; omega) (fun c_31 => ?_) (fun c_31 => ?_)
            · refine z_iconst dX7_beginOne_64 ?_
              refine q_aload_n dX7_beginOne_65 rfl rfl ?_
              refine sg7 (kf := 9) (v := .int (iZ (F 9))) dX7_beginOne_66 flX7_91 (show kd 384 = 7 from rfl) (by decide) rfl ?_
              refine z_iconst dX7_beginOne_69 ?_
              refine z_icmp_ne (tgt := 80) dX7_beginOne_70 (by decide) (by unfold inR; omega) (by unfold inR; omega) (fun c_32 => ?_) (fun c_32 => ?_)
              · refine q_iload_n dX7_beginOne_80 rfl rfl ?_
                refine s_callV (ci := 7) (a := 384) (As := [.int (iZ 1), .int (iZ (nmI (tkA b n s.1)))]) (S := []) dX7_beginOne_81 okX7_emit mlX7_148 rfl (by omega) rfl (Nat.le_of_ble_eq_true rfl) (show kd 384 = 7 from rfl) (by decide) rfl (m_emit (d := d - 1) (x := 1) (y := nmI (tkA b n s.1)) σ A F T Pf hR htx (by omega)) (fun v_ σ_ hq => ?_)
                obtain ⟨rfl, T1, F1, e9, hR1, h18, kM, kX⟩ := hq
                subst e9
                show sE g_tt _ _ _ 84 [some (.ref 384), some (.int (iZ (nmI (tkA b n s.1))))] [] (ms (pt σ T1 Pf w0) A F1)
                refine q_aload_n dX7_beginOne_84 rfl rfl ?_
                refine s_callV (ci := 7) (a := 384) (As := []) (S := []) dX7_beginOne_85 okX7_nextToken mlX7_162 rfl (by omega) rfl (Nat.le_of_ble_eq_true rfl) (show kd 384 = 7 from rfl) (by decide) rfl (m_nxt (d := d - 1) (by omega) σ A F1 T1 Pf hn3 hb hb8 hR1.1) (fun v_ σ_ hq => ?_)
                obtain ⟨rfl, w1, F2, e9, ld9, kp9⟩ := hq
                subst e9
                have hR2 := psR_k hR1 kp9 ld9
                show sE g_tt _ _ _ 88 [some (.ref 384), some (.int (iZ (nmI (tkA b n s.1))))] [] (ms (pt σ T1 Pf w1) A F2)
                refine q_aload_n dX7_beginOne_88 rfl rfl ?_
                refine s_callV (ci := 7) (a := 384) (As := []) (S := []) dX7_beginOne_89 okX7_endOne mlX7_171 rfl (by omega) rfl (Nat.le_of_ble_eq_true rfl) (show kd 384 = 7 from rfl) (by decide) rfl (m_endOne (d := d - 1) (by omega) σ A F2 T1 Pf hR2 htx hn3 hb hb8 ⟨by show s.2.1.length ≤ 155; omega, by show s.2.1.length + ((1, nmI (tkA b n s.1)) :: s.2.2.2).length ≤ 304; rw [List.length_cons]; omega⟩) (fun v_ σ_ hq => ?_)
                rename gS => τ9
                obtain ⟨rfl, hq2⟩ := hq
                have hq : mAns b n tx so σ A F T (eoS (tkA b n) (s.1 + 1, s.2.1, s.2.2.1, (1, nmI (tkA b n s.1)) :: s.2.2.2)) _ τ9 := mAns_tr ⟨rfl, hq2⟩ (kpM_tr kM (kpM_T kp9)) kX
                show sE g_tt _ _ _ 92 [some (.ref 384), some (.int (iZ (nmI (tkA b n s.1))))] [.int (iZ ((eoS (tkA b n) (s.1 + 1, s.2.1, s.2.2.1, (1, nmI (tkA b n s.1)) :: s.2.2.2)).1))] τ9
                exact s_iretZ dX7_beginOne_92 rfl (show mAns b n tx so σ A F T (bgS (tkA b n) (nuA b n) so s) _ _ by
                  unfold bgS
                  rw [if_neg (fun z : tkA b n s.1 = 38 ∧ 9999 < nuA b n s.1 => by have z1 := z.1; have z2 := z.2; omega)]; rw [if_neg (fun z : 0 ≤ nmI (tkA b n s.1) ∧ ¬ isOfP (nmI (tkA b n s.1)) so => by have z1 := z.1; have z2 := z.2; unfold isOfP at z2; omega)]; rw [if_pos (show tkA b n s.1 = 38 ∨ 0 ≤ nmI (tkA b n s.1) by omega), show (if tkA b n s.1 = 38 then ((0 : Int), nuA b n s.1) else (1, nmI (tkA b n s.1))) = (1, nmI (tkA b n s.1)) by rw [if_neg (by omega)]]
                  exact hq)
              · refine q_aload_n dX7_beginOne_73 rfl rfl ?_
                refine sg7 (kf := 10) (v := .int (iZ (F 10))) dX7_beginOne_74 flX7_97 (show kd 384 = 7 from rfl) (by decide) rfl ?_
                refine q_goto (tgt := 81) dX7_beginOne_77 (by decide) ?_
                exfalso
                omega
            · refine z_iconst dX7_beginOne_60 ?_
              refine q_goto (tgt := 65) dX7_beginOne_61 (by decide) ?_
              refine q_aload_n dX7_beginOne_65 rfl rfl ?_
              refine sg7 (kf := 9) (v := .int (iZ (F 9))) dX7_beginOne_66 flX7_91 (show kd 384 = 7 from rfl) (by decide) rfl ?_
              refine z_iconst dX7_beginOne_69 ?_
              refine z_icmp_ne (tgt := 80) dX7_beginOne_70 (by decide) (by unfold inR; omega) (by unfold inR; omega) (fun c_33 => ?_) (fun c_33 => ?_)
              · refine q_iload_n dX7_beginOne_80 rfl rfl ?_
                exfalso
                omega
              · refine q_aload_n dX7_beginOne_73 rfl rfl ?_
                refine sg7 (kf := 10) (v := .int (iZ (F 10))) dX7_beginOne_74 flX7_97 (show kd 384 = 7 from rfl) (by decide) rfl ?_
                refine q_goto (tgt := 81) dX7_beginOne_77 (by decide) ?_
                refine s_callV (ci := 7) (a := 384) (As := [.int (iZ 0), .int (iZ (F 10))]) (S := []) dX7_beginOne_81 okX7_emit mlX7_148 rfl (by omega) rfl (Nat.le_of_ble_eq_true rfl) (show kd 384 = 7 from rfl) (by decide) rfl (m_emit (d := d - 1) (x := 0) (y := F 10) σ A F T Pf hR htx (by omega)) (fun v_ σ_ hq => ?_)
                obtain ⟨rfl, T1, F1, e9, hR1, h18, kM, kX⟩ := hq
                subst e9
                show sE g_tt _ _ _ 84 [some (.ref 384), some (.int (iZ (nmI (tkA b n s.1))))] [] (ms (pt σ T1 Pf w0) A F1)
                refine q_aload_n dX7_beginOne_84 rfl rfl ?_
                refine s_callV (ci := 7) (a := 384) (As := []) (S := []) dX7_beginOne_85 okX7_nextToken mlX7_162 rfl (by omega) rfl (Nat.le_of_ble_eq_true rfl) (show kd 384 = 7 from rfl) (by decide) rfl (m_nxt (d := d - 1) (by omega) σ A F1 T1 Pf hn3 hb hb8 hR1.1) (fun v_ σ_ hq => ?_)
                obtain ⟨rfl, w1, F2, e9, ld9, kp9⟩ := hq
                subst e9
                have hR2 := psR_k hR1 kp9 ld9
                show sE g_tt _ _ _ 88 [some (.ref 384), some (.int (iZ (nmI (tkA b n s.1))))] [] (ms (pt σ T1 Pf w1) A F2)
                refine q_aload_n dX7_beginOne_88 rfl rfl ?_
                refine s_callV (ci := 7) (a := 384) (As := []) (S := []) dX7_beginOne_89 okX7_endOne mlX7_171 rfl (by omega) rfl (Nat.le_of_ble_eq_true rfl) (show kd 384 = 7 from rfl) (by decide) rfl (m_endOne (d := d - 1) (by omega) σ A F2 T1 Pf hR2 htx hn3 hb hb8 ⟨by show s.2.1.length ≤ 155; omega, by show s.2.1.length + ((0, F 10) :: s.2.2.2).length ≤ 304; rw [List.length_cons]; omega⟩) (fun v_ σ_ hq => ?_)
                rename gS => τ9
                obtain ⟨rfl, hq2⟩ := hq
                have hq : mAns b n tx so σ A F T (eoS (tkA b n) (s.1 + 1, s.2.1, s.2.2.1, (0, F 10) :: s.2.2.2)) _ τ9 := mAns_tr ⟨rfl, hq2⟩ (kpM_tr kM (kpM_T kp9)) kX
                show sE g_tt _ _ _ 92 [some (.ref 384), some (.int (iZ (nmI (tkA b n s.1))))] [.int (iZ ((eoS (tkA b n) (s.1 + 1, s.2.1, s.2.2.1, (0, F 10) :: s.2.2.2)).1))] τ9
                exact s_iretZ dX7_beginOne_92 rfl (show mAns b n tx so σ A F T (bgS (tkA b n) (nuA b n) so s) _ _ by
                  unfold bgS
                  rw [if_neg (fun z : tkA b n s.1 = 38 ∧ 9999 < nuA b n s.1 => by have z1 := z.1; have z2 := z.2; omega)]; rw [if_neg (fun z : 0 ≤ nmI (tkA b n s.1) ∧ ¬ isOfP (nmI (tkA b n s.1)) so => by have z1 := z.1; have z2 := z.2; unfold isOfP at z2; omega)]; rw [if_pos (show tkA b n s.1 = 38 ∨ 0 ≤ nmI (tkA b n s.1) by omega), show (if tkA b n s.1 = 38 then ((0 : Int), nuA b n s.1) else (1, nmI (tkA b n s.1))) = (0, F 10) by rw [if_pos (by omega)]; rw [show nuA b n s.1 = F 10 by omega]]
                  exact hq)
      · have c_18 := if01_0 c_18
        refine z_iconst dX7_beginOne_37 ?_
        exact s_iretZ dX7_beginOne_38 rfl (show mAns b n tx so σ A F T (bgS (tkA b n) (nuA b n) so s) _ _ by
          unfold bgS
          rw [if_neg (fun z : tkA b n s.1 = 38 ∧ 9999 < nuA b n s.1 => by have z1 := z.1; have z2 := z.2; omega)]; rw [if_pos (show 0 ≤ nmI (tkA b n s.1) ∧ ¬ isOfP (nmI (tkA b n s.1)) so from ⟨by omega, fun z => by unfold isOfP at z; omega⟩)]
          exact ⟨rfl, w0, T, Pf, F, rfl, hR, hw, kpM_rf F, kpX_rf tx T⟩)
  · refine q_aload_n dX7_beginOne_8 rfl rfl ?_
    refine sg7 (kf := 10) (v := .int (iZ (F 10))) dX7_beginOne_9 flX7_97 (show kd 384 = 7 from rfl) (by decide) rfl ?_
    refine z_sipush dX7_beginOne_12 (by decide +kernel) ?_
    refine z_icmp_le (tgt := 20) dX7_beginOne_15 (by decide) (by unfold inR; omega) (by unfold inR; omega) (fun c_34 => ?_) (fun c_34 => ?_)
    · refine q_aload_n dX7_beginOne_20 rfl rfl ?_
      refine s_callV (ci := 7) (a := 384) (As := []) (S := []) dX7_beginOne_21 okX7_nameOf mlX7_165 rfl (by omega) rfl (Nat.le_of_ble_eq_true rfl) (show kd 384 = 7 from rfl) (by decide) rfl (m_nameOf (d := d - 1) (by omega) σ A F T Pf hR.1) (fun v_ σ_ hq => ?_)
      obtain ⟨rfl, e9⟩ := hq
      have e9 := e9.symm
      subst e9
      show sE g_tt _ _ _ 24 [some (.ref 384), none] [.int (iZ (nmI (tkA b n s.1)))] (ms (pt σ T Pf w0) A F)
      refine q_istore_n dX7_beginOne_24 rfl (by decide) ?_
      show sE g_tt _ _ _ 25 [some (.ref 384), some (.int (iZ (nmI (tkA b n s.1))))] [] (ms (pt σ T Pf w0) A F)
      refine q_iload_n dX7_beginOne_25 rfl rfl ?_
      refine z_if_lt (tgt := 39) dX7_beginOne_26 (by decide) (by unfold inR; omega) (fun c_35 => ?_) (fun c_35 => ?_)
      · refine q_aload_n dX7_beginOne_39 rfl rfl ?_
        refine sg7 (kf := 9) (v := .int (iZ (F 9))) dX7_beginOne_40 flX7_91 (show kd 384 = 7 from rfl) (by decide) rfl ?_
        refine z_iconst dX7_beginOne_43 ?_
        refine z_icmp_eq (tgt := 51) dX7_beginOne_44 (by decide) (by unfold inR; omega) (by unfold inR; omega) (fun c_36 => ?_) (fun c_36 => ?_)
        · refine q_aload_n dX7_beginOne_51 rfl rfl ?_
          refine q_aload_n dX7_beginOne_52 rfl rfl ?_
          refine sg7 (kf := 9) (v := .int (iZ (F 9))) dX7_beginOne_53 flX7_91 (show kd 384 = 7 from rfl) (by decide) rfl ?_
          refine z_iconst dX7_beginOne_56 ?_
          refine z_icmp_ne (tgt := 64) dX7_beginOne_57 (by decide) (by unfold inR; omega) (by unfold inR; omega) (fun c_37 => ?_) (fun c_37 => ?_)
          · refine z_iconst dX7_beginOne_64 ?_
            refine q_aload_n dX7_beginOne_65 rfl rfl ?_
            refine sg7 (kf := 9) (v := .int (iZ (F 9))) dX7_beginOne_66 flX7_91 (show kd 384 = 7 from rfl) (by decide) rfl ?_
            refine z_iconst dX7_beginOne_69 ?_
            refine z_icmp_ne (tgt := 80) dX7_beginOne_70 (by decide) (by unfold inR; omega) (by unfold inR; omega) (fun c_38 => ?_) (fun c_38 => ?_)
            · refine q_iload_n dX7_beginOne_80 rfl rfl ?_
              refine s_callV (ci := 7) (a := 384) (As := [.int (iZ 1), .int (iZ (nmI (tkA b n s.1)))]) (S := []) dX7_beginOne_81 okX7_emit mlX7_148 rfl (by omega) rfl (Nat.le_of_ble_eq_true rfl) (show kd 384 = 7 from rfl) (by decide) rfl (m_emit (d := d - 1) (x := 1) (y := nmI (tkA b n s.1)) σ A F T Pf hR htx (by omega)) (fun v_ σ_ hq => ?_)
              obtain ⟨rfl, T1, F1, e9, hR1, h18, kM, kX⟩ := hq
              subst e9
              show sE g_tt _ _ _ 84 [some (.ref 384), some (.int (iZ (nmI (tkA b n s.1))))] [] (ms (pt σ T1 Pf w0) A F1)
              refine q_aload_n dX7_beginOne_84 rfl rfl ?_
              refine s_callV (ci := 7) (a := 384) (As := []) (S := []) dX7_beginOne_85 okX7_nextToken mlX7_162 rfl (by omega) rfl (Nat.le_of_ble_eq_true rfl) (show kd 384 = 7 from rfl) (by decide) rfl (m_nxt (d := d - 1) (by omega) σ A F1 T1 Pf hn3 hb hb8 hR1.1) (fun v_ σ_ hq => ?_)
              obtain ⟨rfl, w1, F2, e9, ld9, kp9⟩ := hq
              subst e9
              have hR2 := psR_k hR1 kp9 ld9
              show sE g_tt _ _ _ 88 [some (.ref 384), some (.int (iZ (nmI (tkA b n s.1))))] [] (ms (pt σ T1 Pf w1) A F2)
              refine q_aload_n dX7_beginOne_88 rfl rfl ?_
              refine s_callV (ci := 7) (a := 384) (As := []) (S := []) dX7_beginOne_89 okX7_endOne mlX7_171 rfl (by omega) rfl (Nat.le_of_ble_eq_true rfl) (show kd 384 = 7 from rfl) (by decide) rfl (m_endOne (d := d - 1) (by omega) σ A F2 T1 Pf hR2 htx hn3 hb hb8 ⟨by show s.2.1.length ≤ 155; omega, by show s.2.1.length + ((1, nmI (tkA b n s.1)) :: s.2.2.2).length ≤ 304; rw [List.length_cons]; omega⟩) (fun v_ σ_ hq => ?_)
              rename gS => τ9
              obtain ⟨rfl, hq2⟩ := hq
              have hq : mAns b n tx so σ A F T (eoS (tkA b n) (s.1 + 1, s.2.1, s.2.2.1, (1, nmI (tkA b n s.1)) :: s.2.2.2)) _ τ9 := mAns_tr ⟨rfl, hq2⟩ (kpM_tr kM (kpM_T kp9)) kX
              show sE g_tt _ _ _ 92 [some (.ref 384), some (.int (iZ (nmI (tkA b n s.1))))] [.int (iZ ((eoS (tkA b n) (s.1 + 1, s.2.1, s.2.2.1, (1, nmI (tkA b n s.1)) :: s.2.2.2)).1))] τ9
              exact s_iretZ dX7_beginOne_92 rfl (show mAns b n tx so σ A F T (bgS (tkA b n) (nuA b n) so s) _ _ by
                unfold bgS
                rw [if_neg (fun z : tkA b n s.1 = 38 ∧ 9999 < nuA b n s.1 => by have z1 := z.1; have z2 := z.2; omega)]; rw [if_neg (fun z : 0 ≤ nmI (tkA b n s.1) ∧ ¬ isOfP (nmI (tkA b n s.1)) so => by have z1 := z.1; have z2 := z.2; unfold isOfP at z2; omega)]; rw [if_pos (show tkA b n s.1 = 38 ∨ 0 ≤ nmI (tkA b n s.1) by omega), show (if tkA b n s.1 = 38 then ((0 : Int), nuA b n s.1) else (1, nmI (tkA b n s.1))) = (1, nmI (tkA b n s.1)) by rw [if_neg (by omega)]]
                exact hq)
            · refine q_aload_n dX7_beginOne_73 rfl rfl ?_
              refine sg7 (kf := 10) (v := .int (iZ (F 10))) dX7_beginOne_74 flX7_97 (show kd 384 = 7 from rfl) (by decide) rfl ?_
              refine q_goto (tgt := 81) dX7_beginOne_77 (by decide) ?_
              exfalso
              omega
          · refine z_iconst dX7_beginOne_60 ?_
            refine q_goto (tgt := 65) dX7_beginOne_61 (by decide) ?_
            refine q_aload_n dX7_beginOne_65 rfl rfl ?_
            refine sg7 (kf := 9) (v := .int (iZ (F 9))) dX7_beginOne_66 flX7_91 (show kd 384 = 7 from rfl) (by decide) rfl ?_
            refine z_iconst dX7_beginOne_69 ?_
            refine z_icmp_ne (tgt := 80) dX7_beginOne_70 (by decide) (by unfold inR; omega) (by unfold inR; omega) (fun c_39 => ?_) (fun c_39 => ?_)
            · refine q_iload_n dX7_beginOne_80 rfl rfl ?_
              exfalso
              omega
            · refine q_aload_n dX7_beginOne_73 rfl rfl ?_
              refine sg7 (kf := 10) (v := .int (iZ (F 10))) dX7_beginOne_74 flX7_97 (show kd 384 = 7 from rfl) (by decide) rfl ?_
              refine q_goto (tgt := 81) dX7_beginOne_77 (by decide) ?_
              refine s_callV (ci := 7) (a := 384) (As := [.int (iZ 0), .int (iZ (F 10))]) (S := []) dX7_beginOne_81 okX7_emit mlX7_148 rfl (by omega) rfl (Nat.le_of_ble_eq_true rfl) (show kd 384 = 7 from rfl) (by decide) rfl (m_emit (d := d - 1) (x := 0) (y := F 10) σ A F T Pf hR htx (by omega)) (fun v_ σ_ hq => ?_)
              obtain ⟨rfl, T1, F1, e9, hR1, h18, kM, kX⟩ := hq
              subst e9
              show sE g_tt _ _ _ 84 [some (.ref 384), some (.int (iZ (nmI (tkA b n s.1))))] [] (ms (pt σ T1 Pf w0) A F1)
              refine q_aload_n dX7_beginOne_84 rfl rfl ?_
              refine s_callV (ci := 7) (a := 384) (As := []) (S := []) dX7_beginOne_85 okX7_nextToken mlX7_162 rfl (by omega) rfl (Nat.le_of_ble_eq_true rfl) (show kd 384 = 7 from rfl) (by decide) rfl (m_nxt (d := d - 1) (by omega) σ A F1 T1 Pf hn3 hb hb8 hR1.1) (fun v_ σ_ hq => ?_)
              obtain ⟨rfl, w1, F2, e9, ld9, kp9⟩ := hq
              subst e9
              have hR2 := psR_k hR1 kp9 ld9
              show sE g_tt _ _ _ 88 [some (.ref 384), some (.int (iZ (nmI (tkA b n s.1))))] [] (ms (pt σ T1 Pf w1) A F2)
              refine q_aload_n dX7_beginOne_88 rfl rfl ?_
              refine s_callV (ci := 7) (a := 384) (As := []) (S := []) dX7_beginOne_89 okX7_endOne mlX7_171 rfl (by omega) rfl (Nat.le_of_ble_eq_true rfl) (show kd 384 = 7 from rfl) (by decide) rfl (m_endOne (d := d - 1) (by omega) σ A F2 T1 Pf hR2 htx hn3 hb hb8 ⟨by show s.2.1.length ≤ 155; omega, by show s.2.1.length + ((0, F 10) :: s.2.2.2).length ≤ 304; rw [List.length_cons]; omega⟩) (fun v_ σ_ hq => ?_)
              rename gS => τ9
              obtain ⟨rfl, hq2⟩ := hq
              have hq : mAns b n tx so σ A F T (eoS (tkA b n) (s.1 + 1, s.2.1, s.2.2.1, (0, F 10) :: s.2.2.2)) _ τ9 := mAns_tr ⟨rfl, hq2⟩ (kpM_tr kM (kpM_T kp9)) kX
              show sE g_tt _ _ _ 92 [some (.ref 384), some (.int (iZ (nmI (tkA b n s.1))))] [.int (iZ ((eoS (tkA b n) (s.1 + 1, s.2.1, s.2.2.1, (0, F 10) :: s.2.2.2)).1))] τ9
              exact s_iretZ dX7_beginOne_92 rfl (show mAns b n tx so σ A F T (bgS (tkA b n) (nuA b n) so s) _ _ by
                unfold bgS
                rw [if_neg (fun z : tkA b n s.1 = 38 ∧ 9999 < nuA b n s.1 => by have z1 := z.1; have z2 := z.2; omega)]; rw [if_neg (fun z : 0 ≤ nmI (tkA b n s.1) ∧ ¬ isOfP (nmI (tkA b n s.1)) so => by have z1 := z.1; have z2 := z.2; unfold isOfP at z2; omega)]; rw [if_pos (show tkA b n s.1 = 38 ∨ 0 ≤ nmI (tkA b n s.1) by omega), show (if tkA b n s.1 = 38 then ((0 : Int), nuA b n s.1) else (1, nmI (tkA b n s.1))) = (0, F 10) by rw [if_pos (by omega)]; rw [show nuA b n s.1 = F 10 by omega]]
                exact hq)
        · refine q_iload_n dX7_beginOne_47 rfl rfl ?_
          refine z_if_lt (tgt := 93) dX7_beginOne_48 (by decide) (by unfold inR; omega) (fun c_40 => ?_) (fun c_40 => ?_)
          · refine q_aload_n dX7_beginOne_93 rfl rfl ?_
            refine sg7 (kf := 9) (v := .int (iZ (F 9))) dX7_beginOne_94 flX7_91 (show kd 384 = 7 from rfl) (by decide) rfl ?_
            refine z_bipush dX7_beginOne_97 (by decide +kernel) ?_
            refine z_icmp_ne (tgt := 109) dX7_beginOne_99 (by decide) (by unfold inR; omega) (by unfold inR; omega) (fun c_41 => ?_) (fun c_41 => ?_)
            · refine q_aload_n dX7_beginOne_109 rfl rfl ?_
              refine sg7 (kf := 9) (v := .int (iZ (F 9))) dX7_beginOne_110 flX7_91 (show kd 384 = 7 from rfl) (by decide) rfl ?_
              refine z_bipush dX7_beginOne_113 (by decide +kernel) ?_
              refine z_icmp_ne (tgt := 124) dX7_beginOne_115 (by decide) (by unfold inR; omega) (by unfold inR; omega) (fun c_42 => ?_) (fun c_42 => ?_)
              · refine q_aload_n dX7_beginOne_124 rfl rfl ?_
                refine z_bipush dX7_beginOne_125 (by decide +kernel) ?_
                refine z_bipush dX7_beginOne_127 (by decide +kernel) ?_
                refine z_bipush dX7_beginOne_129 (by decide +kernel) ?_
                refine z_bipush dX7_beginOne_131 (by decide +kernel) ?_
                refine s_callS (As := [.int (iZ 111), .int (iZ 118), .int (iZ 101), .int (iZ 114)]) (S := [.ref 384]) dX7_beginOne_133 okX7_w4 mlX7_121 rfl (by omega) rfl (Nat.le_of_ble_eq_true rfl) (m_w4 (d := d - 1) (x := 111) (y := 118) (z := 101) (u := 114) (by omega) (by omega) (by omega) (by omega) (by omega) (ms (pt σ T Pf w0) A F)) (fun v_ σ_ hq => ?_)
                obtain ⟨rfl, e9⟩ := hq
                have e9 := e9.symm
                subst e9
                show sE g_tt _ _ _ 136 [some (.ref 384), some (.int (iZ (nmI (tkA b n s.1))))] [.long (lZ (((111 * 256 + 118) * 256 + 101) * 256 + 114)), .ref 384] (ms (pt σ T Pf w0) A F)
                refine s_callV (ci := 7) (a := 384) (As := [.long (lZ (((111 * 256 + 118) * 256 + 101) * 256 + 114))]) (S := []) dX7_beginOne_136 okX7_isWord mlX7_177 rfl (by omega) rfl (Nat.le_of_ble_eq_true rfl) (show kd 384 = 7 from rfl) (by decide) rfl (m_isW (d := d - 1) (x := ((111 * 256 + 118) * 256 + 101) * 256 + 114) σ A F T Pf (b := b) (n := n) (k := s.1) hR.1 (j := 9) (by decide) (by decide +kernel)) (fun v_ σ_ hq => ?_)
                obtain ⟨rfl, e9⟩ := hq
                have e9 := e9.symm
                subst e9
                show sE g_tt _ _ _ 139 [some (.ref 384), some (.int (iZ (nmI (tkA b n s.1))))] [.int (iZ (if tkA b n s.1 = ((9 : Nat) : Int) then 1 else 0))] (ms (pt σ T Pf w0) A F)
                refine z_if_eq (tgt := 149) dX7_beginOne_139 (by decide) inR_01 (fun c_43 => ?_) (fun c_43 => ?_)
                · have c_43 := if01_0 c_43
                  refine q_aload_n dX7_beginOne_149 rfl rfl ?_
                  refine z_bipush dX7_beginOne_150 (by decide +kernel) ?_
                  refine z_bipush dX7_beginOne_152 (by decide +kernel) ?_
                  refine z_bipush dX7_beginOne_154 (by decide +kernel) ?_
                  refine z_bipush dX7_beginOne_156 (by decide +kernel) ?_
                  refine z_bipush dX7_beginOne_158 (by decide +kernel) ?_
                  refine s_callS (As := [.int (iZ 104), .int (iZ 111), .int (iZ 117), .int (iZ 115), .int (iZ 101)]) (S := [.ref 384]) dX7_beginOne_160 okX7_w5 mlX7_125 rfl (by omega) rfl (Nat.le_of_ble_eq_true rfl) (m_w5 (d := d - 1) (x := 104) (y := 111) (z := 117) (u := 115) (v := 101) (by omega) (by omega) (by omega) (by omega) (by omega) (by omega) (ms (pt σ T Pf w0) A F)) (fun v_ σ_ hq => ?_)
                  obtain ⟨rfl, e9⟩ := hq
                  have e9 := e9.symm
                  subst e9
                  show sE g_tt _ _ _ 163 [some (.ref 384), some (.int (iZ (nmI (tkA b n s.1))))] [.long (lZ ((((104 * 256 + 111) * 256 + 117) * 256 + 115) * 256 + 101)), .ref 384] (ms (pt σ T Pf w0) A F)
                  refine s_callV (ci := 7) (a := 384) (As := [.long (lZ ((((104 * 256 + 111) * 256 + 117) * 256 + 115) * 256 + 101))]) (S := []) dX7_beginOne_163 okX7_isWord mlX7_177 rfl (by omega) rfl (Nat.le_of_ble_eq_true rfl) (show kd 384 = 7 from rfl) (by decide) rfl (m_isW (d := d - 1) (x := (((104 * 256 + 111) * 256 + 117) * 256 + 115) * 256 + 101) σ A F T Pf (b := b) (n := n) (k := s.1) hR.1 (j := 11) (by decide) (by decide +kernel)) (fun v_ σ_ hq => ?_)
                  obtain ⟨rfl, e9⟩ := hq
                  have e9 := e9.symm
                  subst e9
                  show sE g_tt _ _ _ 166 [some (.ref 384), some (.int (iZ (nmI (tkA b n s.1))))] [.int (iZ (if tkA b n s.1 = ((11 : Nat) : Int) then 1 else 0))] (ms (pt σ T Pf w0) A F)
                  refine z_if_eq (tgt := 175) dX7_beginOne_166 (by decide) inR_01 (fun c_44 => ?_) (fun c_44 => ?_)
                  · have c_44 := if01_0 c_44
                    refine q_aload_n dX7_beginOne_175 rfl rfl ?_
                    refine z_bipush dX7_beginOne_176 (by decide +kernel) ?_
                    refine z_bipush dX7_beginOne_178 (by decide +kernel) ?_
                    refine s_callS (As := [.int (iZ 105), .int (iZ 102)]) (S := [.ref 384]) dX7_beginOne_180 okX7_w2 mlX7_113 rfl (by omega) rfl (Nat.le_of_ble_eq_true rfl) (m_w2 (d := d - 1) (x := 105) (y := 102) (by omega) (by omega) (by omega) (ms (pt σ T Pf w0) A F)) (fun v_ σ_ hq => ?_)
                    obtain ⟨rfl, e9⟩ := hq
                    have e9 := e9.symm
                    subst e9
                    show sE g_tt _ _ _ 183 [some (.ref 384), some (.int (iZ (nmI (tkA b n s.1))))] [.long (lZ (105 * 256 + 102)), .ref 384] (ms (pt σ T Pf w0) A F)
                    refine s_callV (ci := 7) (a := 384) (As := [.long (lZ (105 * 256 + 102))]) (S := []) dX7_beginOne_183 okX7_isWord mlX7_177 rfl (by omega) rfl (Nat.le_of_ble_eq_true rfl) (show kd 384 = 7 from rfl) (by decide) rfl (m_isW (d := d - 1) (x := 105 * 256 + 102) σ A F T Pf (b := b) (n := n) (k := s.1) hR.1 (j := 12) (by decide) (by decide +kernel)) (fun v_ σ_ hq => ?_)
                    obtain ⟨rfl, e9⟩ := hq
                    have e9 := e9.symm
                    subst e9
                    show sE g_tt _ _ _ 186 [some (.ref 384), some (.int (iZ (nmI (tkA b n s.1))))] [.int (iZ (if tkA b n s.1 = ((12 : Nat) : Int) then 1 else 0))] (ms (pt σ T Pf w0) A F)
                    refine z_if_eq (tgt := 196) dX7_beginOne_186 (by decide) inR_01 (fun c_45 => ?_) (fun c_45 => ?_)
                    · have c_45 := if01_0 c_45
                      refine q_aload_n dX7_beginOne_196 rfl rfl ?_
                      refine z_bipush dX7_beginOne_197 (by decide +kernel) ?_
                      refine z_bipush dX7_beginOne_199 (by decide +kernel) ?_
                      refine z_bipush dX7_beginOne_201 (by decide +kernel) ?_
                      refine s_callS (As := [.int (iZ 110), .int (iZ 111), .int (iZ 116)]) (S := [.ref 384]) dX7_beginOne_203 okX7_w3 mlX7_117 rfl (by omega) rfl (Nat.le_of_ble_eq_true rfl) (m_w3 (d := d - 1) (x := 110) (y := 111) (z := 116) (by omega) (by omega) (by omega) (by omega) (ms (pt σ T Pf w0) A F)) (fun v_ σ_ hq => ?_)
                      obtain ⟨rfl, e9⟩ := hq
                      have e9 := e9.symm
                      subst e9
                      show sE g_tt _ _ _ 206 [some (.ref 384), some (.int (iZ (nmI (tkA b n s.1))))] [.long (lZ ((110 * 256 + 111) * 256 + 116)), .ref 384] (ms (pt σ T Pf w0) A F)
                      refine s_callV (ci := 7) (a := 384) (As := [.long (lZ ((110 * 256 + 111) * 256 + 116))]) (S := []) dX7_beginOne_206 okX7_isWord mlX7_177 rfl (by omega) rfl (Nat.le_of_ble_eq_true rfl) (show kd 384 = 7 from rfl) (by decide) rfl (m_isW (d := d - 1) (x := (110 * 256 + 111) * 256 + 116) σ A F T Pf (b := b) (n := n) (k := s.1) hR.1 (j := 18) (by decide) (by decide +kernel)) (fun v_ σ_ hq => ?_)
                      obtain ⟨rfl, e9⟩ := hq
                      have e9 := e9.symm
                      subst e9
                      show sE g_tt _ _ _ 209 [some (.ref 384), some (.int (iZ (nmI (tkA b n s.1))))] [.int (iZ (if tkA b n s.1 = ((18 : Nat) : Int) then 1 else 0))] (ms (pt σ T Pf w0) A F)
                      refine z_if_eq (tgt := 228) dX7_beginOne_209 (by decide) inR_01 (fun c_46 => ?_) (fun c_46 => ?_)
                      · have c_46 := if01_0 c_46
                        refine z_iconst dX7_beginOne_228 ?_
                        exact s_iretZ dX7_beginOne_229 rfl (show mAns b n tx so σ A F T (bgS (tkA b n) (nuA b n) so s) _ _ by
                          unfold bgS
                          rw [if_neg (fun z : tkA b n s.1 = 38 ∧ 9999 < nuA b n s.1 => by have z1 := z.1; have z2 := z.2; omega)]; rw [if_neg (fun z : 0 ≤ nmI (tkA b n s.1) ∧ ¬ isOfP (nmI (tkA b n s.1)) so => by have z1 := z.1; have z2 := z.2; unfold isOfP at z2; omega)]; rw [if_neg (show ¬ (tkA b n s.1 = 38 ∨ 0 ≤ nmI (tkA b n s.1)) by omega)]; rw [if_neg (show ¬ tkA b n s.1 = 33 by omega)]; rw [if_neg (show ¬ tkA b n s.1 = 30 by omega)]; rw [if_neg (show ¬ tkA b n s.1 = 9 by omega)]; rw [if_neg (show ¬ tkA b n s.1 = 11 by omega)]; rw [if_neg (show ¬ tkA b n s.1 = 12 by omega)]; rw [if_neg (fun z : tkA b n s.1 = 18 ∧ askA s.2.1 => by have := z.1; omega)]
                          exact ⟨rfl, w0, T, Pf, F, rfl, hR, hw, kpM_rf F, kpX_rf tx T⟩)
                      · have c_46 := if01_1 c_46
                        refine q_aload_n dX7_beginOne_212 rfl rfl ?_
                        refine s_callV (ci := 7) (a := 384) (As := []) (S := []) dX7_beginOne_213 okX7_isAskAhead mlX7_181 rfl (by omega) rfl (Nat.le_of_ble_eq_true rfl) (show kd 384 = 7 from rfl) (by decide) rfl (m_isAskAhead (d := d - 1) (by omega) σ A F T Pf hR (by omega)) (fun v_ σ_ hq => ?_)
                        obtain ⟨zz, rfl, hz, hz01, e9⟩ := hq
                        subst e9
                        show sE g_tt _ _ _ 216 [some (.ref 384), some (.int (iZ (nmI (tkA b n s.1))))] [.int (iZ zz)] (ms (pt σ T Pf w0) A F)
                        refine z_if_eq (tgt := 228) dX7_beginOne_216 (by decide) (by unfold inR; omega) (fun c_47 => ?_) (fun c_47 => ?_)
                        · refine z_iconst dX7_beginOne_228 ?_
                          exact s_iretZ dX7_beginOne_229 rfl (show mAns b n tx so σ A F T (bgS (tkA b n) (nuA b n) so s) _ _ by
                            unfold bgS
                            rw [if_neg (fun z : tkA b n s.1 = 38 ∧ 9999 < nuA b n s.1 => by have z1 := z.1; have z2 := z.2; omega)]; rw [if_neg (fun z : 0 ≤ nmI (tkA b n s.1) ∧ ¬ isOfP (nmI (tkA b n s.1)) so => by have z1 := z.1; have z2 := z.2; unfold isOfP at z2; omega)]; rw [if_neg (show ¬ (tkA b n s.1 = 38 ∨ 0 ≤ nmI (tkA b n s.1)) by omega)]; rw [if_neg (show ¬ tkA b n s.1 = 33 by omega)]; rw [if_neg (show ¬ tkA b n s.1 = 30 by omega)]; rw [if_neg (show ¬ tkA b n s.1 = 9 by omega)]; rw [if_neg (show ¬ tkA b n s.1 = 11 by omega)]; rw [if_neg (show ¬ tkA b n s.1 = 12 by omega)]; rw [if_neg (fun z : tkA b n s.1 = 18 ∧ askA s.2.1 => by have := hz.2 z.2; omega)]
                            exact ⟨rfl, w0, T, Pf, F, rfl, hR, hw, kpM_rf F, kpX_rf tx T⟩)
                        · refine q_aload_n dX7_beginOne_219 rfl rfl ?_
                          refine z_bipush dX7_beginOne_220 (by decide +kernel) ?_
                          refine s_callV (ci := 7) (a := 384) (As := [.int (iZ 20)]) (S := []) dX7_beginOne_222 okX7_opened mlX7_174 rfl (by omega) rfl (Nat.le_of_ble_eq_true rfl) (show kd 384 = 7 from rfl) (by decide) rfl (m_opened (d := d - 1) (x := 20) (by omega) (by omega) σ A F T Pf hR hw htx hn3 hb hb8 (by omega) (by omega)) (fun v_ σ_ hq => ?_)
                          rename gS => τ9
                          obtain ⟨rfl, hq2⟩ := hq
                          have hq : mAns b n tx so σ A F T (opS 20 s) _ τ9 := ⟨rfl, hq2⟩
                          show sE g_tt _ _ _ 225 [some (.ref 384), some (.int (iZ (nmI (tkA b n s.1))))] [.int (iZ ((opS 20 s).1))] τ9
                          refine q_goto (tgt := 229) dX7_beginOne_225 (by decide) ?_
                          exact s_iretZ dX7_beginOne_229 rfl (show mAns b n tx so σ A F T (bgS (tkA b n) (nuA b n) so s) _ _ by
                            unfold bgS
                            rw [if_neg (fun z : tkA b n s.1 = 38 ∧ 9999 < nuA b n s.1 => by have z1 := z.1; have z2 := z.2; omega)]; rw [if_neg (fun z : 0 ≤ nmI (tkA b n s.1) ∧ ¬ isOfP (nmI (tkA b n s.1)) so => by have z1 := z.1; have z2 := z.2; unfold isOfP at z2; omega)]; rw [if_neg (show ¬ (tkA b n s.1 = 38 ∨ 0 ≤ nmI (tkA b n s.1)) by omega)]; rw [if_neg (show ¬ tkA b n s.1 = 33 by omega)]; rw [if_neg (show ¬ tkA b n s.1 = 30 by omega)]; rw [if_neg (show ¬ tkA b n s.1 = 9 by omega)]; rw [if_neg (show ¬ tkA b n s.1 = 11 by omega)]; rw [if_neg (show ¬ tkA b n s.1 = 12 by omega)]; rw [if_pos (show tkA b n s.1 = 18 ∧ askA s.2.1 from ⟨by omega, hz.1 (by omega)⟩)]
                            exact hq)
                    · have c_45 := if01_1 c_45
                      refine q_aload_n dX7_beginOne_189 rfl rfl ?_
                      refine z_bipush dX7_beginOne_190 (by decide +kernel) ?_
                      refine s_callV (ci := 7) (a := 384) (As := [.int (iZ 42)]) (S := []) dX7_beginOne_192 okX7_opened mlX7_174 rfl (by omega) rfl (Nat.le_of_ble_eq_true rfl) (show kd 384 = 7 from rfl) (by decide) rfl (m_opened (d := d - 1) (x := 42) (by omega) (by omega) σ A F T Pf hR hw htx hn3 hb hb8 (by omega) (by omega)) (fun v_ σ_ hq => ?_)
                      rename gS => τ9
                      obtain ⟨rfl, hq2⟩ := hq
                      have hq : mAns b n tx so σ A F T (opS 42 s) _ τ9 := ⟨rfl, hq2⟩
                      show sE g_tt _ _ _ 195 [some (.ref 384), some (.int (iZ (nmI (tkA b n s.1))))] [.int (iZ ((opS 42 s).1))] τ9
                      exact s_iretZ dX7_beginOne_195 rfl (show mAns b n tx so σ A F T (bgS (tkA b n) (nuA b n) so s) _ _ by
                        unfold bgS
                        rw [if_neg (fun z : tkA b n s.1 = 38 ∧ 9999 < nuA b n s.1 => by have z1 := z.1; have z2 := z.2; omega)]; rw [if_neg (fun z : 0 ≤ nmI (tkA b n s.1) ∧ ¬ isOfP (nmI (tkA b n s.1)) so => by have z1 := z.1; have z2 := z.2; unfold isOfP at z2; omega)]; rw [if_neg (show ¬ (tkA b n s.1 = 38 ∨ 0 ≤ nmI (tkA b n s.1)) by omega)]; rw [if_neg (show ¬ tkA b n s.1 = 33 by omega)]; rw [if_neg (show ¬ tkA b n s.1 = 30 by omega)]; rw [if_neg (show ¬ tkA b n s.1 = 9 by omega)]; rw [if_neg (show ¬ tkA b n s.1 = 11 by omega)]; rw [if_pos (show tkA b n s.1 = 12 by omega)]
                        exact hq)
                  · have c_44 := if01_1 c_44
                    refine q_aload_n dX7_beginOne_169 rfl rfl ?_
                    refine z_iconst dX7_beginOne_170 ?_
                    refine s_callV (ci := 7) (a := 384) (As := [.int (iZ 2)]) (S := []) dX7_beginOne_171 okX7_opened mlX7_174 rfl (by omega) rfl (Nat.le_of_ble_eq_true rfl) (show kd 384 = 7 from rfl) (by decide) rfl (m_opened (d := d - 1) (x := 2) (by omega) (by omega) σ A F T Pf hR hw htx hn3 hb hb8 (by omega) (by omega)) (fun v_ σ_ hq => ?_)
                    rename gS => τ9
                    obtain ⟨rfl, hq2⟩ := hq
                    have hq : mAns b n tx so σ A F T (opS 2 s) _ τ9 := ⟨rfl, hq2⟩
                    show sE g_tt _ _ _ 174 [some (.ref 384), some (.int (iZ (nmI (tkA b n s.1))))] [.int (iZ ((opS 2 s).1))] τ9
                    exact s_iretZ dX7_beginOne_174 rfl (show mAns b n tx so σ A F T (bgS (tkA b n) (nuA b n) so s) _ _ by
                      unfold bgS
                      rw [if_neg (fun z : tkA b n s.1 = 38 ∧ 9999 < nuA b n s.1 => by have z1 := z.1; have z2 := z.2; omega)]; rw [if_neg (fun z : 0 ≤ nmI (tkA b n s.1) ∧ ¬ isOfP (nmI (tkA b n s.1)) so => by have z1 := z.1; have z2 := z.2; unfold isOfP at z2; omega)]; rw [if_neg (show ¬ (tkA b n s.1 = 38 ∨ 0 ≤ nmI (tkA b n s.1)) by omega)]; rw [if_neg (show ¬ tkA b n s.1 = 33 by omega)]; rw [if_neg (show ¬ tkA b n s.1 = 30 by omega)]; rw [if_neg (show ¬ tkA b n s.1 = 9 by omega)]; rw [if_pos (show tkA b n s.1 = 11 by omega)]
                      exact hq)
                · have c_43 := if01_1 c_43
                  refine q_aload_n dX7_beginOne_142 rfl rfl ?_
                  refine z_bipush dX7_beginOne_143 (by decide +kernel) ?_
                  refine s_callV (ci := 7) (a := 384) (As := [.int (iZ 41)]) (S := []) dX7_beginOne_145 okX7_opened mlX7_174 rfl (by omega) rfl (Nat.le_of_ble_eq_true rfl) (show kd 384 = 7 from rfl) (by decide) rfl (m_opened (d := d - 1) (x := 41) (by omega) (by omega) σ A F T Pf hR hw htx hn3 hb hb8 (by omega) (by omega)) (fun v_ σ_ hq => ?_)
                  rename gS => τ9
                  obtain ⟨rfl, hq2⟩ := hq
                  have hq : mAns b n tx so σ A F T (opS 41 s) _ τ9 := ⟨rfl, hq2⟩
                  show sE g_tt _ _ _ 148 [some (.ref 384), some (.int (iZ (nmI (tkA b n s.1))))] [.int (iZ ((opS 41 s).1))] τ9
                  exact s_iretZ dX7_beginOne_148 rfl (show mAns b n tx so σ A F T (bgS (tkA b n) (nuA b n) so s) _ _ by
                    unfold bgS
                    rw [if_neg (fun z : tkA b n s.1 = 38 ∧ 9999 < nuA b n s.1 => by have z1 := z.1; have z2 := z.2; omega)]; rw [if_neg (fun z : 0 ≤ nmI (tkA b n s.1) ∧ ¬ isOfP (nmI (tkA b n s.1)) so => by have z1 := z.1; have z2 := z.2; unfold isOfP at z2; omega)]; rw [if_neg (show ¬ (tkA b n s.1 = 38 ∨ 0 ≤ nmI (tkA b n s.1)) by omega)]; rw [if_neg (show ¬ tkA b n s.1 = 33 by omega)]; rw [if_neg (show ¬ tkA b n s.1 = 30 by omega)]; rw [if_pos (show tkA b n s.1 = 9 by omega)]
                    exact hq)
              · refine q_aload_n dX7_beginOne_118 rfl rfl ?_
                refine z_iconst dX7_beginOne_119 ?_
                refine s_callV (ci := 7) (a := 384) (As := [.int (iZ 5)]) (S := []) dX7_beginOne_120 okX7_opened mlX7_174 rfl (by omega) rfl (Nat.le_of_ble_eq_true rfl) (show kd 384 = 7 from rfl) (by decide) rfl (m_opened (d := d - 1) (x := 5) (by omega) (by omega) σ A F T Pf hR hw htx hn3 hb hb8 (by omega) (by omega)) (fun v_ σ_ hq => ?_)
                rename gS => τ9
                obtain ⟨rfl, hq2⟩ := hq
                have hq : mAns b n tx so σ A F T (opS 5 s) _ τ9 := ⟨rfl, hq2⟩
                show sE g_tt _ _ _ 123 [some (.ref 384), some (.int (iZ (nmI (tkA b n s.1))))] [.int (iZ ((opS 5 s).1))] τ9
                exact s_iretZ dX7_beginOne_123 rfl (show mAns b n tx so σ A F T (bgS (tkA b n) (nuA b n) so s) _ _ by
                  unfold bgS
                  rw [if_neg (fun z : tkA b n s.1 = 38 ∧ 9999 < nuA b n s.1 => by have z1 := z.1; have z2 := z.2; omega)]; rw [if_neg (fun z : 0 ≤ nmI (tkA b n s.1) ∧ ¬ isOfP (nmI (tkA b n s.1)) so => by have z1 := z.1; have z2 := z.2; unfold isOfP at z2; omega)]; rw [if_neg (show ¬ (tkA b n s.1 = 38 ∨ 0 ≤ nmI (tkA b n s.1)) by omega)]; rw [if_neg (show ¬ tkA b n s.1 = 33 by omega)]; rw [if_pos (show tkA b n s.1 = 30 by omega)]
                  exact hq)
            · refine q_aload_n dX7_beginOne_102 rfl rfl ?_
              refine z_bipush dX7_beginOne_103 (by decide +kernel) ?_
              refine s_callV (ci := 7) (a := 384) (As := [.int (iZ 40)]) (S := []) dX7_beginOne_105 okX7_opened mlX7_174 rfl (by omega) rfl (Nat.le_of_ble_eq_true rfl) (show kd 384 = 7 from rfl) (by decide) rfl (m_opened (d := d - 1) (x := 40) (by omega) (by omega) σ A F T Pf hR hw htx hn3 hb hb8 (by omega) (by omega)) (fun v_ σ_ hq => ?_)
              rename gS => τ9
              obtain ⟨rfl, hq2⟩ := hq
              have hq : mAns b n tx so σ A F T (opS 40 s) _ τ9 := ⟨rfl, hq2⟩
              show sE g_tt _ _ _ 108 [some (.ref 384), some (.int (iZ (nmI (tkA b n s.1))))] [.int (iZ ((opS 40 s).1))] τ9
              exact s_iretZ dX7_beginOne_108 rfl (show mAns b n tx so σ A F T (bgS (tkA b n) (nuA b n) so s) _ _ by
                unfold bgS
                rw [if_neg (fun z : tkA b n s.1 = 38 ∧ 9999 < nuA b n s.1 => by have z1 := z.1; have z2 := z.2; omega)]; rw [if_neg (fun z : 0 ≤ nmI (tkA b n s.1) ∧ ¬ isOfP (nmI (tkA b n s.1)) so => by have z1 := z.1; have z2 := z.2; unfold isOfP at z2; omega)]; rw [if_neg (show ¬ (tkA b n s.1 = 38 ∨ 0 ≤ nmI (tkA b n s.1)) by omega)]; rw [if_pos (show tkA b n s.1 = 33 by omega)]
                exact hq)
          · refine q_aload_n dX7_beginOne_51 rfl rfl ?_
            refine q_aload_n dX7_beginOne_52 rfl rfl ?_
            refine sg7 (kf := 9) (v := .int (iZ (F 9))) dX7_beginOne_53 flX7_91 (show kd 384 = 7 from rfl) (by decide) rfl ?_
            refine z_iconst dX7_beginOne_56 ?_
            refine z_icmp_ne (tgt := 64) dX7_beginOne_57 (by decide) (by unfold inR; omega) (by unfold inR; omega) (fun c_48 => ?_) (fun c_48 => ?_)
            · refine z_iconst dX7_beginOne_64 ?_
              refine q_aload_n dX7_beginOne_65 rfl rfl ?_
              refine sg7 (kf := 9) (v := .int (iZ (F 9))) dX7_beginOne_66 flX7_91 (show kd 384 = 7 from rfl) (by decide) rfl ?_
              refine z_iconst dX7_beginOne_69 ?_
              refine z_icmp_ne (tgt := 80) dX7_beginOne_70 (by decide) (by unfold inR; omega) (by unfold inR; omega) (fun c_49 => ?_) (fun c_49 => ?_)
              · refine q_iload_n dX7_beginOne_80 rfl rfl ?_
                refine s_callV (ci := 7) (a := 384) (As := [.int (iZ 1), .int (iZ (nmI (tkA b n s.1)))]) (S := []) dX7_beginOne_81 okX7_emit mlX7_148 rfl (by omega) rfl (Nat.le_of_ble_eq_true rfl) (show kd 384 = 7 from rfl) (by decide) rfl (m_emit (d := d - 1) (x := 1) (y := nmI (tkA b n s.1)) σ A F T Pf hR htx (by omega)) (fun v_ σ_ hq => ?_)
                obtain ⟨rfl, T1, F1, e9, hR1, h18, kM, kX⟩ := hq
                subst e9
                show sE g_tt _ _ _ 84 [some (.ref 384), some (.int (iZ (nmI (tkA b n s.1))))] [] (ms (pt σ T1 Pf w0) A F1)
                refine q_aload_n dX7_beginOne_84 rfl rfl ?_
                refine s_callV (ci := 7) (a := 384) (As := []) (S := []) dX7_beginOne_85 okX7_nextToken mlX7_162 rfl (by omega) rfl (Nat.le_of_ble_eq_true rfl) (show kd 384 = 7 from rfl) (by decide) rfl (m_nxt (d := d - 1) (by omega) σ A F1 T1 Pf hn3 hb hb8 hR1.1) (fun v_ σ_ hq => ?_)
                obtain ⟨rfl, w1, F2, e9, ld9, kp9⟩ := hq
                subst e9
                have hR2 := psR_k hR1 kp9 ld9
                show sE g_tt _ _ _ 88 [some (.ref 384), some (.int (iZ (nmI (tkA b n s.1))))] [] (ms (pt σ T1 Pf w1) A F2)
                refine q_aload_n dX7_beginOne_88 rfl rfl ?_
                refine s_callV (ci := 7) (a := 384) (As := []) (S := []) dX7_beginOne_89 okX7_endOne mlX7_171 rfl (by omega) rfl (Nat.le_of_ble_eq_true rfl) (show kd 384 = 7 from rfl) (by decide) rfl (m_endOne (d := d - 1) (by omega) σ A F2 T1 Pf hR2 htx hn3 hb hb8 ⟨by show s.2.1.length ≤ 155; omega, by show s.2.1.length + ((1, nmI (tkA b n s.1)) :: s.2.2.2).length ≤ 304; rw [List.length_cons]; omega⟩) (fun v_ σ_ hq => ?_)
                rename gS => τ9
                obtain ⟨rfl, hq2⟩ := hq
                have hq : mAns b n tx so σ A F T (eoS (tkA b n) (s.1 + 1, s.2.1, s.2.2.1, (1, nmI (tkA b n s.1)) :: s.2.2.2)) _ τ9 := mAns_tr ⟨rfl, hq2⟩ (kpM_tr kM (kpM_T kp9)) kX
                show sE g_tt _ _ _ 92 [some (.ref 384), some (.int (iZ (nmI (tkA b n s.1))))] [.int (iZ ((eoS (tkA b n) (s.1 + 1, s.2.1, s.2.2.1, (1, nmI (tkA b n s.1)) :: s.2.2.2)).1))] τ9
                exact s_iretZ dX7_beginOne_92 rfl (show mAns b n tx so σ A F T (bgS (tkA b n) (nuA b n) so s) _ _ by
                  unfold bgS
                  rw [if_neg (fun z : tkA b n s.1 = 38 ∧ 9999 < nuA b n s.1 => by have z1 := z.1; have z2 := z.2; omega)]; rw [if_neg (fun z : 0 ≤ nmI (tkA b n s.1) ∧ ¬ isOfP (nmI (tkA b n s.1)) so => by have z1 := z.1; have z2 := z.2; unfold isOfP at z2; omega)]; rw [if_pos (show tkA b n s.1 = 38 ∨ 0 ≤ nmI (tkA b n s.1) by omega), show (if tkA b n s.1 = 38 then ((0 : Int), nuA b n s.1) else (1, nmI (tkA b n s.1))) = (1, nmI (tkA b n s.1)) by rw [if_neg (by omega)]]
                  exact hq)
              · refine q_aload_n dX7_beginOne_73 rfl rfl ?_
                refine sg7 (kf := 10) (v := .int (iZ (F 10))) dX7_beginOne_74 flX7_97 (show kd 384 = 7 from rfl) (by decide) rfl ?_
                refine q_goto (tgt := 81) dX7_beginOne_77 (by decide) ?_
                exfalso
                omega
            · refine z_iconst dX7_beginOne_60 ?_
              refine q_goto (tgt := 65) dX7_beginOne_61 (by decide) ?_
              refine q_aload_n dX7_beginOne_65 rfl rfl ?_
              refine sg7 (kf := 9) (v := .int (iZ (F 9))) dX7_beginOne_66 flX7_91 (show kd 384 = 7 from rfl) (by decide) rfl ?_
              refine z_iconst dX7_beginOne_69 ?_
              refine z_icmp_ne (tgt := 80) dX7_beginOne_70 (by decide) (by unfold inR; omega) (by unfold inR; omega) (fun c_50 => ?_) (fun c_50 => ?_)
              · refine q_iload_n dX7_beginOne_80 rfl rfl ?_
                exfalso
                omega
              · refine q_aload_n dX7_beginOne_73 rfl rfl ?_
                refine sg7 (kf := 10) (v := .int (iZ (F 10))) dX7_beginOne_74 flX7_97 (show kd 384 = 7 from rfl) (by decide) rfl ?_
                refine q_goto (tgt := 81) dX7_beginOne_77 (by decide) ?_
                refine s_callV (ci := 7) (a := 384) (As := [.int (iZ 0), .int (iZ (F 10))]) (S := []) dX7_beginOne_81 okX7_emit mlX7_148 rfl (by omega) rfl (Nat.le_of_ble_eq_true rfl) (show kd 384 = 7 from rfl) (by decide) rfl (m_emit (d := d - 1) (x := 0) (y := F 10) σ A F T Pf hR htx (by omega)) (fun v_ σ_ hq => ?_)
                obtain ⟨rfl, T1, F1, e9, hR1, h18, kM, kX⟩ := hq
                subst e9
                show sE g_tt _ _ _ 84 [some (.ref 384), some (.int (iZ (nmI (tkA b n s.1))))] [] (ms (pt σ T1 Pf w0) A F1)
                refine q_aload_n dX7_beginOne_84 rfl rfl ?_
                refine s_callV (ci := 7) (a := 384) (As := []) (S := []) dX7_beginOne_85 okX7_nextToken mlX7_162 rfl (by omega) rfl (Nat.le_of_ble_eq_true rfl) (show kd 384 = 7 from rfl) (by decide) rfl (m_nxt (d := d - 1) (by omega) σ A F1 T1 Pf hn3 hb hb8 hR1.1) (fun v_ σ_ hq => ?_)
                obtain ⟨rfl, w1, F2, e9, ld9, kp9⟩ := hq
                subst e9
                have hR2 := psR_k hR1 kp9 ld9
                show sE g_tt _ _ _ 88 [some (.ref 384), some (.int (iZ (nmI (tkA b n s.1))))] [] (ms (pt σ T1 Pf w1) A F2)
                refine q_aload_n dX7_beginOne_88 rfl rfl ?_
                refine s_callV (ci := 7) (a := 384) (As := []) (S := []) dX7_beginOne_89 okX7_endOne mlX7_171 rfl (by omega) rfl (Nat.le_of_ble_eq_true rfl) (show kd 384 = 7 from rfl) (by decide) rfl (m_endOne (d := d - 1) (by omega) σ A F2 T1 Pf hR2 htx hn3 hb hb8 ⟨by show s.2.1.length ≤ 155; omega, by show s.2.1.length + ((0, F 10) :: s.2.2.2).length ≤ 304; rw [List.length_cons]; omega⟩) (fun v_ σ_ hq => ?_)
                rename gS => τ9
                obtain ⟨rfl, hq2⟩ := hq
                have hq : mAns b n tx so σ A F T (eoS (tkA b n) (s.1 + 1, s.2.1, s.2.2.1, (0, F 10) :: s.2.2.2)) _ τ9 := mAns_tr ⟨rfl, hq2⟩ (kpM_tr kM (kpM_T kp9)) kX
                show sE g_tt _ _ _ 92 [some (.ref 384), some (.int (iZ (nmI (tkA b n s.1))))] [.int (iZ ((eoS (tkA b n) (s.1 + 1, s.2.1, s.2.2.1, (0, F 10) :: s.2.2.2)).1))] τ9
                exact s_iretZ dX7_beginOne_92 rfl (show mAns b n tx so σ A F T (bgS (tkA b n) (nuA b n) so s) _ _ by
                  unfold bgS
                  rw [if_neg (fun z : tkA b n s.1 = 38 ∧ 9999 < nuA b n s.1 => by have z1 := z.1; have z2 := z.2; omega)]; rw [if_neg (fun z : 0 ≤ nmI (tkA b n s.1) ∧ ¬ isOfP (nmI (tkA b n s.1)) so => by have z1 := z.1; have z2 := z.2; unfold isOfP at z2; omega)]; rw [if_pos (show tkA b n s.1 = 38 ∨ 0 ≤ nmI (tkA b n s.1) by omega), show (if tkA b n s.1 = 38 then ((0 : Int), nuA b n s.1) else (1, nmI (tkA b n s.1))) = (0, F 10) by rw [if_pos (by omega)]; rw [show nuA b n s.1 = F 10 by omega]]
                  exact hq)
      · refine q_aload_n dX7_beginOne_29 rfl rfl ?_
        refine q_iload_n dX7_beginOne_30 rfl rfl ?_
        refine s_callV (ci := 7) (a := 384) (As := [.int (iZ (nmI (tkA b n s.1)))]) (S := []) dX7_beginOne_31 okX7_isOf mlX7_168 rfl (by omega) rfl (Nat.le_of_ble_eq_true rfl) (show kd 384 = 7 from rfl) (by decide) rfl (m_isOf (d := d - 1) (n := nmI (tkA b n s.1)) (by unfold inR; omega) (pt σ T Pf w0) A F (by rw [hR.2.2.2.1]; unfold inR; omega)) (fun v_ σ_ hq => ?_)
        obtain ⟨rfl, e9⟩ := hq
        have e9 := e9.symm
        subst e9
        refine z_top (y := if nmI (tkA b n s.1) < 5 ∨ (nmI (tkA b n s.1) = 7 ∧ so = 1) ∨ (¬ nmI (tkA b n s.1) = 7 ∧ so = 0) then 1 else 0) (by rw [hR.2.2.2.1]) ?_
        show sE g_tt _ _ _ 34 [some (.ref 384), some (.int (iZ (nmI (tkA b n s.1))))] [.int (iZ (if nmI (tkA b n s.1) < 5 ∨ (nmI (tkA b n s.1) = 7 ∧ so = 1) ∨ (¬ nmI (tkA b n s.1) = 7 ∧ so = 0) then 1 else 0))] (ms (pt σ T Pf w0) A F)
        refine z_if_ne (tgt := 39) dX7_beginOne_34 (by decide) inR_01 (fun c_51 => ?_) (fun c_51 => ?_)
        · have c_51 := if01_1 c_51
          refine q_aload_n dX7_beginOne_39 rfl rfl ?_
          refine sg7 (kf := 9) (v := .int (iZ (F 9))) dX7_beginOne_40 flX7_91 (show kd 384 = 7 from rfl) (by decide) rfl ?_
          refine z_iconst dX7_beginOne_43 ?_
          refine z_icmp_eq (tgt := 51) dX7_beginOne_44 (by decide) (by unfold inR; omega) (by unfold inR; omega) (fun c_52 => ?_) (fun c_52 => ?_)
          · refine q_aload_n dX7_beginOne_51 rfl rfl ?_
            refine q_aload_n dX7_beginOne_52 rfl rfl ?_
            refine sg7 (kf := 9) (v := .int (iZ (F 9))) dX7_beginOne_53 flX7_91 (show kd 384 = 7 from rfl) (by decide) rfl ?_
            refine z_iconst dX7_beginOne_56 ?_
            refine z_icmp_ne (tgt := 64) dX7_beginOne_57 (by decide) (by unfold inR; omega) (by unfold inR; omega) (fun c_53 => ?_) (fun c_53 => ?_)
            · refine z_iconst dX7_beginOne_64 ?_
              refine q_aload_n dX7_beginOne_65 rfl rfl ?_
              refine sg7 (kf := 9) (v := .int (iZ (F 9))) dX7_beginOne_66 flX7_91 (show kd 384 = 7 from rfl) (by decide) rfl ?_
              refine z_iconst dX7_beginOne_69 ?_
              refine z_icmp_ne (tgt := 80) dX7_beginOne_70 (by decide) (by unfold inR; omega) (by unfold inR; omega) (fun c_54 => ?_) (fun c_54 => ?_)
              · refine q_iload_n dX7_beginOne_80 rfl rfl ?_
                refine s_callV (ci := 7) (a := 384) (As := [.int (iZ 1), .int (iZ (nmI (tkA b n s.1)))]) (S := []) dX7_beginOne_81 okX7_emit mlX7_148 rfl (by omega) rfl (Nat.le_of_ble_eq_true rfl) (show kd 384 = 7 from rfl) (by decide) rfl (m_emit (d := d - 1) (x := 1) (y := nmI (tkA b n s.1)) σ A F T Pf hR htx (by omega)) (fun v_ σ_ hq => ?_)
                obtain ⟨rfl, T1, F1, e9, hR1, h18, kM, kX⟩ := hq
                subst e9
                show sE g_tt _ _ _ 84 [some (.ref 384), some (.int (iZ (nmI (tkA b n s.1))))] [] (ms (pt σ T1 Pf w0) A F1)
                refine q_aload_n dX7_beginOne_84 rfl rfl ?_
                refine s_callV (ci := 7) (a := 384) (As := []) (S := []) dX7_beginOne_85 okX7_nextToken mlX7_162 rfl (by omega) rfl (Nat.le_of_ble_eq_true rfl) (show kd 384 = 7 from rfl) (by decide) rfl (m_nxt (d := d - 1) (by omega) σ A F1 T1 Pf hn3 hb hb8 hR1.1) (fun v_ σ_ hq => ?_)
                obtain ⟨rfl, w1, F2, e9, ld9, kp9⟩ := hq
                subst e9
                have hR2 := psR_k hR1 kp9 ld9
                show sE g_tt _ _ _ 88 [some (.ref 384), some (.int (iZ (nmI (tkA b n s.1))))] [] (ms (pt σ T1 Pf w1) A F2)
                refine q_aload_n dX7_beginOne_88 rfl rfl ?_
                refine s_callV (ci := 7) (a := 384) (As := []) (S := []) dX7_beginOne_89 okX7_endOne mlX7_171 rfl (by omega) rfl (Nat.le_of_ble_eq_true rfl) (show kd 384 = 7 from rfl) (by decide) rfl (m_endOne (d := d - 1) (by omega) σ A F2 T1 Pf hR2 htx hn3 hb hb8 ⟨by show s.2.1.length ≤ 155; omega, by show s.2.1.length + ((1, nmI (tkA b n s.1)) :: s.2.2.2).length ≤ 304; rw [List.length_cons]; omega⟩) (fun v_ σ_ hq => ?_)
                rename gS => τ9
                obtain ⟨rfl, hq2⟩ := hq
                have hq : mAns b n tx so σ A F T (eoS (tkA b n) (s.1 + 1, s.2.1, s.2.2.1, (1, nmI (tkA b n s.1)) :: s.2.2.2)) _ τ9 := mAns_tr ⟨rfl, hq2⟩ (kpM_tr kM (kpM_T kp9)) kX
                show sE g_tt _ _ _ 92 [some (.ref 384), some (.int (iZ (nmI (tkA b n s.1))))] [.int (iZ ((eoS (tkA b n) (s.1 + 1, s.2.1, s.2.2.1, (1, nmI (tkA b n s.1)) :: s.2.2.2)).1))] τ9
                exact s_iretZ dX7_beginOne_92 rfl (show mAns b n tx so σ A F T (bgS (tkA b n) (nuA b n) so s) _ _ by
                  unfold bgS
                  rw [if_neg (fun z : tkA b n s.1 = 38 ∧ 9999 < nuA b n s.1 => by have z1 := z.1; have z2 := z.2; omega)]; rw [if_neg (fun z : 0 ≤ nmI (tkA b n s.1) ∧ ¬ isOfP (nmI (tkA b n s.1)) so => by have z1 := z.1; have z2 := z.2; unfold isOfP at z2; omega)]; rw [if_pos (show tkA b n s.1 = 38 ∨ 0 ≤ nmI (tkA b n s.1) by omega), show (if tkA b n s.1 = 38 then ((0 : Int), nuA b n s.1) else (1, nmI (tkA b n s.1))) = (1, nmI (tkA b n s.1)) by rw [if_neg (by omega)]]
                  exact hq)
              · refine q_aload_n dX7_beginOne_73 rfl rfl ?_
                refine sg7 (kf := 10) (v := .int (iZ (F 10))) dX7_beginOne_74 flX7_97 (show kd 384 = 7 from rfl) (by decide) rfl ?_
                refine q_goto (tgt := 81) dX7_beginOne_77 (by decide) ?_
                exfalso
                omega
            · refine z_iconst dX7_beginOne_60 ?_
              refine q_goto (tgt := 65) dX7_beginOne_61 (by decide) ?_
              refine q_aload_n dX7_beginOne_65 rfl rfl ?_
              refine sg7 (kf := 9) (v := .int (iZ (F 9))) dX7_beginOne_66 flX7_91 (show kd 384 = 7 from rfl) (by decide) rfl ?_
              refine z_iconst dX7_beginOne_69 ?_
              refine z_icmp_ne (tgt := 80) dX7_beginOne_70 (by decide) (by unfold inR; omega) (by unfold inR; omega) (fun c_55 => ?_) (fun c_55 => ?_)
              · refine q_iload_n dX7_beginOne_80 rfl rfl ?_
                exfalso
                omega
              · refine q_aload_n dX7_beginOne_73 rfl rfl ?_
                refine sg7 (kf := 10) (v := .int (iZ (F 10))) dX7_beginOne_74 flX7_97 (show kd 384 = 7 from rfl) (by decide) rfl ?_
                refine q_goto (tgt := 81) dX7_beginOne_77 (by decide) ?_
                refine s_callV (ci := 7) (a := 384) (As := [.int (iZ 0), .int (iZ (F 10))]) (S := []) dX7_beginOne_81 okX7_emit mlX7_148 rfl (by omega) rfl (Nat.le_of_ble_eq_true rfl) (show kd 384 = 7 from rfl) (by decide) rfl (m_emit (d := d - 1) (x := 0) (y := F 10) σ A F T Pf hR htx (by omega)) (fun v_ σ_ hq => ?_)
                obtain ⟨rfl, T1, F1, e9, hR1, h18, kM, kX⟩ := hq
                subst e9
                show sE g_tt _ _ _ 84 [some (.ref 384), some (.int (iZ (nmI (tkA b n s.1))))] [] (ms (pt σ T1 Pf w0) A F1)
                refine q_aload_n dX7_beginOne_84 rfl rfl ?_
                refine s_callV (ci := 7) (a := 384) (As := []) (S := []) dX7_beginOne_85 okX7_nextToken mlX7_162 rfl (by omega) rfl (Nat.le_of_ble_eq_true rfl) (show kd 384 = 7 from rfl) (by decide) rfl (m_nxt (d := d - 1) (by omega) σ A F1 T1 Pf hn3 hb hb8 hR1.1) (fun v_ σ_ hq => ?_)
                obtain ⟨rfl, w1, F2, e9, ld9, kp9⟩ := hq
                subst e9
                have hR2 := psR_k hR1 kp9 ld9
                show sE g_tt _ _ _ 88 [some (.ref 384), some (.int (iZ (nmI (tkA b n s.1))))] [] (ms (pt σ T1 Pf w1) A F2)
                refine q_aload_n dX7_beginOne_88 rfl rfl ?_
                refine s_callV (ci := 7) (a := 384) (As := []) (S := []) dX7_beginOne_89 okX7_endOne mlX7_171 rfl (by omega) rfl (Nat.le_of_ble_eq_true rfl) (show kd 384 = 7 from rfl) (by decide) rfl (m_endOne (d := d - 1) (by omega) σ A F2 T1 Pf hR2 htx hn3 hb hb8 ⟨by show s.2.1.length ≤ 155; omega, by show s.2.1.length + ((0, F 10) :: s.2.2.2).length ≤ 304; rw [List.length_cons]; omega⟩) (fun v_ σ_ hq => ?_)
                rename gS => τ9
                obtain ⟨rfl, hq2⟩ := hq
                have hq : mAns b n tx so σ A F T (eoS (tkA b n) (s.1 + 1, s.2.1, s.2.2.1, (0, F 10) :: s.2.2.2)) _ τ9 := mAns_tr ⟨rfl, hq2⟩ (kpM_tr kM (kpM_T kp9)) kX
                show sE g_tt _ _ _ 92 [some (.ref 384), some (.int (iZ (nmI (tkA b n s.1))))] [.int (iZ ((eoS (tkA b n) (s.1 + 1, s.2.1, s.2.2.1, (0, F 10) :: s.2.2.2)).1))] τ9
                exact s_iretZ dX7_beginOne_92 rfl (show mAns b n tx so σ A F T (bgS (tkA b n) (nuA b n) so s) _ _ by
                  unfold bgS
                  rw [if_neg (fun z : tkA b n s.1 = 38 ∧ 9999 < nuA b n s.1 => by have z1 := z.1; have z2 := z.2; omega)]; rw [if_neg (fun z : 0 ≤ nmI (tkA b n s.1) ∧ ¬ isOfP (nmI (tkA b n s.1)) so => by have z1 := z.1; have z2 := z.2; unfold isOfP at z2; omega)]; rw [if_pos (show tkA b n s.1 = 38 ∨ 0 ≤ nmI (tkA b n s.1) by omega), show (if tkA b n s.1 = 38 then ((0 : Int), nuA b n s.1) else (1, nmI (tkA b n s.1))) = (0, F 10) by rw [if_pos (by omega)]; rw [show nuA b n s.1 = F 10 by omega]]
                  exact hq)
          · refine q_iload_n dX7_beginOne_47 rfl rfl ?_
            refine z_if_lt (tgt := 93) dX7_beginOne_48 (by decide) (by unfold inR; omega) (fun c_56 => ?_) (fun c_56 => ?_)
            · refine q_aload_n dX7_beginOne_93 rfl rfl ?_
              refine sg7 (kf := 9) (v := .int (iZ (F 9))) dX7_beginOne_94 flX7_91 (show kd 384 = 7 from rfl) (by decide) rfl ?_
              refine z_bipush dX7_beginOne_97 (by decide +kernel) ?_
              refine z_icmp_ne (tgt := 109) dX7_beginOne_99 (by decide) (by unfold inR; omega) (by unfold inR; omega) (fun c_57 => ?_) (fun c_57 => ?_)
              · refine q_aload_n dX7_beginOne_109 rfl rfl ?_
                refine sg7 (kf := 9) (v := .int (iZ (F 9))) dX7_beginOne_110 flX7_91 (show kd 384 = 7 from rfl) (by decide) rfl ?_
                refine z_bipush dX7_beginOne_113 (by decide +kernel) ?_
                refine z_icmp_ne (tgt := 124) dX7_beginOne_115 (by decide) (by unfold inR; omega) (by unfold inR; omega) (fun c_58 => ?_) (fun c_58 => ?_)
                · refine q_aload_n dX7_beginOne_124 rfl rfl ?_
                  refine z_bipush dX7_beginOne_125 (by decide +kernel) ?_
                  refine z_bipush dX7_beginOne_127 (by decide +kernel) ?_
                  refine z_bipush dX7_beginOne_129 (by decide +kernel) ?_
                  refine z_bipush dX7_beginOne_131 (by decide +kernel) ?_
                  refine s_callS (As := [.int (iZ 111), .int (iZ 118), .int (iZ 101), .int (iZ 114)]) (S := [.ref 384]) dX7_beginOne_133 okX7_w4 mlX7_121 rfl (by omega) rfl (Nat.le_of_ble_eq_true rfl) (m_w4 (d := d - 1) (x := 111) (y := 118) (z := 101) (u := 114) (by omega) (by omega) (by omega) (by omega) (by omega) (ms (pt σ T Pf w0) A F)) (fun v_ σ_ hq => ?_)
                  obtain ⟨rfl, e9⟩ := hq
                  have e9 := e9.symm
                  subst e9
                  show sE g_tt _ _ _ 136 [some (.ref 384), some (.int (iZ (nmI (tkA b n s.1))))] [.long (lZ (((111 * 256 + 118) * 256 + 101) * 256 + 114)), .ref 384] (ms (pt σ T Pf w0) A F)
                  refine s_callV (ci := 7) (a := 384) (As := [.long (lZ (((111 * 256 + 118) * 256 + 101) * 256 + 114))]) (S := []) dX7_beginOne_136 okX7_isWord mlX7_177 rfl (by omega) rfl (Nat.le_of_ble_eq_true rfl) (show kd 384 = 7 from rfl) (by decide) rfl (m_isW (d := d - 1) (x := ((111 * 256 + 118) * 256 + 101) * 256 + 114) σ A F T Pf (b := b) (n := n) (k := s.1) hR.1 (j := 9) (by decide) (by decide +kernel)) (fun v_ σ_ hq => ?_)
                  obtain ⟨rfl, e9⟩ := hq
                  have e9 := e9.symm
                  subst e9
                  show sE g_tt _ _ _ 139 [some (.ref 384), some (.int (iZ (nmI (tkA b n s.1))))] [.int (iZ (if tkA b n s.1 = ((9 : Nat) : Int) then 1 else 0))] (ms (pt σ T Pf w0) A F)
                  refine z_if_eq (tgt := 149) dX7_beginOne_139 (by decide) inR_01 (fun c_59 => ?_) (fun c_59 => ?_)
                  · have c_59 := if01_0 c_59
                    refine q_aload_n dX7_beginOne_149 rfl rfl ?_
                    refine z_bipush dX7_beginOne_150 (by decide +kernel) ?_
                    refine z_bipush dX7_beginOne_152 (by decide +kernel) ?_
                    refine z_bipush dX7_beginOne_154 (by decide +kernel) ?_
                    refine z_bipush dX7_beginOne_156 (by decide +kernel) ?_
                    refine z_bipush dX7_beginOne_158 (by decide +kernel) ?_
                    refine s_callS (As := [.int (iZ 104), .int (iZ 111), .int (iZ 117), .int (iZ 115), .int (iZ 101)]) (S := [.ref 384]) dX7_beginOne_160 okX7_w5 mlX7_125 rfl (by omega) rfl (Nat.le_of_ble_eq_true rfl) (m_w5 (d := d - 1) (x := 104) (y := 111) (z := 117) (u := 115) (v := 101) (by omega) (by omega) (by omega) (by omega) (by omega) (by omega) (ms (pt σ T Pf w0) A F)) (fun v_ σ_ hq => ?_)
                    obtain ⟨rfl, e9⟩ := hq
                    have e9 := e9.symm
                    subst e9
                    show sE g_tt _ _ _ 163 [some (.ref 384), some (.int (iZ (nmI (tkA b n s.1))))] [.long (lZ ((((104 * 256 + 111) * 256 + 117) * 256 + 115) * 256 + 101)), .ref 384] (ms (pt σ T Pf w0) A F)
                    refine s_callV (ci := 7) (a := 384) (As := [.long (lZ ((((104 * 256 + 111) * 256 + 117) * 256 + 115) * 256 + 101))]) (S := []) dX7_beginOne_163 okX7_isWord mlX7_177 rfl (by omega) rfl (Nat.le_of_ble_eq_true rfl) (show kd 384 = 7 from rfl) (by decide) rfl (m_isW (d := d - 1) (x := (((104 * 256 + 111) * 256 + 117) * 256 + 115) * 256 + 101) σ A F T Pf (b := b) (n := n) (k := s.1) hR.1 (j := 11) (by decide) (by decide +kernel)) (fun v_ σ_ hq => ?_)
                    obtain ⟨rfl, e9⟩ := hq
                    have e9 := e9.symm
                    subst e9
                    show sE g_tt _ _ _ 166 [some (.ref 384), some (.int (iZ (nmI (tkA b n s.1))))] [.int (iZ (if tkA b n s.1 = ((11 : Nat) : Int) then 1 else 0))] (ms (pt σ T Pf w0) A F)
                    refine z_if_eq (tgt := 175) dX7_beginOne_166 (by decide) inR_01 (fun c_60 => ?_) (fun c_60 => ?_)
                    · have c_60 := if01_0 c_60
                      refine q_aload_n dX7_beginOne_175 rfl rfl ?_
                      refine z_bipush dX7_beginOne_176 (by decide +kernel) ?_
                      refine z_bipush dX7_beginOne_178 (by decide +kernel) ?_
                      refine s_callS (As := [.int (iZ 105), .int (iZ 102)]) (S := [.ref 384]) dX7_beginOne_180 okX7_w2 mlX7_113 rfl (by omega) rfl (Nat.le_of_ble_eq_true rfl) (m_w2 (d := d - 1) (x := 105) (y := 102) (by omega) (by omega) (by omega) (ms (pt σ T Pf w0) A F)) (fun v_ σ_ hq => ?_)
                      obtain ⟨rfl, e9⟩ := hq
                      have e9 := e9.symm
                      subst e9
                      show sE g_tt _ _ _ 183 [some (.ref 384), some (.int (iZ (nmI (tkA b n s.1))))] [.long (lZ (105 * 256 + 102)), .ref 384] (ms (pt σ T Pf w0) A F)
                      refine s_callV (ci := 7) (a := 384) (As := [.long (lZ (105 * 256 + 102))]) (S := []) dX7_beginOne_183 okX7_isWord mlX7_177 rfl (by omega) rfl (Nat.le_of_ble_eq_true rfl) (show kd 384 = 7 from rfl) (by decide) rfl (m_isW (d := d - 1) (x := 105 * 256 + 102) σ A F T Pf (b := b) (n := n) (k := s.1) hR.1 (j := 12) (by decide) (by decide +kernel)) (fun v_ σ_ hq => ?_)
                      obtain ⟨rfl, e9⟩ := hq
                      have e9 := e9.symm
                      subst e9
                      show sE g_tt _ _ _ 186 [some (.ref 384), some (.int (iZ (nmI (tkA b n s.1))))] [.int (iZ (if tkA b n s.1 = ((12 : Nat) : Int) then 1 else 0))] (ms (pt σ T Pf w0) A F)
                      refine z_if_eq (tgt := 196) dX7_beginOne_186 (by decide) inR_01 (fun c_61 => ?_) (fun c_61 => ?_)
                      · have c_61 := if01_0 c_61
                        refine q_aload_n dX7_beginOne_196 rfl rfl ?_
                        refine z_bipush dX7_beginOne_197 (by decide +kernel) ?_
                        refine z_bipush dX7_beginOne_199 (by decide +kernel) ?_
                        refine z_bipush dX7_beginOne_201 (by decide +kernel) ?_
                        refine s_callS (As := [.int (iZ 110), .int (iZ 111), .int (iZ 116)]) (S := [.ref 384]) dX7_beginOne_203 okX7_w3 mlX7_117 rfl (by omega) rfl (Nat.le_of_ble_eq_true rfl) (m_w3 (d := d - 1) (x := 110) (y := 111) (z := 116) (by omega) (by omega) (by omega) (by omega) (ms (pt σ T Pf w0) A F)) (fun v_ σ_ hq => ?_)
                        obtain ⟨rfl, e9⟩ := hq
                        have e9 := e9.symm
                        subst e9
                        show sE g_tt _ _ _ 206 [some (.ref 384), some (.int (iZ (nmI (tkA b n s.1))))] [.long (lZ ((110 * 256 + 111) * 256 + 116)), .ref 384] (ms (pt σ T Pf w0) A F)
                        refine s_callV (ci := 7) (a := 384) (As := [.long (lZ ((110 * 256 + 111) * 256 + 116))]) (S := []) dX7_beginOne_206 okX7_isWord mlX7_177 rfl (by omega) rfl (Nat.le_of_ble_eq_true rfl) (show kd 384 = 7 from rfl) (by decide) rfl (m_isW (d := d - 1) (x := (110 * 256 + 111) * 256 + 116) σ A F T Pf (b := b) (n := n) (k := s.1) hR.1 (j := 18) (by decide) (by decide +kernel)) (fun v_ σ_ hq => ?_)
                        obtain ⟨rfl, e9⟩ := hq
                        have e9 := e9.symm
                        subst e9
                        show sE g_tt _ _ _ 209 [some (.ref 384), some (.int (iZ (nmI (tkA b n s.1))))] [.int (iZ (if tkA b n s.1 = ((18 : Nat) : Int) then 1 else 0))] (ms (pt σ T Pf w0) A F)
                        refine z_if_eq (tgt := 228) dX7_beginOne_209 (by decide) inR_01 (fun c_62 => ?_) (fun c_62 => ?_)
                        · have c_62 := if01_0 c_62
                          refine z_iconst dX7_beginOne_228 ?_
                          exact s_iretZ dX7_beginOne_229 rfl (show mAns b n tx so σ A F T (bgS (tkA b n) (nuA b n) so s) _ _ by
                            unfold bgS
                            rw [if_neg (fun z : tkA b n s.1 = 38 ∧ 9999 < nuA b n s.1 => by have z1 := z.1; have z2 := z.2; omega)]; rw [if_neg (fun z : 0 ≤ nmI (tkA b n s.1) ∧ ¬ isOfP (nmI (tkA b n s.1)) so => by have z1 := z.1; have z2 := z.2; unfold isOfP at z2; omega)]; rw [if_neg (show ¬ (tkA b n s.1 = 38 ∨ 0 ≤ nmI (tkA b n s.1)) by omega)]; rw [if_neg (show ¬ tkA b n s.1 = 33 by omega)]; rw [if_neg (show ¬ tkA b n s.1 = 30 by omega)]; rw [if_neg (show ¬ tkA b n s.1 = 9 by omega)]; rw [if_neg (show ¬ tkA b n s.1 = 11 by omega)]; rw [if_neg (show ¬ tkA b n s.1 = 12 by omega)]; rw [if_neg (fun z : tkA b n s.1 = 18 ∧ askA s.2.1 => by have := z.1; omega)]
                            exact ⟨rfl, w0, T, Pf, F, rfl, hR, hw, kpM_rf F, kpX_rf tx T⟩)
                        · have c_62 := if01_1 c_62
                          refine q_aload_n dX7_beginOne_212 rfl rfl ?_
                          refine s_callV (ci := 7) (a := 384) (As := []) (S := []) dX7_beginOne_213 okX7_isAskAhead mlX7_181 rfl (by omega) rfl (Nat.le_of_ble_eq_true rfl) (show kd 384 = 7 from rfl) (by decide) rfl (m_isAskAhead (d := d - 1) (by omega) σ A F T Pf hR (by omega)) (fun v_ σ_ hq => ?_)
                          obtain ⟨zz, rfl, hz, hz01, e9⟩ := hq
                          subst e9
                          show sE g_tt _ _ _ 216 [some (.ref 384), some (.int (iZ (nmI (tkA b n s.1))))] [.int (iZ zz)] (ms (pt σ T Pf w0) A F)
                          refine z_if_eq (tgt := 228) dX7_beginOne_216 (by decide) (by unfold inR; omega) (fun c_63 => ?_) (fun c_63 => ?_)
                          · refine z_iconst dX7_beginOne_228 ?_
                            exact s_iretZ dX7_beginOne_229 rfl (show mAns b n tx so σ A F T (bgS (tkA b n) (nuA b n) so s) _ _ by
                              unfold bgS
                              rw [if_neg (fun z : tkA b n s.1 = 38 ∧ 9999 < nuA b n s.1 => by have z1 := z.1; have z2 := z.2; omega)]; rw [if_neg (fun z : 0 ≤ nmI (tkA b n s.1) ∧ ¬ isOfP (nmI (tkA b n s.1)) so => by have z1 := z.1; have z2 := z.2; unfold isOfP at z2; omega)]; rw [if_neg (show ¬ (tkA b n s.1 = 38 ∨ 0 ≤ nmI (tkA b n s.1)) by omega)]; rw [if_neg (show ¬ tkA b n s.1 = 33 by omega)]; rw [if_neg (show ¬ tkA b n s.1 = 30 by omega)]; rw [if_neg (show ¬ tkA b n s.1 = 9 by omega)]; rw [if_neg (show ¬ tkA b n s.1 = 11 by omega)]; rw [if_neg (show ¬ tkA b n s.1 = 12 by omega)]; rw [if_neg (fun z : tkA b n s.1 = 18 ∧ askA s.2.1 => by have := hz.2 z.2; omega)]
                              exact ⟨rfl, w0, T, Pf, F, rfl, hR, hw, kpM_rf F, kpX_rf tx T⟩)
                          · refine q_aload_n dX7_beginOne_219 rfl rfl ?_
                            refine z_bipush dX7_beginOne_220 (by decide +kernel) ?_
                            refine s_callV (ci := 7) (a := 384) (As := [.int (iZ 20)]) (S := []) dX7_beginOne_222 okX7_opened mlX7_174 rfl (by omega) rfl (Nat.le_of_ble_eq_true rfl) (show kd 384 = 7 from rfl) (by decide) rfl (m_opened (d := d - 1) (x := 20) (by omega) (by omega) σ A F T Pf hR hw htx hn3 hb hb8 (by omega) (by omega)) (fun v_ σ_ hq => ?_)
                            rename gS => τ9
                            obtain ⟨rfl, hq2⟩ := hq
                            have hq : mAns b n tx so σ A F T (opS 20 s) _ τ9 := ⟨rfl, hq2⟩
                            show sE g_tt _ _ _ 225 [some (.ref 384), some (.int (iZ (nmI (tkA b n s.1))))] [.int (iZ ((opS 20 s).1))] τ9
                            refine q_goto (tgt := 229) dX7_beginOne_225 (by decide) ?_
                            exact s_iretZ dX7_beginOne_229 rfl (show mAns b n tx so σ A F T (bgS (tkA b n) (nuA b n) so s) _ _ by
                              unfold bgS
                              rw [if_neg (fun z : tkA b n s.1 = 38 ∧ 9999 < nuA b n s.1 => by have z1 := z.1; have z2 := z.2; omega)]; rw [if_neg (fun z : 0 ≤ nmI (tkA b n s.1) ∧ ¬ isOfP (nmI (tkA b n s.1)) so => by have z1 := z.1; have z2 := z.2; unfold isOfP at z2; omega)]; rw [if_neg (show ¬ (tkA b n s.1 = 38 ∨ 0 ≤ nmI (tkA b n s.1)) by omega)]; rw [if_neg (show ¬ tkA b n s.1 = 33 by omega)]; rw [if_neg (show ¬ tkA b n s.1 = 30 by omega)]; rw [if_neg (show ¬ tkA b n s.1 = 9 by omega)]; rw [if_neg (show ¬ tkA b n s.1 = 11 by omega)]; rw [if_neg (show ¬ tkA b n s.1 = 12 by omega)]; rw [if_pos (show tkA b n s.1 = 18 ∧ askA s.2.1 from ⟨by omega, hz.1 (by omega)⟩)]
                              exact hq)
                      · have c_61 := if01_1 c_61
                        refine q_aload_n dX7_beginOne_189 rfl rfl ?_
                        refine z_bipush dX7_beginOne_190 (by decide +kernel) ?_
                        refine s_callV (ci := 7) (a := 384) (As := [.int (iZ 42)]) (S := []) dX7_beginOne_192 okX7_opened mlX7_174 rfl (by omega) rfl (Nat.le_of_ble_eq_true rfl) (show kd 384 = 7 from rfl) (by decide) rfl (m_opened (d := d - 1) (x := 42) (by omega) (by omega) σ A F T Pf hR hw htx hn3 hb hb8 (by omega) (by omega)) (fun v_ σ_ hq => ?_)
                        rename gS => τ9
                        obtain ⟨rfl, hq2⟩ := hq
                        have hq : mAns b n tx so σ A F T (opS 42 s) _ τ9 := ⟨rfl, hq2⟩
                        show sE g_tt _ _ _ 195 [some (.ref 384), some (.int (iZ (nmI (tkA b n s.1))))] [.int (iZ ((opS 42 s).1))] τ9
                        exact s_iretZ dX7_beginOne_195 rfl (show mAns b n tx so σ A F T (bgS (tkA b n) (nuA b n) so s) _ _ by
                          unfold bgS
                          rw [if_neg (fun z : tkA b n s.1 = 38 ∧ 9999 < nuA b n s.1 => by have z1 := z.1; have z2 := z.2; omega)]; rw [if_neg (fun z : 0 ≤ nmI (tkA b n s.1) ∧ ¬ isOfP (nmI (tkA b n s.1)) so => by have z1 := z.1; have z2 := z.2; unfold isOfP at z2; omega)]; rw [if_neg (show ¬ (tkA b n s.1 = 38 ∨ 0 ≤ nmI (tkA b n s.1)) by omega)]; rw [if_neg (show ¬ tkA b n s.1 = 33 by omega)]; rw [if_neg (show ¬ tkA b n s.1 = 30 by omega)]; rw [if_neg (show ¬ tkA b n s.1 = 9 by omega)]; rw [if_neg (show ¬ tkA b n s.1 = 11 by omega)]; rw [if_pos (show tkA b n s.1 = 12 by omega)]
                          exact hq)
                    · have c_60 := if01_1 c_60
                      refine q_aload_n dX7_beginOne_169 rfl rfl ?_
                      refine z_iconst dX7_beginOne_170 ?_
                      refine s_callV (ci := 7) (a := 384) (As := [.int (iZ 2)]) (S := []) dX7_beginOne_171 okX7_opened mlX7_174 rfl (by omega) rfl (Nat.le_of_ble_eq_true rfl) (show kd 384 = 7 from rfl) (by decide) rfl (m_opened (d := d - 1) (x := 2) (by omega) (by omega) σ A F T Pf hR hw htx hn3 hb hb8 (by omega) (by omega)) (fun v_ σ_ hq => ?_)
                      rename gS => τ9
                      obtain ⟨rfl, hq2⟩ := hq
                      have hq : mAns b n tx so σ A F T (opS 2 s) _ τ9 := ⟨rfl, hq2⟩
                      show sE g_tt _ _ _ 174 [some (.ref 384), some (.int (iZ (nmI (tkA b n s.1))))] [.int (iZ ((opS 2 s).1))] τ9
                      exact s_iretZ dX7_beginOne_174 rfl (show mAns b n tx so σ A F T (bgS (tkA b n) (nuA b n) so s) _ _ by
                        unfold bgS
                        rw [if_neg (fun z : tkA b n s.1 = 38 ∧ 9999 < nuA b n s.1 => by have z1 := z.1; have z2 := z.2; omega)]; rw [if_neg (fun z : 0 ≤ nmI (tkA b n s.1) ∧ ¬ isOfP (nmI (tkA b n s.1)) so => by have z1 := z.1; have z2 := z.2; unfold isOfP at z2; omega)]; rw [if_neg (show ¬ (tkA b n s.1 = 38 ∨ 0 ≤ nmI (tkA b n s.1)) by omega)]; rw [if_neg (show ¬ tkA b n s.1 = 33 by omega)]; rw [if_neg (show ¬ tkA b n s.1 = 30 by omega)]; rw [if_neg (show ¬ tkA b n s.1 = 9 by omega)]; rw [if_pos (show tkA b n s.1 = 11 by omega)]
                        exact hq)
                  · have c_59 := if01_1 c_59
                    refine q_aload_n dX7_beginOne_142 rfl rfl ?_
                    refine z_bipush dX7_beginOne_143 (by decide +kernel) ?_
                    refine s_callV (ci := 7) (a := 384) (As := [.int (iZ 41)]) (S := []) dX7_beginOne_145 okX7_opened mlX7_174 rfl (by omega) rfl (Nat.le_of_ble_eq_true rfl) (show kd 384 = 7 from rfl) (by decide) rfl (m_opened (d := d - 1) (x := 41) (by omega) (by omega) σ A F T Pf hR hw htx hn3 hb hb8 (by omega) (by omega)) (fun v_ σ_ hq => ?_)
                    rename gS => τ9
                    obtain ⟨rfl, hq2⟩ := hq
                    have hq : mAns b n tx so σ A F T (opS 41 s) _ τ9 := ⟨rfl, hq2⟩
                    show sE g_tt _ _ _ 148 [some (.ref 384), some (.int (iZ (nmI (tkA b n s.1))))] [.int (iZ ((opS 41 s).1))] τ9
                    exact s_iretZ dX7_beginOne_148 rfl (show mAns b n tx so σ A F T (bgS (tkA b n) (nuA b n) so s) _ _ by
                      unfold bgS
                      rw [if_neg (fun z : tkA b n s.1 = 38 ∧ 9999 < nuA b n s.1 => by have z1 := z.1; have z2 := z.2; omega)]; rw [if_neg (fun z : 0 ≤ nmI (tkA b n s.1) ∧ ¬ isOfP (nmI (tkA b n s.1)) so => by have z1 := z.1; have z2 := z.2; unfold isOfP at z2; omega)]; rw [if_neg (show ¬ (tkA b n s.1 = 38 ∨ 0 ≤ nmI (tkA b n s.1)) by omega)]; rw [if_neg (show ¬ tkA b n s.1 = 33 by omega)]; rw [if_neg (show ¬ tkA b n s.1 = 30 by omega)]; rw [if_pos (show tkA b n s.1 = 9 by omega)]
                      exact hq)
                · refine q_aload_n dX7_beginOne_118 rfl rfl ?_
                  refine z_iconst dX7_beginOne_119 ?_
                  refine s_callV (ci := 7) (a := 384) (As := [.int (iZ 5)]) (S := []) dX7_beginOne_120 okX7_opened mlX7_174 rfl (by omega) rfl (Nat.le_of_ble_eq_true rfl) (show kd 384 = 7 from rfl) (by decide) rfl (m_opened (d := d - 1) (x := 5) (by omega) (by omega) σ A F T Pf hR hw htx hn3 hb hb8 (by omega) (by omega)) (fun v_ σ_ hq => ?_)
                  rename gS => τ9
                  obtain ⟨rfl, hq2⟩ := hq
                  have hq : mAns b n tx so σ A F T (opS 5 s) _ τ9 := ⟨rfl, hq2⟩
                  show sE g_tt _ _ _ 123 [some (.ref 384), some (.int (iZ (nmI (tkA b n s.1))))] [.int (iZ ((opS 5 s).1))] τ9
                  exact s_iretZ dX7_beginOne_123 rfl (show mAns b n tx so σ A F T (bgS (tkA b n) (nuA b n) so s) _ _ by
                    unfold bgS
                    rw [if_neg (fun z : tkA b n s.1 = 38 ∧ 9999 < nuA b n s.1 => by have z1 := z.1; have z2 := z.2; omega)]; rw [if_neg (fun z : 0 ≤ nmI (tkA b n s.1) ∧ ¬ isOfP (nmI (tkA b n s.1)) so => by have z1 := z.1; have z2 := z.2; unfold isOfP at z2; omega)]; rw [if_neg (show ¬ (tkA b n s.1 = 38 ∨ 0 ≤ nmI (tkA b n s.1)) by omega)]; rw [if_neg (show ¬ tkA b n s.1 = 33 by omega)]; rw [if_pos (show tkA b n s.1 = 30 by omega)]
                    exact hq)
              · refine q_aload_n dX7_beginOne_102 rfl rfl ?_
                refine z_bipush dX7_beginOne_103 (by decide +kernel) ?_
                refine s_callV (ci := 7) (a := 384) (As := [.int (iZ 40)]) (S := []) dX7_beginOne_105 okX7_opened mlX7_174 rfl (by omega) rfl (Nat.le_of_ble_eq_true rfl) (show kd 384 = 7 from rfl) (by decide) rfl (m_opened (d := d - 1) (x := 40) (by omega) (by omega) σ A F T Pf hR hw htx hn3 hb hb8 (by omega) (by omega)) (fun v_ σ_ hq => ?_)
                rename gS => τ9
                obtain ⟨rfl, hq2⟩ := hq
                have hq : mAns b n tx so σ A F T (opS 40 s) _ τ9 := ⟨rfl, hq2⟩
                show sE g_tt _ _ _ 108 [some (.ref 384), some (.int (iZ (nmI (tkA b n s.1))))] [.int (iZ ((opS 40 s).1))] τ9
                exact s_iretZ dX7_beginOne_108 rfl (show mAns b n tx so σ A F T (bgS (tkA b n) (nuA b n) so s) _ _ by
                  unfold bgS
                  rw [if_neg (fun z : tkA b n s.1 = 38 ∧ 9999 < nuA b n s.1 => by have z1 := z.1; have z2 := z.2; omega)]; rw [if_neg (fun z : 0 ≤ nmI (tkA b n s.1) ∧ ¬ isOfP (nmI (tkA b n s.1)) so => by have z1 := z.1; have z2 := z.2; unfold isOfP at z2; omega)]; rw [if_neg (show ¬ (tkA b n s.1 = 38 ∨ 0 ≤ nmI (tkA b n s.1)) by omega)]; rw [if_pos (show tkA b n s.1 = 33 by omega)]
                  exact hq)
            · refine q_aload_n dX7_beginOne_51 rfl rfl ?_
              refine q_aload_n dX7_beginOne_52 rfl rfl ?_
              refine sg7 (kf := 9) (v := .int (iZ (F 9))) dX7_beginOne_53 flX7_91 (show kd 384 = 7 from rfl) (by decide) rfl ?_
              refine z_iconst dX7_beginOne_56 ?_
              refine z_icmp_ne (tgt := 64) dX7_beginOne_57 (by decide) (by unfold inR; omega) (by unfold inR; omega) (fun c_64 => ?_) (fun c_64 => ?_)
              · refine z_iconst dX7_beginOne_64 ?_
                refine q_aload_n dX7_beginOne_65 rfl rfl ?_
                refine sg7 (kf := 9) (v := .int (iZ (F 9))) dX7_beginOne_66 flX7_91 (show kd 384 = 7 from rfl) (by decide) rfl ?_
                refine z_iconst dX7_beginOne_69 ?_
                refine z_icmp_ne (tgt := 80) dX7_beginOne_70 (by decide) (by unfold inR; omega) (by unfold inR; omega) (fun c_65 => ?_) (fun c_65 => ?_)
                · refine q_iload_n dX7_beginOne_80 rfl rfl ?_
                  refine s_callV (ci := 7) (a := 384) (As := [.int (iZ 1), .int (iZ (nmI (tkA b n s.1)))]) (S := []) dX7_beginOne_81 okX7_emit mlX7_148 rfl (by omega) rfl (Nat.le_of_ble_eq_true rfl) (show kd 384 = 7 from rfl) (by decide) rfl (m_emit (d := d - 1) (x := 1) (y := nmI (tkA b n s.1)) σ A F T Pf hR htx (by omega)) (fun v_ σ_ hq => ?_)
                  obtain ⟨rfl, T1, F1, e9, hR1, h18, kM, kX⟩ := hq
                  subst e9
                  show sE g_tt _ _ _ 84 [some (.ref 384), some (.int (iZ (nmI (tkA b n s.1))))] [] (ms (pt σ T1 Pf w0) A F1)
                  refine q_aload_n dX7_beginOne_84 rfl rfl ?_
                  refine s_callV (ci := 7) (a := 384) (As := []) (S := []) dX7_beginOne_85 okX7_nextToken mlX7_162 rfl (by omega) rfl (Nat.le_of_ble_eq_true rfl) (show kd 384 = 7 from rfl) (by decide) rfl (m_nxt (d := d - 1) (by omega) σ A F1 T1 Pf hn3 hb hb8 hR1.1) (fun v_ σ_ hq => ?_)
                  obtain ⟨rfl, w1, F2, e9, ld9, kp9⟩ := hq
                  subst e9
                  have hR2 := psR_k hR1 kp9 ld9
                  show sE g_tt _ _ _ 88 [some (.ref 384), some (.int (iZ (nmI (tkA b n s.1))))] [] (ms (pt σ T1 Pf w1) A F2)
                  refine q_aload_n dX7_beginOne_88 rfl rfl ?_
                  refine s_callV (ci := 7) (a := 384) (As := []) (S := []) dX7_beginOne_89 okX7_endOne mlX7_171 rfl (by omega) rfl (Nat.le_of_ble_eq_true rfl) (show kd 384 = 7 from rfl) (by decide) rfl (m_endOne (d := d - 1) (by omega) σ A F2 T1 Pf hR2 htx hn3 hb hb8 ⟨by show s.2.1.length ≤ 155; omega, by show s.2.1.length + ((1, nmI (tkA b n s.1)) :: s.2.2.2).length ≤ 304; rw [List.length_cons]; omega⟩) (fun v_ σ_ hq => ?_)
                  rename gS => τ9
                  obtain ⟨rfl, hq2⟩ := hq
                  have hq : mAns b n tx so σ A F T (eoS (tkA b n) (s.1 + 1, s.2.1, s.2.2.1, (1, nmI (tkA b n s.1)) :: s.2.2.2)) _ τ9 := mAns_tr ⟨rfl, hq2⟩ (kpM_tr kM (kpM_T kp9)) kX
                  show sE g_tt _ _ _ 92 [some (.ref 384), some (.int (iZ (nmI (tkA b n s.1))))] [.int (iZ ((eoS (tkA b n) (s.1 + 1, s.2.1, s.2.2.1, (1, nmI (tkA b n s.1)) :: s.2.2.2)).1))] τ9
                  exact s_iretZ dX7_beginOne_92 rfl (show mAns b n tx so σ A F T (bgS (tkA b n) (nuA b n) so s) _ _ by
                    unfold bgS
                    rw [if_neg (fun z : tkA b n s.1 = 38 ∧ 9999 < nuA b n s.1 => by have z1 := z.1; have z2 := z.2; omega)]; rw [if_neg (fun z : 0 ≤ nmI (tkA b n s.1) ∧ ¬ isOfP (nmI (tkA b n s.1)) so => by have z1 := z.1; have z2 := z.2; unfold isOfP at z2; omega)]; rw [if_pos (show tkA b n s.1 = 38 ∨ 0 ≤ nmI (tkA b n s.1) by omega), show (if tkA b n s.1 = 38 then ((0 : Int), nuA b n s.1) else (1, nmI (tkA b n s.1))) = (1, nmI (tkA b n s.1)) by rw [if_neg (by omega)]]
                    exact hq)
                · refine q_aload_n dX7_beginOne_73 rfl rfl ?_
                  refine sg7 (kf := 10) (v := .int (iZ (F 10))) dX7_beginOne_74 flX7_97 (show kd 384 = 7 from rfl) (by decide) rfl ?_
                  refine q_goto (tgt := 81) dX7_beginOne_77 (by decide) ?_
                  exfalso
                  omega
              · refine z_iconst dX7_beginOne_60 ?_
                refine q_goto (tgt := 65) dX7_beginOne_61 (by decide) ?_
                refine q_aload_n dX7_beginOne_65 rfl rfl ?_
                refine sg7 (kf := 9) (v := .int (iZ (F 9))) dX7_beginOne_66 flX7_91 (show kd 384 = 7 from rfl) (by decide) rfl ?_
                refine z_iconst dX7_beginOne_69 ?_
                refine z_icmp_ne (tgt := 80) dX7_beginOne_70 (by decide) (by unfold inR; omega) (by unfold inR; omega) (fun c_66 => ?_) (fun c_66 => ?_)
                · refine q_iload_n dX7_beginOne_80 rfl rfl ?_
                  exfalso
                  omega
                · refine q_aload_n dX7_beginOne_73 rfl rfl ?_
                  refine sg7 (kf := 10) (v := .int (iZ (F 10))) dX7_beginOne_74 flX7_97 (show kd 384 = 7 from rfl) (by decide) rfl ?_
                  refine q_goto (tgt := 81) dX7_beginOne_77 (by decide) ?_
                  refine s_callV (ci := 7) (a := 384) (As := [.int (iZ 0), .int (iZ (F 10))]) (S := []) dX7_beginOne_81 okX7_emit mlX7_148 rfl (by omega) rfl (Nat.le_of_ble_eq_true rfl) (show kd 384 = 7 from rfl) (by decide) rfl (m_emit (d := d - 1) (x := 0) (y := F 10) σ A F T Pf hR htx (by omega)) (fun v_ σ_ hq => ?_)
                  obtain ⟨rfl, T1, F1, e9, hR1, h18, kM, kX⟩ := hq
                  subst e9
                  show sE g_tt _ _ _ 84 [some (.ref 384), some (.int (iZ (nmI (tkA b n s.1))))] [] (ms (pt σ T1 Pf w0) A F1)
                  refine q_aload_n dX7_beginOne_84 rfl rfl ?_
                  refine s_callV (ci := 7) (a := 384) (As := []) (S := []) dX7_beginOne_85 okX7_nextToken mlX7_162 rfl (by omega) rfl (Nat.le_of_ble_eq_true rfl) (show kd 384 = 7 from rfl) (by decide) rfl (m_nxt (d := d - 1) (by omega) σ A F1 T1 Pf hn3 hb hb8 hR1.1) (fun v_ σ_ hq => ?_)
                  obtain ⟨rfl, w1, F2, e9, ld9, kp9⟩ := hq
                  subst e9
                  have hR2 := psR_k hR1 kp9 ld9
                  show sE g_tt _ _ _ 88 [some (.ref 384), some (.int (iZ (nmI (tkA b n s.1))))] [] (ms (pt σ T1 Pf w1) A F2)
                  refine q_aload_n dX7_beginOne_88 rfl rfl ?_
                  refine s_callV (ci := 7) (a := 384) (As := []) (S := []) dX7_beginOne_89 okX7_endOne mlX7_171 rfl (by omega) rfl (Nat.le_of_ble_eq_true rfl) (show kd 384 = 7 from rfl) (by decide) rfl (m_endOne (d := d - 1) (by omega) σ A F2 T1 Pf hR2 htx hn3 hb hb8 ⟨by show s.2.1.length ≤ 155; omega, by show s.2.1.length + ((0, F 10) :: s.2.2.2).length ≤ 304; rw [List.length_cons]; omega⟩) (fun v_ σ_ hq => ?_)
                  rename gS => τ9
                  obtain ⟨rfl, hq2⟩ := hq
                  have hq : mAns b n tx so σ A F T (eoS (tkA b n) (s.1 + 1, s.2.1, s.2.2.1, (0, F 10) :: s.2.2.2)) _ τ9 := mAns_tr ⟨rfl, hq2⟩ (kpM_tr kM (kpM_T kp9)) kX
                  show sE g_tt _ _ _ 92 [some (.ref 384), some (.int (iZ (nmI (tkA b n s.1))))] [.int (iZ ((eoS (tkA b n) (s.1 + 1, s.2.1, s.2.2.1, (0, F 10) :: s.2.2.2)).1))] τ9
                  exact s_iretZ dX7_beginOne_92 rfl (show mAns b n tx so σ A F T (bgS (tkA b n) (nuA b n) so s) _ _ by
                    unfold bgS
                    rw [if_neg (fun z : tkA b n s.1 = 38 ∧ 9999 < nuA b n s.1 => by have z1 := z.1; have z2 := z.2; omega)]; rw [if_neg (fun z : 0 ≤ nmI (tkA b n s.1) ∧ ¬ isOfP (nmI (tkA b n s.1)) so => by have z1 := z.1; have z2 := z.2; unfold isOfP at z2; omega)]; rw [if_pos (show tkA b n s.1 = 38 ∨ 0 ≤ nmI (tkA b n s.1) by omega), show (if tkA b n s.1 = 38 then ((0 : Int), nuA b n s.1) else (1, nmI (tkA b n s.1))) = (0, F 10) by rw [if_pos (by omega)]; rw [show nuA b n s.1 = F 10 by omega]]
                    exact hq)
        · have c_51 := if01_0 c_51
          refine z_iconst dX7_beginOne_37 ?_
          exact s_iretZ dX7_beginOne_38 rfl (show mAns b n tx so σ A F T (bgS (tkA b n) (nuA b n) so s) _ _ by
            unfold bgS
            rw [if_neg (fun z : tkA b n s.1 = 38 ∧ 9999 < nuA b n s.1 => by have z1 := z.1; have z2 := z.2; omega)]; rw [if_pos (show 0 ≤ nmI (tkA b n s.1) ∧ ¬ isOfP (nmI (tkA b n s.1)) so from ⟨by omega, fun z => by unfold isOfP at z; omega⟩)]
            exact ⟨rfl, w0, T, Pf, F, rfl, hR, hw, kpM_rf F, kpX_rf tx T⟩)
    · refine z_iconst dX7_beginOne_18 ?_
      exact s_iretZ dX7_beginOne_19 rfl (show mAns b n tx so σ A F T (bgS (tkA b n) (nuA b n) so s) _ _ by
        unfold bgS
        rw [if_pos (show tkA b n s.1 = 38 ∧ 9999 < nuA b n s.1 from ⟨by omega, by omega⟩)]
        exact ⟨rfl, w0, T, Pf, F, rfl, hR, hw, kpM_rf F, kpX_rf tx T⟩)
