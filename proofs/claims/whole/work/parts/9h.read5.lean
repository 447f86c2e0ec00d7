/-! ===== the model's reader: behindOne, summed ===== -/
theorem cpI_ran (t : Int) : cpI t = -1 ∨ (10 ≤ cpI t ∧ cpI t ≤ 15) := by
  unfold cpI
  repeat' split
  all_goals omega
theorem btI_ran (t : Int) (P : List Int) : btI t P = -1 ∨ (6 ≤ btI t P ∧ btI t P ≤ 22) := by
  have := cpI_ran t
  unfold btI
  repeat' split
  all_goals omega
theorem ptI_ran (t : Int) (P : List Int) (op : Int) : ptI t P op = -1 ∨ ptI t P op = 0 ∨ ptI t P op = 43 ∨ ptI t P op = 44 := by
  unfold ptI
  repeat' split
  all_goals omega
set_option maxHeartbeats 4000000 in
set_option maxRecDepth 100000 in
theorem m_compareOf {d : Nat} (σ : gS) (A F T Pf : Nat → Int) {w0 : Int} {b : Nat → Int} {n k : Nat} (hR : ldR b n F w0 k) : sC mX7_compareOf d [.ref 384] (ms (pt σ T Pf w0) A F) (fun r σ' => r = some (.int (iZ (cpI (tkA b n k)))) ∧ σ' = (ms (pt σ T Pf w0) A F)) := by
  have tr := hR.2.2.2
  have t1 := tr.1
  have q25 := tr.2.2.2.2.2.2.2.2.2.2.2.1
  have q36 := tr.2.2.2.2.2.2.2.2.2.1
  have q26 := tr.2.2.2.2.2.2.2.2.2.2.2.2.1
  have q37 := tr.2.2.2.2.2.2.2.2.2.2.1
  have q27 := tr.2.2.2.2.2.2.2.2.2.2.2.2.2.1
  have q28 := tr.2.2.2.2.2.2.2.2.2.2.2.2.2.2.1
  refine sC_of rfl (Nat.le_of_ble_eq_true rfl) ?_
  show sE g_tt _ _ _ 0 [some (.ref 384)] [] (ms (pt σ T Pf w0) A F)
  refine q_aload_n dX7_compareOf_0 rfl rfl ?_
  refine sg7 (kf := 9) (v := .int (iZ (F 9))) dX7_compareOf_1 flX7_91 (show kd 384 = 7 from rfl) (by decide) rfl ?_
  refine z_bipush dX7_compareOf_4 (by decide +kernel) ?_
  refine z_icmp_ne (tgt := 14) dX7_compareOf_6 (by decide) (by unfold inR; omega) (by unfold inR; omega) (fun c_1 => ?_) (fun c_1 => ?_)
  · refine q_aload_n dX7_compareOf_14 rfl rfl ?_
    refine sg7 (kf := 9) (v := .int (iZ (F 9))) dX7_compareOf_15 flX7_91 (show kd 384 = 7 from rfl) (by decide) rfl ?_
    refine z_iconst dX7_compareOf_18 ?_
    refine z_icmp_ne (tgt := 27) dX7_compareOf_19 (by decide) (by unfold inR; omega) (by unfold inR; omega) (fun c_2 => ?_) (fun c_2 => ?_)
    · refine q_aload_n dX7_compareOf_27 rfl rfl ?_
      refine sg7 (kf := 9) (v := .int (iZ (F 9))) dX7_compareOf_28 flX7_91 (show kd 384 = 7 from rfl) (by decide) rfl ?_
      refine z_bipush dX7_compareOf_31 (by decide +kernel) ?_
      refine z_icmp_ne (tgt := 41) dX7_compareOf_33 (by decide) (by unfold inR; omega) (by unfold inR; omega) (fun c_3 => ?_) (fun c_3 => ?_)
      · refine q_aload_n dX7_compareOf_41 rfl rfl ?_
        refine sg7 (kf := 9) (v := .int (iZ (F 9))) dX7_compareOf_42 flX7_91 (show kd 384 = 7 from rfl) (by decide) rfl ?_
        refine z_iconst dX7_compareOf_45 ?_
        refine z_icmp_ne (tgt := 54) dX7_compareOf_46 (by decide) (by unfold inR; omega) (by unfold inR; omega) (fun c_4 => ?_) (fun c_4 => ?_)
        · refine q_aload_n dX7_compareOf_54 rfl rfl ?_
          refine sg7 (kf := 9) (v := .int (iZ (F 9))) dX7_compareOf_55 flX7_91 (show kd 384 = 7 from rfl) (by decide) rfl ?_
          refine z_bipush dX7_compareOf_58 (by decide +kernel) ?_
          refine z_icmp_ne (tgt := 68) dX7_compareOf_60 (by decide) (by unfold inR; omega) (by unfold inR; omega) (fun c_5 => ?_) (fun c_5 => ?_)
          · refine q_aload_n dX7_compareOf_68 rfl rfl ?_
            refine sg7 (kf := 9) (v := .int (iZ (F 9))) dX7_compareOf_69 flX7_91 (show kd 384 = 7 from rfl) (by decide) rfl ?_
            refine z_bipush dX7_compareOf_72 (by decide +kernel) ?_
            refine z_icmp_ne (tgt := 82) dX7_compareOf_74 (by decide) (by unfold inR; omega) (by unfold inR; omega) (fun c_6 => ?_) (fun c_6 => ?_)
            · refine z_iconst dX7_compareOf_82 ?_
              exact s_iretZ dX7_compareOf_83 rfl ⟨by unfold cpI; (repeat (first | rw [if_pos (by omega)] | rw [if_neg (by omega)])), rfl⟩
            · refine z_bipush dX7_compareOf_77 (by decide +kernel) ?_
              refine q_goto (tgt := 83) dX7_compareOf_79 (by decide) ?_
              exact s_iretZ dX7_compareOf_83 rfl ⟨by unfold cpI; (repeat (first | rw [if_pos (by omega)] | rw [if_neg (by omega)])), rfl⟩
          · refine z_bipush dX7_compareOf_63 (by decide +kernel) ?_
            refine q_goto (tgt := 83) dX7_compareOf_65 (by decide) ?_
            exact s_iretZ dX7_compareOf_83 rfl ⟨by unfold cpI; (repeat (first | rw [if_pos (by omega)] | rw [if_neg (by omega)])), rfl⟩
        · refine z_bipush dX7_compareOf_49 (by decide +kernel) ?_
          refine q_goto (tgt := 83) dX7_compareOf_51 (by decide) ?_
          exact s_iretZ dX7_compareOf_83 rfl ⟨by unfold cpI; (repeat (first | rw [if_pos (by omega)] | rw [if_neg (by omega)])), rfl⟩
      · refine z_bipush dX7_compareOf_36 (by decide +kernel) ?_
        refine q_goto (tgt := 83) dX7_compareOf_38 (by decide) ?_
        exact s_iretZ dX7_compareOf_83 rfl ⟨by unfold cpI; (repeat (first | rw [if_pos (by omega)] | rw [if_neg (by omega)])), rfl⟩
    · refine z_bipush dX7_compareOf_22 (by decide +kernel) ?_
      refine q_goto (tgt := 83) dX7_compareOf_24 (by decide) ?_
      exact s_iretZ dX7_compareOf_83 rfl ⟨by unfold cpI; (repeat (first | rw [if_pos (by omega)] | rw [if_neg (by omega)])), rfl⟩
  · refine z_bipush dX7_compareOf_9 (by decide +kernel) ?_
    refine q_goto (tgt := 83) dX7_compareOf_11 (by decide) ?_
    exact s_iretZ dX7_compareOf_83 rfl ⟨by unfold cpI; (repeat (first | rw [if_pos (by omega)] | rw [if_neg (by omega)])), rfl⟩
set_option maxHeartbeats 4000000 in
set_option maxRecDepth 100000 in
theorem m_betweenOf {d : Nat} (hd : 6 ≤ d) (σ : gS) (A F T Pf : Nat → Int) {w0 : Int} {b : Nat → Int} {n tx : Nat} {so : Int} {s : pS} (hR : psR b n tx so F w0 T Pf s) (hB : s.2.1.length ≤ 155) : sC mX7_betweenOf d [.ref 384] (ms (pt σ T Pf w0) A F) (fun r σ' => r = some (.int (iZ (btI (tkA b n s.1) s.2.1))) ∧ σ' = (ms (pt σ T Pf w0) A F)) := by
  have tr := hR.1.2.2.2
  have t1 := tr.1
  have q29 := tr.2.2.2.2.2.2.2.2.2.2.2.2.2.2.2.1
  have q30 := tr.2.2.2.2.2.2.2.2.2.2.2.2.2.2.2.2.1
  have q31 := tr.2.2.2.2.2.2.2.2.2.2.2.2.2.2.2.2.2.1
  have q32 := tr.2.2.2.2.2.2.2.2.2.2.2.2.2.2.2.2.2.2.1
  have onr := opN_ran s.2.1 hR.2.2.2.2.2.2.2.2
  have c01 := cmP_01 s.2.1
  refine sC_of rfl (Nat.le_of_ble_eq_true rfl) ?_
  show sE g_tt _ _ _ 0 [some (.ref 384)] [] (ms (pt σ T Pf w0) A F)
  refine q_aload_n dX7_betweenOf_0 rfl rfl ?_
  refine sg7 (kf := 9) (v := .int (iZ (F 9))) dX7_betweenOf_1 flX7_91 (show kd 384 = 7 from rfl) (by decide) rfl ?_
  refine z_bipush dX7_betweenOf_4 (by decide +kernel) ?_
  refine z_icmp_ne (tgt := 12) dX7_betweenOf_6 (by decide) (by unfold inR; omega) (by unfold inR; omega) (fun c_1 => ?_) (fun c_1 => ?_)
  · refine q_aload_n dX7_betweenOf_12 rfl rfl ?_
    refine sg7 (kf := 9) (v := .int (iZ (F 9))) dX7_betweenOf_13 flX7_91 (show kd 384 = 7 from rfl) (by decide) rfl ?_
    refine z_bipush dX7_betweenOf_16 (by decide +kernel) ?_
    refine z_icmp_ne (tgt := 24) dX7_betweenOf_18 (by decide) (by unfold inR; omega) (by unfold inR; omega) (fun c_2 => ?_) (fun c_2 => ?_)
    · refine q_aload_n dX7_betweenOf_24 rfl rfl ?_
      refine sg7 (kf := 9) (v := .int (iZ (F 9))) dX7_betweenOf_25 flX7_91 (show kd 384 = 7 from rfl) (by decide) rfl ?_
      refine z_bipush dX7_betweenOf_28 (by decide +kernel) ?_
      refine z_icmp_ne (tgt := 36) dX7_betweenOf_30 (by decide) (by unfold inR; omega) (by unfold inR; omega) (fun c_3 => ?_) (fun c_3 => ?_)
      · refine q_aload_n dX7_betweenOf_36 rfl rfl ?_
        refine sg7 (kf := 9) (v := .int (iZ (F 9))) dX7_betweenOf_37 flX7_91 (show kd 384 = 7 from rfl) (by decide) rfl ?_
        refine z_bipush dX7_betweenOf_40 (by decide +kernel) ?_
        refine z_icmp_ne (tgt := 48) dX7_betweenOf_42 (by decide) (by unfold inR; omega) (by unfold inR; omega) (fun c_4 => ?_) (fun c_4 => ?_)
        · refine q_aload_n dX7_betweenOf_48 rfl rfl ?_
          refine s_callV (ci := 7) (a := 384) (As := []) (S := []) dX7_betweenOf_49 okX7_openNow mlX7_159 rfl (by omega) rfl (Nat.le_of_ble_eq_true rfl) (show kd 384 = 7 from rfl) (by decide) rfl (m_openNow (d := d - 1) (by omega) σ A F T Pf hR hB) (fun v_ σ_ hq => ?_)
          obtain ⟨rfl, e9⟩ := hq
          have e9 := e9.symm
          subst e9
          show sE g_tt _ _ _ 52 [some (.ref 384)] [.int (iZ (opN s.2.1))] (ms (pt σ T Pf w0) A F)
          refine z_bipush dX7_betweenOf_52 (by decide +kernel) ?_
          refine z_icmp_eq (tgt := 59) dX7_betweenOf_54 (by decide) (by unfold inR; omega) (by unfold inR; omega) (fun c_5 => ?_) (fun c_5 => ?_)
          · refine q_aload_n dX7_betweenOf_59 rfl rfl ?_
            refine s_callV (ci := 7) (a := 384) (As := []) (S := []) dX7_betweenOf_60 okX7_isCompared mlX7_191 rfl (by omega) rfl (Nat.le_of_ble_eq_true rfl) (show kd 384 = 7 from rfl) (by decide) rfl (m_isCompared (d := d - 1) (by omega) σ A F T Pf hR hB) (fun v_ σ_ hq => ?_)
            obtain ⟨rfl, e9⟩ := hq
            have e9 := e9.symm
            subst e9
            show sE g_tt _ _ _ 63 [some (.ref 384)] [.int (iZ (cmP s.2.1))] (ms (pt σ T Pf w0) A F)
            refine z_if_ne (tgt := 71) dX7_betweenOf_63 (by decide) (by unfold inR; omega) (fun c_6 => ?_) (fun c_6 => ?_)
            · refine q_aload_n dX7_betweenOf_71 rfl rfl ?_
              refine z_bipush dX7_betweenOf_72 (by decide +kernel) ?_
              refine z_bipush dX7_betweenOf_74 (by decide +kernel) ?_
              refine z_bipush dX7_betweenOf_76 (by decide +kernel) ?_
              refine s_callS (As := [.int (iZ 97), .int (iZ 110), .int (iZ 100)]) (S := [.ref 384]) dX7_betweenOf_78 okX7_w3 mlX7_117 rfl (by omega) rfl (Nat.le_of_ble_eq_true rfl) (m_w3 (d := d - 1) (x := 97) (y := 110) (z := 100) (by omega) (by omega) (by omega) (by omega) (ms (pt σ T Pf w0) A F)) (fun v_ σ_ hq => ?_)
              obtain ⟨rfl, e9⟩ := hq
              have e9 := e9.symm
              subst e9
              show sE g_tt _ _ _ 81 [some (.ref 384)] [.long (lZ ((97 * 256 + 110) * 256 + 100)), .ref 384] (ms (pt σ T Pf w0) A F)
              refine s_callV (ci := 7) (a := 384) (As := [.long (lZ ((97 * 256 + 110) * 256 + 100))]) (S := []) dX7_betweenOf_81 okX7_isWord mlX7_177 rfl (by omega) rfl (Nat.le_of_ble_eq_true rfl) (show kd 384 = 7 from rfl) (by decide) rfl (m_isW (d := d - 1) (x := (97 * 256 + 110) * 256 + 100) σ A F T Pf (b := b) (n := n) (k := s.1) hR.1 (j := 17) (by decide) (by decide +kernel)) (fun v_ σ_ hq => ?_)
              obtain ⟨rfl, e9⟩ := hq
              have e9 := e9.symm
              subst e9
              show sE g_tt _ _ _ 84 [some (.ref 384)] [.int (iZ (if tkA b n s.1 = ((17 : Nat) : Int) then 1 else 0))] (ms (pt σ T Pf w0) A F)
              refine z_if_eq (tgt := 92) dX7_betweenOf_84 (by decide) inR_01 (fun c_7 => ?_) (fun c_7 => ?_)
              · have c_7 := if01_0 c_7
                refine q_aload_n dX7_betweenOf_92 rfl rfl ?_
                refine z_bipush dX7_betweenOf_93 (by decide +kernel) ?_
                refine z_bipush dX7_betweenOf_95 (by decide +kernel) ?_
                refine s_callS (As := [.int (iZ 111), .int (iZ 114)]) (S := [.ref 384]) dX7_betweenOf_97 okX7_w2 mlX7_113 rfl (by omega) rfl (Nat.le_of_ble_eq_true rfl) (m_w2 (d := d - 1) (x := 111) (y := 114) (by omega) (by omega) (by omega) (ms (pt σ T Pf w0) A F)) (fun v_ σ_ hq => ?_)
                obtain ⟨rfl, e9⟩ := hq
                have e9 := e9.symm
                subst e9
                show sE g_tt _ _ _ 100 [some (.ref 384)] [.long (lZ (111 * 256 + 114)), .ref 384] (ms (pt σ T Pf w0) A F)
                refine s_callV (ci := 7) (a := 384) (As := [.long (lZ (111 * 256 + 114))]) (S := []) dX7_betweenOf_100 okX7_isWord mlX7_177 rfl (by omega) rfl (Nat.le_of_ble_eq_true rfl) (show kd 384 = 7 from rfl) (by decide) rfl (m_isW (d := d - 1) (x := 111 * 256 + 114) σ A F T Pf (b := b) (n := n) (k := s.1) hR.1 (j := 16) (by decide) (by decide +kernel)) (fun v_ σ_ hq => ?_)
                obtain ⟨rfl, e9⟩ := hq
                have e9 := e9.symm
                subst e9
                show sE g_tt _ _ _ 103 [some (.ref 384)] [.int (iZ (if tkA b n s.1 = ((16 : Nat) : Int) then 1 else 0))] (ms (pt σ T Pf w0) A F)
                refine z_if_eq (tgt := 111) dX7_betweenOf_103 (by decide) inR_01 (fun c_8 => ?_) (fun c_8 => ?_)
                · have c_8 := if01_0 c_8
                  refine z_iconst dX7_betweenOf_111 ?_
                  exact s_iretZ dX7_betweenOf_112 rfl ⟨by unfold btI; (repeat (first | rw [if_pos (by omega)] | rw [if_neg (by omega)])), rfl⟩
                · have c_8 := if01_1 c_8
                  refine z_bipush dX7_betweenOf_106 (by decide +kernel) ?_
                  refine q_goto (tgt := 112) dX7_betweenOf_108 (by decide) ?_
                  exact s_iretZ dX7_betweenOf_112 rfl ⟨by unfold btI; (repeat (first | rw [if_pos (by omega)] | rw [if_neg (by omega)])), rfl⟩
              · have c_7 := if01_1 c_7
                refine z_bipush dX7_betweenOf_87 (by decide +kernel) ?_
                refine q_goto (tgt := 112) dX7_betweenOf_89 (by decide) ?_
                exact s_iretZ dX7_betweenOf_112 rfl ⟨by unfold btI; (repeat (first | rw [if_pos (by omega)] | rw [if_neg (by omega)])), rfl⟩
            · refine q_aload_n dX7_betweenOf_66 rfl rfl ?_
              refine s_callV (ci := 7) (a := 384) (As := []) (S := []) dX7_betweenOf_67 okX7_compareOf mlX7_194 rfl (by omega) rfl (Nat.le_of_ble_eq_true rfl) (show kd 384 = 7 from rfl) (by decide) rfl (m_compareOf (d := d - 1) σ A F T Pf hR.1) (fun v_ σ_ hq => ?_)
              obtain ⟨rfl, e9⟩ := hq
              have e9 := e9.symm
              subst e9
              show sE g_tt _ _ _ 70 [some (.ref 384)] [.int (iZ (cpI (tkA b n s.1)))] (ms (pt σ T Pf w0) A F)
              exact s_iretZ dX7_betweenOf_70 rfl ⟨by unfold btI; (repeat (first | rw [if_pos (by omega)] | rw [if_neg (by omega)])), rfl⟩
          · refine z_iconst dX7_betweenOf_57 ?_
            exact s_iretZ dX7_betweenOf_58 rfl ⟨by unfold btI; (repeat (first | rw [if_pos (by omega)] | rw [if_neg (by omega)])), rfl⟩
        · refine z_bipush dX7_betweenOf_45 (by decide +kernel) ?_
          exact s_iretZ dX7_betweenOf_47 rfl ⟨by unfold btI; (repeat (first | rw [if_pos (by omega)] | rw [if_neg (by omega)])), rfl⟩
      · refine z_bipush dX7_betweenOf_33 (by decide +kernel) ?_
        exact s_iretZ dX7_betweenOf_35 rfl ⟨by unfold btI; (repeat (first | rw [if_pos (by omega)] | rw [if_neg (by omega)])), rfl⟩
    · refine z_bipush dX7_betweenOf_21 (by decide +kernel) ?_
      exact s_iretZ dX7_betweenOf_23 rfl ⟨by unfold btI; (repeat (first | rw [if_pos (by omega)] | rw [if_neg (by omega)])), rfl⟩
  · refine z_bipush dX7_betweenOf_9 (by decide +kernel) ?_
    exact s_iretZ dX7_betweenOf_11 rfl ⟨by unfold btI; (repeat (first | rw [if_pos (by omega)] | rw [if_neg (by omega)])), rfl⟩
set_option maxHeartbeats 4000000 in
set_option maxRecDepth 100000 in
theorem m_partOf {d : Nat} (hd : 6 ≤ d) {op : Int} (hop : -1 ≤ op ∧ op ≤ 44) (σ : gS) (A F T Pf : Nat → Int) {w0 : Int} {b : Nat → Int} {n tx : Nat} {so : Int} {s : pS} (hR : psR b n tx so F w0 T Pf s) (hB : s.2.1.length ≤ 155) : sC mX7_partOf d [.ref 384, .int (iZ op)] (ms (pt σ T Pf w0) A F) (fun r σ' => r = some (.int (iZ (ptI (tkA b n s.1) s.2.1 op))) ∧ σ' = (ms (pt σ T Pf w0) A F)) := by
  have tr := hR.1.2.2.2
  have t1 := tr.1
  have q34 := tr.2.2.2.2.2.2.2.2.2.2.2.2.2.2.2.2.2.2.2.2.1
  have c01 := cmP_01 s.2.1
  refine sC_of rfl (Nat.le_of_ble_eq_true rfl) ?_
  show sE g_tt _ _ _ 0 [some (.ref 384), some (.int (iZ op))] [] (ms (pt σ T Pf w0) A F)
  refine q_iload_n dX7_partOf_0 rfl rfl ?_
  by_cases s_1 : (op : Int) = 40
  · refine z_top s_1 ?_
    refine q_tableIn (tgt := 36) (off := 35) dX7_partOf_1 (by decide +kernel) (by decide +kernel) (by decide +kernel) (by decide) ?_
    refine q_aload_n dX7_partOf_36 rfl rfl ?_
    refine sg7 (kf := 9) (v := .int (iZ (F 9))) dX7_partOf_37 flX7_91 (show kd 384 = 7 from rfl) (by decide) rfl ?_
    refine z_bipush dX7_partOf_40 (by decide +kernel) ?_
    refine z_icmp_ne (tgt := 49) dX7_partOf_42 (by decide) (by unfold inR; omega) (by unfold inR; omega) (fun c_2 => ?_) (fun c_2 => ?_)
    · refine z_iconst dX7_partOf_49 ?_
      exact s_iretZ dX7_partOf_50 rfl ⟨by unfold ptI; (repeat (first | rw [if_pos (by omega)] | rw [if_neg (by omega)])), rfl⟩
    · refine z_iconst dX7_partOf_45 ?_
      refine q_goto (tgt := 50) dX7_partOf_46 (by decide) ?_
      exact s_iretZ dX7_partOf_50 rfl ⟨by unfold ptI; (repeat (first | rw [if_pos (by omega)] | rw [if_neg (by omega)])), rfl⟩
  by_cases s_3 : (op : Int) = 41
  · refine z_top s_3 ?_
    refine q_tableIn (tgt := 130) (off := 129) dX7_partOf_1 (by decide +kernel) (by decide +kernel) (by decide +kernel) (by decide) ?_
    refine z_iconst dX7_partOf_130 ?_
    exact s_iretZ dX7_partOf_131 rfl ⟨by unfold ptI; (repeat (first | rw [if_pos (by omega)] | rw [if_neg (by omega)])), rfl⟩
  by_cases s_4 : (op : Int) = 42
  · refine z_top s_4 ?_
    refine q_tableIn (tgt := 51) (off := 50) dX7_partOf_1 (by decide +kernel) (by decide +kernel) (by decide +kernel) (by decide) ?_
    refine q_aload_n dX7_partOf_51 rfl rfl ?_
    refine z_bipush dX7_partOf_52 (by decide +kernel) ?_
    refine z_bipush dX7_partOf_54 (by decide +kernel) ?_
    refine z_bipush dX7_partOf_56 (by decide +kernel) ?_
    refine z_bipush dX7_partOf_58 (by decide +kernel) ?_
    refine s_callS (As := [.int (iZ 116), .int (iZ 104), .int (iZ 101), .int (iZ 110)]) (S := [.ref 384]) dX7_partOf_60 okX7_w4 mlX7_121 rfl (by omega) rfl (Nat.le_of_ble_eq_true rfl) (m_w4 (d := d - 1) (x := 116) (y := 104) (z := 101) (u := 110) (by omega) (by omega) (by omega) (by omega) (by omega) (ms (pt σ T Pf w0) A F)) (fun v_ σ_ hq => ?_)
    obtain ⟨rfl, e9⟩ := hq
    have e9 := e9.symm
    subst e9
    show sE g_tt _ _ _ 63 [some (.ref 384), some (.int (iZ op))] [.long (lZ (((116 * 256 + 104) * 256 + 101) * 256 + 110)), .ref 384] (ms (pt σ T Pf w0) A F)
    refine s_callV (ci := 7) (a := 384) (As := [.long (lZ (((116 * 256 + 104) * 256 + 101) * 256 + 110))]) (S := []) dX7_partOf_63 okX7_isWord mlX7_177 rfl (by omega) rfl (Nat.le_of_ble_eq_true rfl) (show kd 384 = 7 from rfl) (by decide) rfl (m_isW (d := d - 1) (x := ((116 * 256 + 104) * 256 + 101) * 256 + 110) σ A F T Pf (b := b) (n := n) (k := s.1) hR.1 (j := 13) (by decide) (by decide +kernel)) (fun v_ σ_ hq => ?_)
    obtain ⟨rfl, e9⟩ := hq
    have e9 := e9.symm
    subst e9
    show sE g_tt _ _ _ 66 [some (.ref 384), some (.int (iZ op))] [.int (iZ (if tkA b n s.1 = ((13 : Nat) : Int) then 1 else 0))] (ms (pt σ T Pf w0) A F)
    refine z_if_eq (tgt := 81) dX7_partOf_66 (by decide) inR_01 (fun c_5 => ?_) (fun c_5 => ?_)
    · have c_5 := if01_0 c_5
      refine z_iconst dX7_partOf_81 ?_
      exact s_iretZ dX7_partOf_82 rfl ⟨by unfold ptI; (repeat (first | rw [if_pos (by omega)] | rw [if_neg (by omega)])), rfl⟩
    · have c_5 := if01_1 c_5
      refine q_aload_n dX7_partOf_69 rfl rfl ?_
      refine s_callV (ci := 7) (a := 384) (As := []) (S := []) dX7_partOf_70 okX7_isCompared mlX7_191 rfl (by omega) rfl (Nat.le_of_ble_eq_true rfl) (show kd 384 = 7 from rfl) (by decide) rfl (m_isCompared (d := d - 1) (by omega) σ A F T Pf hR hB) (fun v_ σ_ hq => ?_)
      obtain ⟨rfl, e9⟩ := hq
      have e9 := e9.symm
      subst e9
      show sE g_tt _ _ _ 73 [some (.ref 384), some (.int (iZ op))] [.int (iZ (cmP s.2.1))] (ms (pt σ T Pf w0) A F)
      refine z_if_eq (tgt := 81) dX7_partOf_73 (by decide) (by unfold inR; omega) (fun c_6 => ?_) (fun c_6 => ?_)
      · refine z_iconst dX7_partOf_81 ?_
        exact s_iretZ dX7_partOf_82 rfl ⟨by unfold ptI; (repeat (first | rw [if_pos (by omega)] | rw [if_neg (by omega)])), rfl⟩
      · refine z_bipush dX7_partOf_76 (by decide +kernel) ?_
        refine q_goto (tgt := 82) dX7_partOf_78 (by decide) ?_
        exact s_iretZ dX7_partOf_82 rfl ⟨by unfold ptI; (repeat (first | rw [if_pos (by omega)] | rw [if_neg (by omega)])), rfl⟩
  by_cases s_7 : (op : Int) = 43
  · refine z_top s_7 ?_
    refine q_tableIn (tgt := 83) (off := 82) dX7_partOf_1 (by decide +kernel) (by decide +kernel) (by decide +kernel) (by decide) ?_
    refine q_aload_n dX7_partOf_83 rfl rfl ?_
    refine z_bipush dX7_partOf_84 (by decide +kernel) ?_
    refine z_bipush dX7_partOf_86 (by decide +kernel) ?_
    refine z_bipush dX7_partOf_88 (by decide +kernel) ?_
    refine z_bipush dX7_partOf_90 (by decide +kernel) ?_
    refine s_callS (As := [.int (iZ 101), .int (iZ 108), .int (iZ 115), .int (iZ 101)]) (S := [.ref 384]) dX7_partOf_92 okX7_w4 mlX7_121 rfl (by omega) rfl (Nat.le_of_ble_eq_true rfl) (m_w4 (d := d - 1) (x := 101) (y := 108) (z := 115) (u := 101) (by omega) (by omega) (by omega) (by omega) (by omega) (ms (pt σ T Pf w0) A F)) (fun v_ σ_ hq => ?_)
    obtain ⟨rfl, e9⟩ := hq
    have e9 := e9.symm
    subst e9
    show sE g_tt _ _ _ 95 [some (.ref 384), some (.int (iZ op))] [.long (lZ (((101 * 256 + 108) * 256 + 115) * 256 + 101)), .ref 384] (ms (pt σ T Pf w0) A F)
    refine s_callV (ci := 7) (a := 384) (As := [.long (lZ (((101 * 256 + 108) * 256 + 115) * 256 + 101))]) (S := []) dX7_partOf_95 okX7_isWord mlX7_177 rfl (by omega) rfl (Nat.le_of_ble_eq_true rfl) (show kd 384 = 7 from rfl) (by decide) rfl (m_isW (d := d - 1) (x := ((101 * 256 + 108) * 256 + 115) * 256 + 101) σ A F T Pf (b := b) (n := n) (k := s.1) hR.1 (j := 14) (by decide) (by decide +kernel)) (fun v_ σ_ hq => ?_)
    obtain ⟨rfl, e9⟩ := hq
    have e9 := e9.symm
    subst e9
    show sE g_tt _ _ _ 98 [some (.ref 384), some (.int (iZ op))] [.int (iZ (if tkA b n s.1 = ((14 : Nat) : Int) then 1 else 0))] (ms (pt σ T Pf w0) A F)
    refine z_if_eq (tgt := 106) dX7_partOf_98 (by decide) inR_01 (fun c_8 => ?_) (fun c_8 => ?_)
    · have c_8 := if01_0 c_8
      refine z_iconst dX7_partOf_106 ?_
      exact s_iretZ dX7_partOf_107 rfl ⟨by unfold ptI; (repeat (first | rw [if_pos (by omega)] | rw [if_neg (by omega)])), rfl⟩
    · have c_8 := if01_1 c_8
      refine z_bipush dX7_partOf_101 (by decide +kernel) ?_
      refine q_goto (tgt := 107) dX7_partOf_103 (by decide) ?_
      exact s_iretZ dX7_partOf_107 rfl ⟨by unfold ptI; (repeat (first | rw [if_pos (by omega)] | rw [if_neg (by omega)])), rfl⟩
  by_cases s_9 : (op : Int) = 44
  · refine z_top s_9 ?_
    refine q_tableIn (tgt := 108) (off := 107) dX7_partOf_1 (by decide +kernel) (by decide +kernel) (by decide +kernel) (by decide) ?_
    refine q_aload_n dX7_partOf_108 rfl rfl ?_
    refine z_bipush dX7_partOf_109 (by decide +kernel) ?_
    refine z_bipush dX7_partOf_111 (by decide +kernel) ?_
    refine z_bipush dX7_partOf_113 (by decide +kernel) ?_
    refine s_callS (As := [.int (iZ 101), .int (iZ 110), .int (iZ 100)]) (S := [.ref 384]) dX7_partOf_115 okX7_w3 mlX7_117 rfl (by omega) rfl (Nat.le_of_ble_eq_true rfl) (m_w3 (d := d - 1) (x := 101) (y := 110) (z := 100) (by omega) (by omega) (by omega) (by omega) (ms (pt σ T Pf w0) A F)) (fun v_ σ_ hq => ?_)
    obtain ⟨rfl, e9⟩ := hq
    have e9 := e9.symm
    subst e9
    show sE g_tt _ _ _ 118 [some (.ref 384), some (.int (iZ op))] [.long (lZ ((101 * 256 + 110) * 256 + 100)), .ref 384] (ms (pt σ T Pf w0) A F)
    refine s_callV (ci := 7) (a := 384) (As := [.long (lZ ((101 * 256 + 110) * 256 + 100))]) (S := []) dX7_partOf_118 okX7_isWord mlX7_177 rfl (by omega) rfl (Nat.le_of_ble_eq_true rfl) (show kd 384 = 7 from rfl) (by decide) rfl (m_isW (d := d - 1) (x := (101 * 256 + 110) * 256 + 100) σ A F T Pf (b := b) (n := n) (k := s.1) hR.1 (j := 15) (by decide) (by decide +kernel)) (fun v_ σ_ hq => ?_)
    obtain ⟨rfl, e9⟩ := hq
    have e9 := e9.symm
    subst e9
    show sE g_tt _ _ _ 121 [some (.ref 384), some (.int (iZ op))] [.int (iZ (if tkA b n s.1 = ((15 : Nat) : Int) then 1 else 0))] (ms (pt σ T Pf w0) A F)
    refine z_if_eq (tgt := 128) dX7_partOf_121 (by decide) inR_01 (fun c_10 => ?_) (fun c_10 => ?_)
    · have c_10 := if01_0 c_10
      refine z_iconst dX7_partOf_128 ?_
      exact s_iretZ dX7_partOf_129 rfl ⟨by unfold ptI; (repeat (first | rw [if_pos (by omega)] | rw [if_neg (by omega)])), rfl⟩
    · have c_10 := if01_1 c_10
      refine z_iconst dX7_partOf_124 ?_
      refine q_goto (tgt := 129) dX7_partOf_125 (by decide) ?_
      exact s_iretZ dX7_partOf_129 rfl ⟨by unfold ptI; (repeat (first | rw [if_pos (by omega)] | rw [if_neg (by omega)])), rfl⟩
  refine q_tableOut (tgt := 130) dX7_partOf_1 (by rw [iZ_toInt (by unfold inR; omega)]; omega) (by decide) ?_
  refine z_iconst dX7_partOf_130 ?_
  exact s_iretZ dX7_partOf_131 rfl ⟨by unfold ptI; (repeat (first | rw [if_pos (by omega)] | rw [if_neg (by omega)])), rfl⟩
