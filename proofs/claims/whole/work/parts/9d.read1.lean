/-! ===== the model's reader: words, emit, settlePile, openNow ===== -/
set_option maxHeartbeats 4000000 in
set_option maxRecDepth 100000 in
theorem m_w2 {d : Nat} {x y : Int} (hd : 2 ≤ d + 2) (hx : 1 ≤ x ∧ x < 256) (hy : 1 ≤ y ∧ y < 256) (σ : gS) : sC mX7_w2 d [.int (iZ x), .int (iZ y)] σ (fun r σ' => r = some (.long (lZ (x * 256 + y))) ∧ σ' = σ) := by
  refine sC_of rfl (Nat.le_of_ble_eq_true rfl) ?_
  show sE g_tt _ _ _ 0 [some (.int (iZ x)), some (.int (iZ y))] [] σ
  refine q_iload_n dX7_w2_0 rfl rfl ?_
  refine z_i2l dX7_w2_1 (by unfold inR at *; omega) ?_
  refine z_bipush dX7_w2_2 (by decide +kernel) ?_
  refine z_lshl8 dX7_w2_4 (by omega) ?_
  refine q_iload_n dX7_w2_5 rfl rfl ?_
  refine z_i2l dX7_w2_6 (by unfold inR at *; omega) ?_
  refine z_lorP (x := x) dX7_w2_7 (by omega) (by omega) ?_
  exact s_lret dX7_w2_8 rfl ⟨rfl, rfl⟩
set_option maxHeartbeats 4000000 in
set_option maxRecDepth 100000 in
theorem m_w3 {d : Nat} {x y z : Int} (hd : 3 ≤ d + 2) (hx : 1 ≤ x ∧ x < 256) (hy : 1 ≤ y ∧ y < 256) (hz : 1 ≤ z ∧ z < 256) (σ : gS) : sC mX7_w3 d [.int (iZ x), .int (iZ y), .int (iZ z)] σ (fun r σ' => r = some (.long (lZ ((x * 256 + y) * 256 + z))) ∧ σ' = σ) := by
  refine sC_of rfl (Nat.le_of_ble_eq_true rfl) ?_
  show sE g_tt _ _ _ 0 [some (.int (iZ x)), some (.int (iZ y)), some (.int (iZ z))] [] σ
  refine q_iload_n dX7_w3_0 rfl rfl ?_
  refine q_iload_n dX7_w3_1 rfl rfl ?_
  refine s_callS (As := [.int (iZ x), .int (iZ y)]) (S := []) dX7_w3_2 okX7_w2 mlX7_113 rfl (by omega) rfl (Nat.le_of_ble_eq_true rfl) (m_w2 (d := d - 1) (x := x) (y := y) (by omega) (by omega) (by omega) σ) (fun v_ σ_ hq => ?_)
  obtain ⟨rfl, e9⟩ := hq
  have e9 := e9.symm
  subst e9
  show sE g_tt _ _ _ 5 [some (.int (iZ x)), some (.int (iZ y)), some (.int (iZ z))] [.long (lZ (x * 256 + y))] σ
  refine z_bipush dX7_w3_5 (by decide +kernel) ?_
  refine z_lshl8 dX7_w3_7 (by omega) ?_
  refine q_iload_n dX7_w3_8 rfl rfl ?_
  refine z_i2l dX7_w3_9 (by unfold inR at *; omega) ?_
  refine z_lorP (x := (x * 256 + y)) dX7_w3_10 (by omega) (by omega) ?_
  exact s_lret dX7_w3_11 rfl ⟨rfl, rfl⟩
set_option maxHeartbeats 4000000 in
set_option maxRecDepth 100000 in
theorem m_w4 {d : Nat} {x y z u : Int} (hd : 4 ≤ d + 2) (hx : 1 ≤ x ∧ x < 256) (hy : 1 ≤ y ∧ y < 256) (hz : 1 ≤ z ∧ z < 256) (hu : 1 ≤ u ∧ u < 256) (σ : gS) : sC mX7_w4 d [.int (iZ x), .int (iZ y), .int (iZ z), .int (iZ u)] σ (fun r σ' => r = some (.long (lZ (((x * 256 + y) * 256 + z) * 256 + u))) ∧ σ' = σ) := by
  refine sC_of rfl (Nat.le_of_ble_eq_true rfl) ?_
  show sE g_tt _ _ _ 0 [some (.int (iZ x)), some (.int (iZ y)), some (.int (iZ z)), some (.int (iZ u))] [] σ
  refine q_iload_n dX7_w4_0 rfl rfl ?_
  refine q_iload_n dX7_w4_1 rfl rfl ?_
  refine q_iload_n dX7_w4_2 rfl rfl ?_
  refine s_callS (As := [.int (iZ x), .int (iZ y), .int (iZ z)]) (S := []) dX7_w4_3 okX7_w3 mlX7_117 rfl (by omega) rfl (Nat.le_of_ble_eq_true rfl) (m_w3 (d := d - 1) (x := x) (y := y) (z := z) (by omega) (by omega) (by omega) (by omega) σ) (fun v_ σ_ hq => ?_)
  obtain ⟨rfl, e9⟩ := hq
  have e9 := e9.symm
  subst e9
  show sE g_tt _ _ _ 6 [some (.int (iZ x)), some (.int (iZ y)), some (.int (iZ z)), some (.int (iZ u))] [.long (lZ ((x * 256 + y) * 256 + z))] σ
  refine z_bipush dX7_w4_6 (by decide +kernel) ?_
  refine z_lshl8 dX7_w4_8 (by omega) ?_
  refine q_iload_n dX7_w4_9 rfl rfl ?_
  refine z_i2l dX7_w4_10 (by unfold inR at *; omega) ?_
  refine z_lorP (x := ((x * 256 + y) * 256 + z)) dX7_w4_11 (by omega) (by omega) ?_
  exact s_lret dX7_w4_12 rfl ⟨rfl, rfl⟩
set_option maxHeartbeats 4000000 in
set_option maxRecDepth 100000 in
theorem m_w5 {d : Nat} {x y z u v : Int} (hd : 5 ≤ d + 2) (hx : 1 ≤ x ∧ x < 256) (hy : 1 ≤ y ∧ y < 256) (hz : 1 ≤ z ∧ z < 256) (hu : 1 ≤ u ∧ u < 256) (hv : 1 ≤ v ∧ v < 256) (σ : gS) : sC mX7_w5 d [.int (iZ x), .int (iZ y), .int (iZ z), .int (iZ u), .int (iZ v)] σ (fun r σ' => r = some (.long (lZ ((((x * 256 + y) * 256 + z) * 256 + u) * 256 + v))) ∧ σ' = σ) := by
  refine sC_of rfl (Nat.le_of_ble_eq_true rfl) ?_
  show sE g_tt _ _ _ 0 [some (.int (iZ x)), some (.int (iZ y)), some (.int (iZ z)), some (.int (iZ u)), some (.int (iZ v))] [] σ
  refine q_iload_n dX7_w5_0 rfl rfl ?_
  refine q_iload_n dX7_w5_1 rfl rfl ?_
  refine q_iload_n dX7_w5_2 rfl rfl ?_
  refine q_iload_n dX7_w5_3 rfl rfl ?_
  refine s_callS (As := [.int (iZ x), .int (iZ y), .int (iZ z), .int (iZ u)]) (S := []) dX7_w5_4 okX7_w4 mlX7_121 rfl (by omega) rfl (Nat.le_of_ble_eq_true rfl) (m_w4 (d := d - 1) (x := x) (y := y) (z := z) (u := u) (by omega) (by omega) (by omega) (by omega) (by omega) σ) (fun v_ σ_ hq => ?_)
  obtain ⟨rfl, e9⟩ := hq
  have e9 := e9.symm
  subst e9
  show sE g_tt _ _ _ 7 [some (.int (iZ x)), some (.int (iZ y)), some (.int (iZ z)), some (.int (iZ u)), some (.int (iZ v))] [.long (lZ (((x * 256 + y) * 256 + z) * 256 + u))] σ
  refine z_bipush dX7_w5_7 (by decide +kernel) ?_
  refine z_lshl8 dX7_w5_9 (by omega) ?_
  refine q_iload dX7_w5_10 rfl ?_
  refine z_i2l dX7_w5_12 (by unfold inR at *; omega) ?_
  refine z_lorP (x := (((x * 256 + y) * 256 + z) * 256 + u)) dX7_w5_13 (by omega) (by omega) ?_
  exact s_lret dX7_w5_14 rfl ⟨rfl, rfl⟩
set_option maxHeartbeats 4000000 in
set_option maxRecDepth 100000 in
theorem m_w6 {d : Nat} {x y z u v t : Int} (hd : 6 ≤ d + 2) (hx : 1 ≤ x ∧ x < 256) (hy : 1 ≤ y ∧ y < 256) (hz : 1 ≤ z ∧ z < 256) (hu : 1 ≤ u ∧ u < 256) (hv : 1 ≤ v ∧ v < 256) (ht : 1 ≤ t ∧ t < 256) (σ : gS) : sC mX7_w6 d [.int (iZ x), .int (iZ y), .int (iZ z), .int (iZ u), .int (iZ v), .int (iZ t)] σ (fun r σ' => r = some (.long (lZ (((((x * 256 + y) * 256 + z) * 256 + u) * 256 + v) * 256 + t))) ∧ σ' = σ) := by
  refine sC_of rfl (Nat.le_of_ble_eq_true rfl) ?_
  show sE g_tt _ _ _ 0 [some (.int (iZ x)), some (.int (iZ y)), some (.int (iZ z)), some (.int (iZ u)), some (.int (iZ v)), some (.int (iZ t))] [] σ
  refine q_iload_n dX7_w6_0 rfl rfl ?_
  refine q_iload_n dX7_w6_1 rfl rfl ?_
  refine q_iload_n dX7_w6_2 rfl rfl ?_
  refine q_iload_n dX7_w6_3 rfl rfl ?_
  refine q_iload dX7_w6_4 rfl ?_
  refine s_callS (As := [.int (iZ x), .int (iZ y), .int (iZ z), .int (iZ u), .int (iZ v)]) (S := []) dX7_w6_6 okX7_w5 mlX7_125 rfl (by omega) rfl (Nat.le_of_ble_eq_true rfl) (m_w5 (d := d - 1) (x := x) (y := y) (z := z) (u := u) (v := v) (by omega) (by omega) (by omega) (by omega) (by omega) (by omega) σ) (fun v_ σ_ hq => ?_)
  obtain ⟨rfl, e9⟩ := hq
  have e9 := e9.symm
  subst e9
  show sE g_tt _ _ _ 9 [some (.int (iZ x)), some (.int (iZ y)), some (.int (iZ z)), some (.int (iZ u)), some (.int (iZ v)), some (.int (iZ t))] [.long (lZ ((((x * 256 + y) * 256 + z) * 256 + u) * 256 + v))] σ
  refine z_bipush dX7_w6_9 (by decide +kernel) ?_
  refine z_lshl8 dX7_w6_11 (by omega) ?_
  refine q_iload dX7_w6_12 rfl ?_
  refine z_i2l dX7_w6_14 (by unfold inR at *; omega) ?_
  refine z_lorP (x := ((((x * 256 + y) * 256 + z) * 256 + u) * 256 + v)) dX7_w6_15 (by omega) (by omega) ?_
  exact s_lret dX7_w6_16 rfl ⟨rfl, rfl⟩
theorem tok_w {f9 f10 wd t v : Int} (h : tokR f9 f10 wd t v) {j : Nat} (hj : j < 25) : (f9 = 2 ∧ wd = pkW j) ↔ t = (j : Int) := by
  obtain ⟨a1, a2, a3, a4, a5, a6, a7, a8, a9, a10⟩ := h
  constructor
  · exact fun z => (a9 z.1 j hj).1 z.2
  · intro z
    have q : f9 = 2 := a8.2 (Or.inl (by omega))
    exact ⟨q, (a9 q j hj).2 z⟩
theorem m_isW {d : Nat} {x : Int} (σ : gS) (A F T Pf : Nat → Int) {w0 : Int} {b : Nat → Int} {n k : Nat} (hR : ldR b n F w0 k) {j : Nat} (hj : j < 25) (hx : x = pkW j) : sC mX7_isWord d [.ref 384, .long (lZ x)] (ms (pt σ T Pf w0) A F) (fun r σ' => r = some (.int (iZ (if tkA b n k = (j : Int) then 1 else 0))) ∧ σ' = ms (pt σ T Pf w0) A F) := by
  have tr := hR.2.2.2
  have px := (pkW_ok j hj).2.1
  have p0 : 0 ≤ pkW j := by
    have q : ∀ j, j < 25 → 0 ≤ pkW j := by decide +kernel
    exact q j hj
  have q := m_isWord (d := d) (x := x) (by unfold inL; omega) (pt σ T Pf w0) A F (by have := tr.2.2.1; show inL w0; unfold inL; omega) (by have := tr.1; unfold inR; omega)
  refine sC_imp ?_ q
  rintro v σ' ⟨e1, e2⟩
  refine ⟨?_, e2⟩
  rw [e1, hx]
  have w := tok_w tr hj
  by_cases z : tkA b n k = (j : Int)
  · rw [if_pos z, if_pos (show F 9 = 2 ∧ (pt σ T Pf w0).2.2.2.1 = pkW j from w.2 z)]
  · rw [if_neg z, if_neg (show ¬ (F 9 = 2 ∧ (pt σ T Pf w0).2.2.2.1 = pkW j) from fun y => z (w.1 y))]
theorem m_nxt {d : Nat} (hd : 1 ≤ d) (σ : gS) (A F T Pf : Nat → Int) {w0 : Int} {b : Nat → Int} {n k : Nat} (hn3 : n ≤ 300) (hb : σ.2.1 388 = b) (hb8 : ∀ i, i < n → 0 ≤ b i ∧ b i < 256) (hR : ldR b n F w0 k) : sC mX7_nextToken d [.ref 384] (ms (pt σ T Pf w0) A F) (fun r σ' => r = none ∧ ∃ w1 F1, σ' = ms (pt σ T Pf w1) A F1 ∧ ldR b n F1 w1 (k + 1) ∧ kpT F F1) := by
  have tr := hR.2.2.2
  have q := m_nextToken (d := d) (p := tkP b n (k + 1)) hd (sRw (sRw σ 387 T) 389 Pf) A F hR.1 hn3 hb hb8 (tkP_ran b n _) hR.2.1 tr.2.1 tr.2.2.1
  refine sC_imp ?_ q
  rintro v σ' ⟨e1, w1, F1, e2, e3, e4, e5, e6⟩
  exact ⟨e1, w1, F1, e2, ⟨(e6 4 (by decide) (by decide) (by decide) (by decide)).trans hR.1, e3, e4, e5⟩, e6⟩
theorem pk7 : pkW 7 = 474214787188 := by decide +kernel
theorem pk19 : pkW 19 = 1936617335 := by decide +kernel
theorem pk20 : pkW 20 = 1751478885 := by decide +kernel
theorem pk3 : pkW 3 = 1802071652 := by decide +kernel
theorem pk21 : pkW 21 = 123580963646565 := by decide +kernel
theorem pk22 : pkW 22 = 1818584692 := by decide +kernel
theorem pk23 : pkW 23 = 491394656372 := by decide +kernel
theorem pk24 : pkW 24 = 1818325876 := by decide +kernel
set_option maxHeartbeats 4000000 in
set_option maxRecDepth 100000 in
theorem m_nameOf {d : Nat} (hd : 5 ≤ d) (σ : gS) (A F T Pf : Nat → Int) {w0 : Int} {b : Nat → Int} {n k : Nat} (hR : ldR b n F w0 k) : sC mX7_nameOf d [.ref 384] (ms (pt σ T Pf w0) A F) (fun r σ' => r = some (.int (iZ (nmI (tkA b n k)))) ∧ σ' = (ms (pt σ T Pf w0) A F)) := by
  have tr := hR.2.2.2
  have t1 := tr.1
  have t3 := tr.2.2.1
  refine sC_of rfl (Nat.le_of_ble_eq_true rfl) ?_
  show sE g_tt _ _ _ 0 [some (.ref 384)] [] (ms (pt σ T Pf w0) A F)
  refine q_aload_n dX7_nameOf_0 rfl rfl ?_
  refine sg7 (kf := 9) (v := .int (iZ (F 9))) dX7_nameOf_1 flX7_91 (show kd 384 = 7 from rfl) (by decide) rfl ?_
  refine z_iconst dX7_nameOf_4 ?_
  refine z_icmp_eq (tgt := 10) dX7_nameOf_5 (by decide) (by unfold inR; omega) (by unfold inR; omega) (fun c_1 => ?_) (fun c_1 => ?_)
  · refine q_aload_n dX7_nameOf_10 rfl rfl ?_
    refine sg7 (kf := 11) (v := .long (lZ w0)) dX7_nameOf_11 flX7_104 (show kd 384 = 7 from rfl) (by decide) rfl ?_
    refine z_bipush dX7_nameOf_14 (by decide +kernel) ?_
    refine z_bipush dX7_nameOf_16 (by decide +kernel) ?_
    refine z_bipush dX7_nameOf_18 (by decide +kernel) ?_
    refine z_bipush dX7_nameOf_20 (by decide +kernel) ?_
    refine z_bipush dX7_nameOf_22 (by decide +kernel) ?_
    refine s_callS (As := [.int (iZ 110), .int (iZ 105), .int (iZ 103), .int (iZ 104), .int (iZ 116)]) (S := [.long (lZ w0)]) dX7_nameOf_24 okX7_w5 mlX7_125 rfl (by omega) rfl (Nat.le_of_ble_eq_true rfl) (m_w5 (d := d - 1) (x := 110) (y := 105) (z := 103) (u := 104) (v := 116) (by omega) (by omega) (by omega) (by omega) (by omega) (by omega) (ms (pt σ T Pf w0) A F)) (fun v_ σ_ hq => ?_)
    obtain ⟨rfl, e9⟩ := hq
    have e9 := e9.symm
    subst e9
    show sE g_tt _ _ _ 27 [some (.ref 384)] [.long (lZ ((((110 * 256 + 105) * 256 + 103) * 256 + 104) * 256 + 116)), .long (lZ w0)] (ms (pt σ T Pf w0) A F)
    refine z_lif_ne (tgt := 33) dX7_nameOf_27 dX7_nameOf_28 (by decide) (by unfold inL; omega) (by unfold inL; omega) (fun c_2 => ?_) (fun c_2 => ?_)
    · refine q_aload_n dX7_nameOf_33 rfl rfl ?_
      refine sg7 (kf := 11) (v := .long (lZ w0)) dX7_nameOf_34 flX7_104 (show kd 384 = 7 from rfl) (by decide) rfl ?_
      refine z_bipush dX7_nameOf_37 (by decide +kernel) ?_
      refine z_bipush dX7_nameOf_39 (by decide +kernel) ?_
      refine z_bipush dX7_nameOf_41 (by decide +kernel) ?_
      refine z_bipush dX7_nameOf_43 (by decide +kernel) ?_
      refine s_callS (As := [.int (iZ 115), .int (iZ 110), .int (iZ 111), .int (iZ 119)]) (S := [.long (lZ w0)]) dX7_nameOf_45 okX7_w4 mlX7_121 rfl (by omega) rfl (Nat.le_of_ble_eq_true rfl) (m_w4 (d := d - 1) (x := 115) (y := 110) (z := 111) (u := 119) (by omega) (by omega) (by omega) (by omega) (by omega) (ms (pt σ T Pf w0) A F)) (fun v_ σ_ hq => ?_)
      obtain ⟨rfl, e9⟩ := hq
      have e9 := e9.symm
      subst e9
      show sE g_tt _ _ _ 48 [some (.ref 384)] [.long (lZ (((115 * 256 + 110) * 256 + 111) * 256 + 119)), .long (lZ w0)] (ms (pt σ T Pf w0) A F)
      refine z_lif_ne (tgt := 54) dX7_nameOf_48 dX7_nameOf_49 (by decide) (by unfold inL; omega) (by unfold inL; omega) (fun c_3 => ?_) (fun c_3 => ?_)
      · refine q_aload_n dX7_nameOf_54 rfl rfl ?_
        refine sg7 (kf := 11) (v := .long (lZ w0)) dX7_nameOf_55 flX7_104 (show kd 384 = 7 from rfl) (by decide) rfl ?_
        refine z_bipush dX7_nameOf_58 (by decide +kernel) ?_
        refine z_bipush dX7_nameOf_60 (by decide +kernel) ?_
        refine z_bipush dX7_nameOf_62 (by decide +kernel) ?_
        refine z_bipush dX7_nameOf_64 (by decide +kernel) ?_
        refine s_callS (As := [.int (iZ 104), .int (iZ 101), .int (iZ 114), .int (iZ 101)]) (S := [.long (lZ w0)]) dX7_nameOf_66 okX7_w4 mlX7_121 rfl (by omega) rfl (Nat.le_of_ble_eq_true rfl) (m_w4 (d := d - 1) (x := 104) (y := 101) (z := 114) (u := 101) (by omega) (by omega) (by omega) (by omega) (by omega) (ms (pt σ T Pf w0) A F)) (fun v_ σ_ hq => ?_)
        obtain ⟨rfl, e9⟩ := hq
        have e9 := e9.symm
        subst e9
        show sE g_tt _ _ _ 69 [some (.ref 384)] [.long (lZ (((104 * 256 + 101) * 256 + 114) * 256 + 101)), .long (lZ w0)] (ms (pt σ T Pf w0) A F)
        refine z_lif_ne (tgt := 75) dX7_nameOf_69 dX7_nameOf_70 (by decide) (by unfold inL; omega) (by unfold inL; omega) (fun c_4 => ?_) (fun c_4 => ?_)
        · refine q_aload_n dX7_nameOf_75 rfl rfl ?_
          refine sg7 (kf := 11) (v := .long (lZ w0)) dX7_nameOf_76 flX7_104 (show kd 384 = 7 from rfl) (by decide) rfl ?_
          refine z_bipush dX7_nameOf_79 (by decide +kernel) ?_
          refine z_bipush dX7_nameOf_81 (by decide +kernel) ?_
          refine z_bipush dX7_nameOf_83 (by decide +kernel) ?_
          refine z_bipush dX7_nameOf_85 (by decide +kernel) ?_
          refine s_callS (As := [.int (iZ 107), .int (iZ 105), .int (iZ 110), .int (iZ 100)]) (S := [.long (lZ w0)]) dX7_nameOf_87 okX7_w4 mlX7_121 rfl (by omega) rfl (Nat.le_of_ble_eq_true rfl) (m_w4 (d := d - 1) (x := 107) (y := 105) (z := 110) (u := 100) (by omega) (by omega) (by omega) (by omega) (by omega) (ms (pt σ T Pf w0) A F)) (fun v_ σ_ hq => ?_)
          obtain ⟨rfl, e9⟩ := hq
          have e9 := e9.symm
          subst e9
          show sE g_tt _ _ _ 90 [some (.ref 384)] [.long (lZ (((107 * 256 + 105) * 256 + 110) * 256 + 100)), .long (lZ w0)] (ms (pt σ T Pf w0) A F)
          refine z_lif_ne (tgt := 96) dX7_nameOf_90 dX7_nameOf_91 (by decide) (by unfold inL; omega) (by unfold inL; omega) (fun c_5 => ?_) (fun c_5 => ?_)
          · refine q_aload_n dX7_nameOf_96 rfl rfl ?_
            refine sg7 (kf := 11) (v := .long (lZ w0)) dX7_nameOf_97 flX7_104 (show kd 384 = 7 from rfl) (by decide) rfl ?_
            refine z_bipush dX7_nameOf_100 (by decide +kernel) ?_
            refine z_bipush dX7_nameOf_102 (by decide +kernel) ?_
            refine z_bipush dX7_nameOf_104 (by decide +kernel) ?_
            refine z_bipush dX7_nameOf_106 (by decide +kernel) ?_
            refine z_bipush dX7_nameOf_108 (by decide +kernel) ?_
            refine z_bipush dX7_nameOf_110 (by decide +kernel) ?_
            refine s_callS (As := [.int (iZ 112), .int (iZ 101), .int (iZ 111), .int (iZ 112), .int (iZ 108), .int (iZ 101)]) (S := [.long (lZ w0)]) dX7_nameOf_112 okX7_w6 mlX7_135 rfl (by omega) rfl (Nat.le_of_ble_eq_true rfl) (m_w6 (d := d - 1) (x := 112) (y := 101) (z := 111) (u := 112) (v := 108) (t := 101) (by omega) (by omega) (by omega) (by omega) (by omega) (by omega) (by omega) (ms (pt σ T Pf w0) A F)) (fun v_ σ_ hq => ?_)
            obtain ⟨rfl, e9⟩ := hq
            have e9 := e9.symm
            subst e9
            show sE g_tt _ _ _ 115 [some (.ref 384)] [.long (lZ (((((112 * 256 + 101) * 256 + 111) * 256 + 112) * 256 + 108) * 256 + 101)), .long (lZ w0)] (ms (pt σ T Pf w0) A F)
            refine z_lif_ne (tgt := 121) dX7_nameOf_115 dX7_nameOf_116 (by decide) (by unfold inL; omega) (by unfold inL; omega) (fun c_6 => ?_) (fun c_6 => ?_)
            · refine q_aload_n dX7_nameOf_121 rfl rfl ?_
              refine sg7 (kf := 11) (v := .long (lZ w0)) dX7_nameOf_122 flX7_104 (show kd 384 = 7 from rfl) (by decide) rfl ?_
              refine z_bipush dX7_nameOf_125 (by decide +kernel) ?_
              refine z_bipush dX7_nameOf_127 (by decide +kernel) ?_
              refine z_bipush dX7_nameOf_129 (by decide +kernel) ?_
              refine z_bipush dX7_nameOf_131 (by decide +kernel) ?_
              refine s_callS (As := [.int (iZ 108), .int (iZ 101), .int (iZ 102), .int (iZ 116)]) (S := [.long (lZ w0)]) dX7_nameOf_133 okX7_w4 mlX7_121 rfl (by omega) rfl (Nat.le_of_ble_eq_true rfl) (m_w4 (d := d - 1) (x := 108) (y := 101) (z := 102) (u := 116) (by omega) (by omega) (by omega) (by omega) (by omega) (ms (pt σ T Pf w0) A F)) (fun v_ σ_ hq => ?_)
              obtain ⟨rfl, e9⟩ := hq
              have e9 := e9.symm
              subst e9
              show sE g_tt _ _ _ 136 [some (.ref 384)] [.long (lZ (((108 * 256 + 101) * 256 + 102) * 256 + 116)), .long (lZ w0)] (ms (pt σ T Pf w0) A F)
              refine z_lif_ne (tgt := 142) dX7_nameOf_136 dX7_nameOf_137 (by decide) (by unfold inL; omega) (by unfold inL; omega) (fun c_7 => ?_) (fun c_7 => ?_)
              · refine q_aload_n dX7_nameOf_142 rfl rfl ?_
                refine sg7 (kf := 11) (v := .long (lZ w0)) dX7_nameOf_143 flX7_104 (show kd 384 = 7 from rfl) (by decide) rfl ?_
                refine z_bipush dX7_nameOf_146 (by decide +kernel) ?_
                refine z_bipush dX7_nameOf_148 (by decide +kernel) ?_
                refine z_bipush dX7_nameOf_150 (by decide +kernel) ?_
                refine z_bipush dX7_nameOf_152 (by decide +kernel) ?_
                refine z_bipush dX7_nameOf_154 (by decide +kernel) ?_
                refine s_callS (As := [.int (iZ 114), .int (iZ 105), .int (iZ 103), .int (iZ 104), .int (iZ 116)]) (S := [.long (lZ w0)]) dX7_nameOf_156 okX7_w5 mlX7_125 rfl (by omega) rfl (Nat.le_of_ble_eq_true rfl) (m_w5 (d := d - 1) (x := 114) (y := 105) (z := 103) (u := 104) (v := 116) (by omega) (by omega) (by omega) (by omega) (by omega) (by omega) (ms (pt σ T Pf w0) A F)) (fun v_ σ_ hq => ?_)
                obtain ⟨rfl, e9⟩ := hq
                have e9 := e9.symm
                subst e9
                show sE g_tt _ _ _ 159 [some (.ref 384)] [.long (lZ ((((114 * 256 + 105) * 256 + 103) * 256 + 104) * 256 + 116)), .long (lZ w0)] (ms (pt σ T Pf w0) A F)
                refine z_lif_ne (tgt := 168) dX7_nameOf_159 dX7_nameOf_160 (by decide) (by unfold inL; omega) (by unfold inL; omega) (fun c_8 => ?_) (fun c_8 => ?_)
                · refine q_aload_n dX7_nameOf_168 rfl rfl ?_
                  refine sg7 (kf := 11) (v := .long (lZ w0)) dX7_nameOf_169 flX7_104 (show kd 384 = 7 from rfl) (by decide) rfl ?_
                  refine z_bipush dX7_nameOf_172 (by decide +kernel) ?_
                  refine z_bipush dX7_nameOf_174 (by decide +kernel) ?_
                  refine z_bipush dX7_nameOf_176 (by decide +kernel) ?_
                  refine z_bipush dX7_nameOf_178 (by decide +kernel) ?_
                  refine s_callS (As := [.int (iZ 108), .int (iZ 97), .int (iZ 115), .int (iZ 116)]) (S := [.long (lZ w0)]) dX7_nameOf_180 okX7_w4 mlX7_121 rfl (by omega) rfl (Nat.le_of_ble_eq_true rfl) (m_w4 (d := d - 1) (x := 108) (y := 97) (z := 115) (u := 116) (by omega) (by omega) (by omega) (by omega) (by omega) (ms (pt σ T Pf w0) A F)) (fun v_ σ_ hq => ?_)
                  obtain ⟨rfl, e9⟩ := hq
                  have e9 := e9.symm
                  subst e9
                  show sE g_tt _ _ _ 183 [some (.ref 384)] [.long (lZ (((108 * 256 + 97) * 256 + 115) * 256 + 116)), .long (lZ w0)] (ms (pt σ T Pf w0) A F)
                  refine z_lif_ne (tgt := 192) dX7_nameOf_183 dX7_nameOf_184 (by decide) (by unfold inL; omega) (by unfold inL; omega) (fun c_9 => ?_) (fun c_9 => ?_)
                  · refine z_iconst dX7_nameOf_192 ?_
                    exact s_iretZ dX7_nameOf_193 rfl ⟨by
                      have q7 := tok_w tr (j := 7) (by decide)
                      have q19 := tok_w tr (j := 19) (by decide)
                      have q20 := tok_w tr (j := 20) (by decide)
                      have q3 := tok_w tr (j := 3) (by decide)
                      have q21 := tok_w tr (j := 21) (by decide)
                      have q22 := tok_w tr (j := 22) (by decide)
                      have q23 := tok_w tr (j := 23) (by decide)
                      have q24 := tok_w tr (j := 24) (by decide)
                      rw [pk7] at q7; rw [pk19] at q19; rw [pk20] at q20; rw [pk3] at q3; rw [pk21] at q21; rw [pk22] at q22; rw [pk23] at q23; rw [pk24] at q24
                      unfold nmI
                      (repeat (first | rw [if_pos (by omega)] | rw [if_neg (by omega)])), rfl⟩
                  · refine z_bipush dX7_nameOf_187 (by decide +kernel) ?_
                    refine q_goto (tgt := 193) dX7_nameOf_189 (by decide) ?_
                    exact s_iretZ dX7_nameOf_193 rfl ⟨by
                      have q7 := tok_w tr (j := 7) (by decide)
                      have q19 := tok_w tr (j := 19) (by decide)
                      have q20 := tok_w tr (j := 20) (by decide)
                      have q3 := tok_w tr (j := 3) (by decide)
                      have q21 := tok_w tr (j := 21) (by decide)
                      have q22 := tok_w tr (j := 22) (by decide)
                      have q23 := tok_w tr (j := 23) (by decide)
                      have q24 := tok_w tr (j := 24) (by decide)
                      rw [pk7] at q7; rw [pk19] at q19; rw [pk20] at q20; rw [pk3] at q3; rw [pk21] at q21; rw [pk22] at q22; rw [pk23] at q23; rw [pk24] at q24
                      unfold nmI
                      (repeat (first | rw [if_pos (by omega)] | rw [if_neg (by omega)])), rfl⟩
                · refine z_bipush dX7_nameOf_163 (by decide +kernel) ?_
                  refine q_goto (tgt := 193) dX7_nameOf_165 (by decide) ?_
                  exact s_iretZ dX7_nameOf_193 rfl ⟨by
                    have q7 := tok_w tr (j := 7) (by decide)
                    have q19 := tok_w tr (j := 19) (by decide)
                    have q20 := tok_w tr (j := 20) (by decide)
                    have q3 := tok_w tr (j := 3) (by decide)
                    have q21 := tok_w tr (j := 21) (by decide)
                    have q22 := tok_w tr (j := 22) (by decide)
                    have q23 := tok_w tr (j := 23) (by decide)
                    have q24 := tok_w tr (j := 24) (by decide)
                    rw [pk7] at q7; rw [pk19] at q19; rw [pk20] at q20; rw [pk3] at q3; rw [pk21] at q21; rw [pk22] at q22; rw [pk23] at q23; rw [pk24] at q24
                    unfold nmI
                    (repeat (first | rw [if_pos (by omega)] | rw [if_neg (by omega)])), rfl⟩
              · refine z_iconst dX7_nameOf_140 ?_
                exact s_iretZ dX7_nameOf_141 rfl ⟨by
                  have q7 := tok_w tr (j := 7) (by decide)
                  have q19 := tok_w tr (j := 19) (by decide)
                  have q20 := tok_w tr (j := 20) (by decide)
                  have q3 := tok_w tr (j := 3) (by decide)
                  have q21 := tok_w tr (j := 21) (by decide)
                  have q22 := tok_w tr (j := 22) (by decide)
                  have q23 := tok_w tr (j := 23) (by decide)
                  have q24 := tok_w tr (j := 24) (by decide)
                  rw [pk7] at q7; rw [pk19] at q19; rw [pk20] at q20; rw [pk3] at q3; rw [pk21] at q21; rw [pk22] at q22; rw [pk23] at q23; rw [pk24] at q24
                  unfold nmI
                  (repeat (first | rw [if_pos (by omega)] | rw [if_neg (by omega)])), rfl⟩
            · refine z_iconst dX7_nameOf_119 ?_
              exact s_iretZ dX7_nameOf_120 rfl ⟨by
                have q7 := tok_w tr (j := 7) (by decide)
                have q19 := tok_w tr (j := 19) (by decide)
                have q20 := tok_w tr (j := 20) (by decide)
                have q3 := tok_w tr (j := 3) (by decide)
                have q21 := tok_w tr (j := 21) (by decide)
                have q22 := tok_w tr (j := 22) (by decide)
                have q23 := tok_w tr (j := 23) (by decide)
                have q24 := tok_w tr (j := 24) (by decide)
                rw [pk7] at q7; rw [pk19] at q19; rw [pk20] at q20; rw [pk3] at q3; rw [pk21] at q21; rw [pk22] at q22; rw [pk23] at q23; rw [pk24] at q24
                unfold nmI
                (repeat (first | rw [if_pos (by omega)] | rw [if_neg (by omega)])), rfl⟩
          · refine z_iconst dX7_nameOf_94 ?_
            exact s_iretZ dX7_nameOf_95 rfl ⟨by
              have q7 := tok_w tr (j := 7) (by decide)
              have q19 := tok_w tr (j := 19) (by decide)
              have q20 := tok_w tr (j := 20) (by decide)
              have q3 := tok_w tr (j := 3) (by decide)
              have q21 := tok_w tr (j := 21) (by decide)
              have q22 := tok_w tr (j := 22) (by decide)
              have q23 := tok_w tr (j := 23) (by decide)
              have q24 := tok_w tr (j := 24) (by decide)
              rw [pk7] at q7; rw [pk19] at q19; rw [pk20] at q20; rw [pk3] at q3; rw [pk21] at q21; rw [pk22] at q22; rw [pk23] at q23; rw [pk24] at q24
              unfold nmI
              (repeat (first | rw [if_pos (by omega)] | rw [if_neg (by omega)])), rfl⟩
        · refine z_iconst dX7_nameOf_73 ?_
          exact s_iretZ dX7_nameOf_74 rfl ⟨by
            have q7 := tok_w tr (j := 7) (by decide)
            have q19 := tok_w tr (j := 19) (by decide)
            have q20 := tok_w tr (j := 20) (by decide)
            have q3 := tok_w tr (j := 3) (by decide)
            have q21 := tok_w tr (j := 21) (by decide)
            have q22 := tok_w tr (j := 22) (by decide)
            have q23 := tok_w tr (j := 23) (by decide)
            have q24 := tok_w tr (j := 24) (by decide)
            rw [pk7] at q7; rw [pk19] at q19; rw [pk20] at q20; rw [pk3] at q3; rw [pk21] at q21; rw [pk22] at q22; rw [pk23] at q23; rw [pk24] at q24
            unfold nmI
            (repeat (first | rw [if_pos (by omega)] | rw [if_neg (by omega)])), rfl⟩
      · refine z_iconst dX7_nameOf_52 ?_
        exact s_iretZ dX7_nameOf_53 rfl ⟨by
          have q7 := tok_w tr (j := 7) (by decide)
          have q19 := tok_w tr (j := 19) (by decide)
          have q20 := tok_w tr (j := 20) (by decide)
          have q3 := tok_w tr (j := 3) (by decide)
          have q21 := tok_w tr (j := 21) (by decide)
          have q22 := tok_w tr (j := 22) (by decide)
          have q23 := tok_w tr (j := 23) (by decide)
          have q24 := tok_w tr (j := 24) (by decide)
          rw [pk7] at q7; rw [pk19] at q19; rw [pk20] at q20; rw [pk3] at q3; rw [pk21] at q21; rw [pk22] at q22; rw [pk23] at q23; rw [pk24] at q24
          unfold nmI
          (repeat (first | rw [if_pos (by omega)] | rw [if_neg (by omega)])), rfl⟩
    · refine z_iconst dX7_nameOf_31 ?_
      exact s_iretZ dX7_nameOf_32 rfl ⟨by
        have q7 := tok_w tr (j := 7) (by decide)
        have q19 := tok_w tr (j := 19) (by decide)
        have q20 := tok_w tr (j := 20) (by decide)
        have q3 := tok_w tr (j := 3) (by decide)
        have q21 := tok_w tr (j := 21) (by decide)
        have q22 := tok_w tr (j := 22) (by decide)
        have q23 := tok_w tr (j := 23) (by decide)
        have q24 := tok_w tr (j := 24) (by decide)
        rw [pk7] at q7; rw [pk19] at q19; rw [pk20] at q20; rw [pk3] at q3; rw [pk21] at q21; rw [pk22] at q22; rw [pk23] at q23; rw [pk24] at q24
        unfold nmI
        (repeat (first | rw [if_pos (by omega)] | rw [if_neg (by omega)])), rfl⟩
  · refine z_iconst dX7_nameOf_8 ?_
    exact s_iretZ dX7_nameOf_9 rfl ⟨by
      have q7 := tok_w tr (j := 7) (by decide)
      have q19 := tok_w tr (j := 19) (by decide)
      have q20 := tok_w tr (j := 20) (by decide)
      have q3 := tok_w tr (j := 3) (by decide)
      have q21 := tok_w tr (j := 21) (by decide)
      have q22 := tok_w tr (j := 22) (by decide)
      have q23 := tok_w tr (j := 23) (by decide)
      have q24 := tok_w tr (j := 24) (by decide)
      rw [pk7] at q7; rw [pk19] at q19; rw [pk20] at q20; rw [pk3] at q3; rw [pk21] at q21; rw [pk22] at q22; rw [pk23] at q23; rw [pk24] at q24
      unfold nmI
      (repeat (first | rw [if_pos (by omega)] | rw [if_neg (by omega)])), rfl⟩
set_option maxHeartbeats 4000000 in
set_option maxRecDepth 100000 in
theorem m_emit {d : Nat} {x y : Int} (σ : gS) (A F T Pf : Nat → Int) {w0 : Int} {b : Nat → Int} {n tx : Nat} {so : Int} {s : pS} (hR : psR b n tx so F w0 T Pf s) (htx : tx < 4) (hD : s.2.2.2.length ≤ 303) : sC mX7_emit d [.ref 384, .int (iZ x), .int (iZ y)] (ms (pt σ T Pf w0) A F) (fun r σ' => r = none ∧ ∃ T1 F1, σ' = ms (pt σ T1 Pf w0) A F1 ∧ psR b n tx so F1 w0 T1 Pf (s.1, s.2.1, s.2.2.1, (x, y) :: s.2.2.2) ∧ F1 18 = F 18 ∧ kpM F F1 ∧ kpX tx T T1) := by
  refine sC_of rfl (Nat.le_of_ble_eq_true rfl) ?_
  show sE g_tt _ _ _ 0 [some (.ref 384), some (.int (iZ x)), some (.int (iZ y))] [] (ms (pt σ T Pf w0) A F)
  refine q_aload_n dX7_emit_0 rfl rfl ?_
  refine sg7 (kf := 2) (v := .ref 387) dX7_emit_1 flX7_16 (show kd 384 = 7 from rfl) (by decide) rfl ?_
  refine q_aload_n dX7_emit_4 rfl rfl ?_
  refine sg7 (kf := 12) (v := .int (iZ ((681 * tx : Nat) : Int))) dX7_emit_5 flX7_129 (show kd 384 = 7 from rfl) (by decide) (by show some (Value.int (iZ (F 12))) = _; rw [hR.2.1]) ?_
  refine z_bipush dX7_emit_8 (by decide +kernel) ?_
  refine z_iadd dX7_emit_10 ?_
  refine z_iconst dX7_emit_11 ?_
  refine q_aload_n dX7_emit_12 rfl rfl ?_
  refine sg7 (kf := 13) (v := .int (iZ ((s.2.2.2.length : Nat) : Int))) dX7_emit_13 flX7_132 (show kd 384 = 7 from rfl) (by decide) (by show some (Value.int (iZ (F 13))) = _; rw [hR.2.2.1]) ?_
  refine z_imul dX7_emit_16 ?_
  refine z_iadd dX7_emit_17 ?_
  refine q_iload_n dX7_emit_18 rfl rfl ?_
  refine pt_st387 (k := (681 * tx + 73 + 2 * s.2.2.2.length)) dX7_emit_19 (by omega) (by omega) (by omega) ?_
  refine q_aload_n dX7_emit_20 rfl rfl ?_
  refine sg7 (kf := 2) (v := .ref 387) dX7_emit_21 flX7_16 (show kd 384 = 7 from rfl) (by decide) rfl ?_
  refine q_aload_n dX7_emit_24 rfl rfl ?_
  refine sg7 (kf := 12) (v := .int (iZ ((681 * tx : Nat) : Int))) dX7_emit_25 flX7_129 (show kd 384 = 7 from rfl) (by decide) (by show some (Value.int (iZ (F 12))) = _; rw [hR.2.1]) ?_
  refine z_bipush dX7_emit_28 (by decide +kernel) ?_
  refine z_iadd dX7_emit_30 ?_
  refine z_iconst dX7_emit_31 ?_
  refine q_aload_n dX7_emit_32 rfl rfl ?_
  refine sg7 (kf := 13) (v := .int (iZ ((s.2.2.2.length : Nat) : Int))) dX7_emit_33 flX7_132 (show kd 384 = 7 from rfl) (by decide) (by show some (Value.int (iZ (F 13))) = _; rw [hR.2.2.1]) ?_
  refine z_imul dX7_emit_36 ?_
  refine z_iadd dX7_emit_37 ?_
  refine z_iconst dX7_emit_38 ?_
  refine z_iadd dX7_emit_39 ?_
  refine q_iload_n dX7_emit_40 rfl rfl ?_
  refine pt_st387 (k := (681 * tx + 73 + 2 * s.2.2.2.length + 1)) dX7_emit_41 (by omega) (by omega) (by omega) ?_
  refine q_aload_n dX7_emit_42 rfl rfl ?_
  refine q_dup dX7_emit_43 rfl ?_
  refine sg7 (kf := 13) (v := .int (iZ ((s.2.2.2.length : Nat) : Int))) dX7_emit_44 flX7_132 (show kd 384 = 7 from rfl) (by decide) (by show some (Value.int (iZ (F 13))) = _; rw [hR.2.2.1]) ?_
  refine z_iconst dX7_emit_47 ?_
  refine z_iadd dX7_emit_48 ?_
  refine mp (kf := 13) dX7_emit_49 flX7_132 (by decide) ?_
  exact s_vret dX7_emit_52 rfl ⟨rfl, _, _, rfl, ⟨hR.1, hR.2.1, (va_up_self _ _ _).trans (by rw [List.length_cons]; omega), hR.2.2.2.1, hR.2.2.2.2.1, hR.2.2.2.2.2.1, hR.2.2.2.2.2.2.1, dR_emit hR.2.2.2.2.2.2.2.1 (x, y), hR.2.2.2.2.2.2.2.2⟩, rfl, kpM_up (kpM_rf F) (Or.inl rfl) _, kpX_up (kpX_up (kpX_rf tx T) (by omega) _) (by omega) _⟩
theorem m_rk {d : Nat} {n : Int} (hn : inR n) (σ : gS) : sC mX7_rank d [.int (iZ n)] σ (fun r σ' => r = some (.int (iZ (rkF n))) ∧ σ' = σ) := m_rank hn σ
