/-- what of answers of house h -/
def mOf (W V : wF) (A : Nat → Int) (h : Nat) (n : Int) : Int := if n = 0 then A (11 + h) else if n = 1 then ((mPeo A (h : Int) (A 0).toNat : Nat) : Int) else if n = 2 then wA W A h else if n = 3 then V (A 2) A h else if n = 4 then (if wA W A h + 2 ≤ A (11 + h) then 1 else 0) else -1
set_option maxHeartbeats 4000000 in
set_option maxRecDepth 100000 in
theorem m_of {d h : Nat} (hd : 6 ≤ d) (hh : h < 8) {n : Int} (hn : inR n) (σ : gS) (A F : Nat → Int) {W V : wF} {nt : Int} (hW : wOK (σ.2.1 387) 100000 nt W) (hV : vOK (σ.2.1 387) 100000 nt V) (g : gd 100000 nt A) : sC mX7_of d [.ref 384, .int (iZ (h : Int)), .int (iZ n)] (ms σ A F) (fun r σ' => r = some (.int (iZ (mOf W V A h n))) ∧ ∃ σ2, σ' = ms σ2 A F ∧ eqS σ σ2) := by
  have ww := hW A (A 2) g g.2.2.2.2.2.2.2.2.2.1 g.2.2.2.2.2.2.2.2.2.2 h hh
  have vv := hV A (A 2) g g.2.2.2.2.2.2.2.2.2.1 g.2.2.2.2.2.2.2.2.2.2 h hh
  refine sC_of rfl (Nat.le_of_ble_eq_true rfl) ?_
  show sE g_tt _ _ _ 0 [some (.ref 384), some (.int (iZ (h : Int))), some (.int (iZ n))] [] (ms σ A F)
  refine q_iload_n dX7_of_0 rfl rfl ?_
  refine s_callS (As := [.int (iZ (h : Int))]) (S := []) dX7_of_1 okX7_isHouse mlX7_70 rfl (by omega) rfl (Nat.le_of_ble_eq_true rfl) (m_isHouse (d := d - 1) (by omega) (h := (h : Int)) (by unfold inR at *; omega) (ms σ A F)) (fun v_ σ_ hq => ?_)
  obtain ⟨rfl, e9⟩ := hq
  have e9 := e9.symm
  subst e9
  show sE g_tt _ _ _ 4 [some (.ref 384), some (.int (iZ (h : Int))), some (.int (iZ n))] [.int (iZ (if 0 ≤ (h : Int) ∧ (h : Int) < 8 then 1 else 0))] (ms σ A F)
  refine z_if_ne (tgt := 9) dX7_of_4 (by decide) inR_01 (fun c_1 => ?_) (fun c_1 => ?_)
  · have c_1 := if01_1 c_1
    refine q_iload_n dX7_of_9 rfl rfl ?_
    refine z_if_ne (tgt := 25) dX7_of_10 (by decide) (by unfold inR at *; omega) (fun c_2 => ?_) (fun c_2 => ?_)
    · refine q_iload_n dX7_of_25 rfl rfl ?_
      refine z_iconst dX7_of_26 ?_
      refine z_icmp_ne (tgt := 38) dX7_of_27 (by decide) (by unfold inR at *; omega) (by unfold inR at *; omega) (fun c_3 => ?_) (fun c_3 => ?_)
      · refine q_iload_n dX7_of_38 rfl rfl ?_
        refine z_iconst dX7_of_39 ?_
        refine z_icmp_ne (tgt := 57) dX7_of_40 (by decide) (by unfold inR at *; omega) (by unfold inR at *; omega) (fun c_4 => ?_) (fun c_4 => ?_)
        · refine q_iload_n dX7_of_57 rfl rfl ?_
          refine z_iconst dX7_of_58 ?_
          refine z_icmp_ne (tgt := 70) dX7_of_59 (by decide) (by unfold inR at *; omega) (by unfold inR at *; omega) (fun c_5 => ?_) (fun c_5 => ?_)
          · refine q_iload_n dX7_of_70 rfl rfl ?_
            refine z_iconst dX7_of_71 ?_
            refine z_icmp_ne (tgt := 91) dX7_of_72 (by decide) (by unfold inR at *; omega) (by unfold inR at *; omega) (fun c_6 => ?_) (fun c_6 => ?_)
            · refine z_iconst dX7_of_91 ?_
              exact s_iretZ dX7_of_92 rfl ⟨by unfold mOf; congr 3; (repeat (first | rw [if_pos (by omega)] | rw [if_neg (by omega)])); (try rfl), σ, rfl, eqS_rf σ⟩
            · refine q_aload_n dX7_of_75 rfl rfl ?_
              refine q_iload_n dX7_of_76 rfl rfl ?_
              refine s_callV (ci := 7) (a := 384) (As := [.int (iZ (h : Int))]) (S := []) dX7_of_77 okX7_canThank mlX7_316 rfl (by omega) rfl (Nat.le_of_ble_eq_true rfl) (show kd 384 = 7 from rfl) (by decide) rfl (m_canThank (d := d - 1) (by omega) hh σ A F g.1.1 g.1.2 (gdh g) (gdk g) ww.1 ww.2.1 ww.2.2) (fun v_ σ_ hq => ?_)
              obtain ⟨rfl, σ1, e9, hE1⟩ := hq
              subst e9
              show sE g_tt _ _ _ 80 [some (.ref 384), some (.int (iZ (h : Int))), some (.int (iZ n))] [.int (iZ (if wA W A h + 2 ≤ A (11 + h) then 1 else 0))] (ms σ1 A F)
              refine z_if_eq (tgt := 87) dX7_of_80 (by decide) inR_01 (fun c_7 => ?_) (fun c_7 => ?_)
              · have c_7 := if01_0 c_7
                refine z_iconst dX7_of_87 ?_
                refine q_goto (tgt := 92) dX7_of_88 (by decide) ?_
                exact s_iretZ dX7_of_92 rfl ⟨by unfold mOf; congr 3; (repeat (first | rw [if_pos (by omega)] | rw [if_neg (by omega)])); (try rfl), σ1, rfl, hE1⟩
              · have c_7 := if01_1 c_7
                refine z_iconst dX7_of_83 ?_
                refine q_goto (tgt := 92) dX7_of_84 (by decide) ?_
                exact s_iretZ dX7_of_92 rfl ⟨by unfold mOf; congr 3; (repeat (first | rw [if_pos (by omega)] | rw [if_neg (by omega)])); (try rfl), σ1, rfl, hE1⟩
          · refine q_aload_n dX7_of_62 rfl rfl ?_
            refine q_iload_n dX7_of_63 rfl rfl ?_
            refine s_callV (ci := 7) (a := 384) (As := [.int (iZ (h : Int))]) (S := []) dX7_of_64 okX7_giftsOf mlX7_328 rfl (by omega) rfl (Nat.le_of_ble_eq_true rfl) (show kd 384 = 7 from rfl) (by decide) rfl (m_giftsOf (d := d - 1) (by omega) hh σ A F g.1.1 g.1.2 (gdh g) (gdk g) vv.1) (fun v_ σ_ hq => ?_)
            obtain ⟨rfl, σ1, e9, hE1⟩ := hq
            subst e9
            show sE g_tt _ _ _ 67 [some (.ref 384), some (.int (iZ (h : Int))), some (.int (iZ n))] [.int (iZ (V (A 2) A h))] (ms σ1 A F)
            refine q_goto (tgt := 92) dX7_of_67 (by decide) ?_
            exact s_iretZ dX7_of_92 rfl ⟨by unfold mOf; congr 3; (repeat (first | rw [if_pos (by omega)] | rw [if_neg (by omega)])); (try rfl), σ1, rfl, hE1⟩
        · refine q_aload_n dX7_of_43 rfl rfl ?_
          refine q_aload_n dX7_of_44 rfl rfl ?_
          refine sg7 (kf := 0) (v := .ref 385) dX7_of_45 flX7_7 (show kd 384 = 7 from rfl) (by decide) rfl ?_
          refine z_iconst dX7_of_48 ?_
          refine s_iald (n := 1583) (x := A 2) dX7_of_49 (show kd 385 = 100 + 1583 from rfl) (by omega) (by omega) (by decide) rfl ?_
          refine q_iload_n dX7_of_50 rfl rfl ?_
          refine s_callV (ci := 7) (a := 384) (As := [.int (iZ (A 2)), .int (iZ (h : Int))]) (S := []) dX7_of_51 okX7_holdsOf mlX7_298 rfl (by omega) rfl (Nat.le_of_ble_eq_true rfl) (show kd 384 = 7 from rfl) (by decide) rfl (m_holdsOf (d := d - 1) (by omega) hh σ A F g.1.1 g.1.2 (gdh g) (gdk g) ww.1) (fun v_ σ_ hq => ?_)
          obtain ⟨rfl, σ1, e9, hE1⟩ := hq
          subst e9
          show sE g_tt _ _ _ 54 [some (.ref 384), some (.int (iZ (h : Int))), some (.int (iZ n))] [.int (iZ (wA W A h))] (ms σ1 A F)
          refine q_goto (tgt := 92) dX7_of_54 (by decide) ?_
          exact s_iretZ dX7_of_92 rfl ⟨by unfold mOf; congr 3; (repeat (first | rw [if_pos (by omega)] | rw [if_neg (by omega)])); (try rfl), σ1, rfl, hE1⟩
      · refine q_aload_n dX7_of_30 rfl rfl ?_
        refine q_iload_n dX7_of_31 rfl rfl ?_
        refine s_callV (ci := 7) (a := 384) (As := [.int (iZ (h : Int))]) (S := []) dX7_of_32 okX7_peopleIn mlX7_274 rfl (by omega) rfl (Nat.le_of_ble_eq_true rfl) (show kd 384 = 7 from rfl) (by decide) rfl (m_peopleIn (d := d - 1) (h := (h : Int)) (by unfold inR at *; omega) σ A F g.1.1 g.1.2 (gdh g)) (fun v_ σ_ hq => ?_)
        obtain ⟨rfl, e9⟩ := hq
        have e9 := e9.symm
        subst e9
        show sE g_tt _ _ _ 35 [some (.ref 384), some (.int (iZ (h : Int))), some (.int (iZ n))] [.int (iZ ((mPeo A (h : Int) (A 0).toNat : Nat) : Int))] (ms σ A F)
        refine q_goto (tgt := 92) dX7_of_35 (by decide) ?_
        exact s_iretZ dX7_of_92 rfl ⟨by unfold mOf; congr 3; (repeat (first | rw [if_pos (by omega)] | rw [if_neg (by omega)])); (try rfl), σ, rfl, eqS_rf σ⟩
    · refine q_aload_n dX7_of_13 rfl rfl ?_
      refine sg7 (kf := 0) (v := .ref 385) dX7_of_14 flX7_7 (show kd 384 = 7 from rfl) (by decide) rfl ?_
      refine z_bipush dX7_of_17 (by decide +kernel) ?_
      refine q_iload_n dX7_of_19 rfl rfl ?_
      refine z_iadd dX7_of_20 ?_
      refine s_iald (n := 1583) (x := A (11 + h)) dX7_of_21 (show kd 385 = 100 + 1583 from rfl) (by omega) (by omega) (by decide) rfl ?_
      refine q_goto (tgt := 92) dX7_of_22 (by decide) ?_
      exact s_iretZ dX7_of_92 rfl ⟨by unfold mOf; congr 3; (repeat (first | rw [if_pos (by omega)] | rw [if_neg (by omega)])); (try rfl), σ, rfl, eqS_rf σ⟩
  · have c_1 := if01_0 c_1
    exfalso
    omega
set_option maxHeartbeats 4000000 in
set_option maxRecDepth 100000 in
theorem m_of0 {d : Nat} (hd : 2 ≤ d) {h n : Int} (hh : inR h) (hno : ¬ (0 ≤ h ∧ h < 8)) (σ : gS) (A F : Nat → Int) : sC mX7_of d [.ref 384, .int (iZ h), .int (iZ n)] (ms σ A F) (fun r σ' => r = some (.int (iZ (-1))) ∧ σ' = ms σ A F) := by
  refine sC_of rfl (Nat.le_of_ble_eq_true rfl) ?_
  show sE g_tt _ _ _ 0 [some (.ref 384), some (.int (iZ h)), some (.int (iZ n))] [] (ms σ A F)
  refine q_iload_n dX7_of_0 rfl rfl ?_
  refine s_callS (As := [.int (iZ h)]) (S := []) dX7_of_1 okX7_isHouse mlX7_70 rfl (by omega) rfl (Nat.le_of_ble_eq_true rfl) (m_isHouse (d := d - 1) (by omega) (h := h) (by unfold inR at *; omega) (ms σ A F)) (fun v_ σ_ hq => ?_)
  obtain ⟨rfl, e9⟩ := hq
  have e9 := e9.symm
  subst e9
  show sE g_tt _ _ _ 4 [some (.ref 384), some (.int (iZ h)), some (.int (iZ n))] [.int (iZ (if 0 ≤ h ∧ h < 8 then 1 else 0))] (ms σ A F)
  refine z_if_ne (tgt := 9) dX7_of_4 (by decide) inR_01 (fun c_1 => ?_) (fun c_1 => ?_)
  · have c_1 := if01_1 c_1
    exfalso
    omega
  · have c_1 := if01_0 c_1
    refine z_iconst dX7_of_7 ?_
    exact s_iretZ dX7_of_8 rfl ⟨rfl, rfl⟩
/-- whether the first i said holds are so by text t (1, 0) -/
def mAl (W : wF) (t : Nat) (A : Nat → Int) : Nat → Int
  | 0 => 1
  | i + 1 => if mAl W t A i = 0 then 0 else if W (t : Int) A (A (37 + 2 * i)).toNat = A (37 + 2 * i + 1) then 1 else 0
theorem mAl_01 (W : wF) (t : Nat) (A : Nat → Int) : ∀ i, mAl W t A i = 0 ∨ mAl W t A i = 1 := by
  intro i
  cases i with
  | zero => exact Or.inr rfl
  | succ i => rw [mAl]; split; exact Or.inl rfl; split; exact Or.inr rfl; exact Or.inl rfl
def mWho (W : wF) (A : Nat → Int) (n : Nat) : Nat := mBs (fun t => mAl W t A (A 4).toNat ≠ 0) n
set_option maxHeartbeats 4000000 in
set_option maxRecDepth 100000 in
theorem lp_whose1 {d t : Nat} (hd : 5 ≤ d) (l1 : Option Value) (σ : gS) (A F : Nat → Int) {W : wF} {nt : Int} (hW : wOK (σ.2.1 387) 100000 nt W) (g : gd 100000 nt A) (hsd : ∀ i : Nat, (i : Int) < A 4 → (0 ≤ A (37 + 2 * i) ∧ A (37 + 2 * i) ≤ 7) ∧ 0 ≤ A (37 + 2 * i + 1) ∧ A (37 + 2 * i + 1) ≤ 9) (h4 : 0 ≤ A 4) (h48 : A 4 ≤ 8) (h1 : 0 ≤ A 1) (h14 : A 1 ≤ 4) (hnt : A 1 ≤ nt) (ht : (t : Int) < A 1) (kc : ∀ σ1 : gS, eqS σ σ1 → ∀ l4 : Option Value, sE g_tt mX7_whose d (fun r σ' => r = some (.int (iZ (((mWho W A (A 1).toNat : Nat) : Int)))) ∧ ∃ σ2, σ' = ms σ2 A F ∧ eqS σ σ2) 76 [some (.ref 384), l1, some (.int (iZ (t : Int))), some (.int (iZ (mAl W t A (A 4).toNat))), l4] [] (ms σ1 A F)) : ∀ (n : Nat) (i : Nat) (σ1 : gS), (i : Int) ≤ A 4 → eqS σ σ1 → A 4 - (i : Int) < (n : Int) → sE g_tt mX7_whose d (fun r σ' => r = some (.int (iZ (((mWho W A (A 1).toNat : Nat) : Int)))) ∧ ∃ σ2, σ' = ms σ2 A F ∧ eqS σ σ2) 20 [some (.ref 384), l1, some (.int (iZ (t : Int))), some (.int (iZ (mAl W t A i))), some (.int (iZ (37 + 2 * (i : Int))))] [] (ms σ1 A F) := by
  intro n
  induction n with
  | zero =>
    intro i σ1 hi hE1 hn
    exact absurd hn (by omega)
  | succ n ih =>
    intro i σ1 hi hE1 hn
    rcases mAl_01 W t A i with e | e
    · rw [e]
      refine q_iload dX7_whose_20 rfl ?_
      refine z_bipush dX7_whose_22 (by decide +kernel) ?_
      refine z_iconst dX7_whose_24 ?_
      refine q_aload_n dX7_whose_25 rfl rfl ?_
      refine sg7 (kf := 0) (v := .ref 385) dX7_whose_26 flX7_7 (show kd 384 = 7 from rfl) (by decide) rfl ?_
      refine z_iconst dX7_whose_29 ?_
      refine s_iald (n := 1583) (x := A 4) dX7_whose_30 (show kd 385 = 100 + 1583 from rfl) (by omega) (by omega) (by decide) rfl ?_
      refine z_imul dX7_whose_31 ?_
      refine z_iadd dX7_whose_32 ?_
      refine z_icmp_ge (tgt := 76) dX7_whose_33 (by decide) (by unfold inR at *; omega) (by unfold inR at *; omega) (fun c_1 => ?_) (fun c_1 => ?_)
      · obtain rfl : i = (A 4).toNat := by omega
        rw [← e]
        exact kc σ1 hE1 _
      · refine q_iload_n dX7_whose_36 rfl rfl ?_
        refine z_if_eq (tgt := 68) dX7_whose_37 (by decide) (by unfold inR at *; omega) (fun c_2 => ?_) (fun c_2 => ?_)
        · refine z_iconst dX7_whose_68 ?_
          refine q_istore_n dX7_whose_69 rfl (by decide) ?_
          show sE g_tt _ _ _ 70 [some (.ref 384), l1, some (.int (iZ (t : Int))), some (.int (iZ 0)), some (.int (iZ (37 + 2 * (i : Int))))] [] (ms σ1 A F)
          refine z_iinc dX7_whose_70 rfl (by decide) ?_
          show sE g_tt _ _ _ 73 [some (.ref 384), l1, some (.int (iZ (t : Int))), some (.int (iZ 0)), some (.int (iZ (37 + 2 * (i : Int) + 2)))] [] (ms σ1 A F)
          refine q_goto (tgt := 20) dX7_whose_73 (by decide) ?_
          have k9 := ih (i + 1) σ1 (by omega) hE1 (by omega)
          rw [show mAl W t A (i + 1) = 0 by rw [mAl, if_pos e], show (37 : Int) + 2 * ((i + 1 : Nat) : Int) = 37 + 2 * (i : Int) + 2 by omega] at k9
          exact k9
        · exfalso
          revert c_2
          decide
    · rw [e]
      by_cases hi4 : (i : Int) < A 4
      · obtain ⟨j, ej⟩ : ∃ j : Nat, A (37 + 2 * i) = (j : Int) := ⟨(A (37 + 2 * i)).toNat, by have := hsd i hi4; omega⟩
        have si := hsd i hi4
        have hj : j < 8 := by omega
        have wj := hW A (t : Int) g (by omega) (by omega) j hj
        refine q_iload dX7_whose_20 rfl ?_
        refine z_bipush dX7_whose_22 (by decide +kernel) ?_
        refine z_iconst dX7_whose_24 ?_
        refine q_aload_n dX7_whose_25 rfl rfl ?_
        refine sg7 (kf := 0) (v := .ref 385) dX7_whose_26 flX7_7 (show kd 384 = 7 from rfl) (by decide) rfl ?_
        refine z_iconst dX7_whose_29 ?_
        refine s_iald (n := 1583) (x := A 4) dX7_whose_30 (show kd 385 = 100 + 1583 from rfl) (by omega) (by omega) (by decide) rfl ?_
        refine z_imul dX7_whose_31 ?_
        refine z_iadd dX7_whose_32 ?_
        refine z_icmp_ge (tgt := 76) dX7_whose_33 (by decide) (by unfold inR at *; omega) (by unfold inR at *; omega) (fun c_1 => ?_) (fun c_1 => ?_)
        · exfalso
          omega
        · refine q_iload_n dX7_whose_36 rfl rfl ?_
          refine z_if_eq (tgt := 68) dX7_whose_37 (by decide) (by unfold inR at *; omega) (fun c_2 => ?_) (fun c_2 => ?_)
          · exfalso
            revert c_2
            decide
          · refine q_aload_n dX7_whose_40 rfl rfl ?_
            refine q_iload_n dX7_whose_41 rfl rfl ?_
            refine q_aload_n dX7_whose_42 rfl rfl ?_
            refine sg7 (kf := 0) (v := .ref 385) dX7_whose_43 flX7_7 (show kd 384 = 7 from rfl) (by decide) rfl ?_
            refine q_iload dX7_whose_46 rfl ?_
            refine s_iald (n := 1583) (x := (j : Int)) dX7_whose_48 (show kd 385 = 100 + 1583 from rfl) (by omega) (by omega) (by decide) (by show A _ = _; rw [show ((37 : Int) + 2 * (i : Int)).toNat = 37 + 2 * i by omega]; exact ej) ?_
            refine s_callV (ci := 7) (a := 384) (As := [.int (iZ (t : Int)), .int (iZ (j : Int))]) (S := []) dX7_whose_49 okX7_holdsOf mlX7_298 rfl (by omega) rfl (Nat.le_of_ble_eq_true rfl) (show kd 384 = 7 from rfl) (by decide) rfl (m_holdsOf (d := d - 1) (h := j) (text := (t : Int)) (by omega) hj σ1 A F g.1.1 g.1.2 (gdh g) (gdk g) (by rw [hE1.2.1 387 (by decide) (by decide)]; exact wj.1)) (fun v_ σ_ hq => ?_)
            obtain ⟨rfl, σ2, e9, hE2⟩ := hq
            subst e9
            show sE g_tt _ _ _ 52 [some (.ref 384), l1, some (.int (iZ (t : Int))), some (.int (iZ 1)), some (.int (iZ (37 + 2 * (i : Int))))] [.int (iZ (W (t : Int) A j))] (ms σ2 A F)
            refine q_aload_n dX7_whose_52 rfl rfl ?_
            refine sg7 (kf := 0) (v := .ref 385) dX7_whose_53 flX7_7 (show kd 384 = 7 from rfl) (by decide) rfl ?_
            refine q_iload dX7_whose_56 rfl ?_
            refine z_iconst dX7_whose_58 ?_
            refine z_iadd dX7_whose_59 ?_
            refine s_iald (n := 1583) (x := A (37 + 2 * i + 1)) dX7_whose_60 (show kd 385 = 100 + 1583 from rfl) (by omega) (by omega) (by decide) (by show A _ = _; rw [show ((37 : Int) + 2 * (i : Int) + 1).toNat = 37 + 2 * i + 1 by omega]) ?_
            refine z_icmp_ne (tgt := 68) dX7_whose_61 (by decide) (by have := wj.2; unfold inR; omega) (by unfold inR at *; omega) (fun c_3 => ?_) (fun c_3 => ?_)
            · refine z_iconst dX7_whose_68 ?_
              refine q_istore_n dX7_whose_69 rfl (by decide) ?_
              show sE g_tt _ _ _ 70 [some (.ref 384), l1, some (.int (iZ (t : Int))), some (.int (iZ 0)), some (.int (iZ (37 + 2 * (i : Int))))] [] (ms σ2 A F)
              refine z_iinc dX7_whose_70 rfl (by decide) ?_
              show sE g_tt _ _ _ 73 [some (.ref 384), l1, some (.int (iZ (t : Int))), some (.int (iZ 0)), some (.int (iZ (37 + 2 * (i : Int) + 2)))] [] (ms σ2 A F)
              refine q_goto (tgt := 20) dX7_whose_73 (by decide) ?_
              have k9 := ih (i + 1) σ2 (by omega) (eqS_tr hE1 hE2) (by omega)
              rw [show mAl W t A (i + 1) = 0 by rw [mAl, if_neg (by omega), ej, Int.toNat_natCast, if_neg c_3], show (37 : Int) + 2 * ((i + 1 : Nat) : Int) = 37 + 2 * (i : Int) + 2 by omega] at k9
              exact k9
            · refine z_iconst dX7_whose_64 ?_
              refine q_goto (tgt := 69) dX7_whose_65 (by decide) ?_
              refine q_istore_n dX7_whose_69 rfl (by decide) ?_
              show sE g_tt _ _ _ 70 [some (.ref 384), l1, some (.int (iZ (t : Int))), some (.int (iZ 1)), some (.int (iZ (37 + 2 * (i : Int))))] [] (ms σ2 A F)
              refine z_iinc dX7_whose_70 rfl (by decide) ?_
              show sE g_tt _ _ _ 73 [some (.ref 384), l1, some (.int (iZ (t : Int))), some (.int (iZ 1)), some (.int (iZ (37 + 2 * (i : Int) + 2)))] [] (ms σ2 A F)
              refine q_goto (tgt := 20) dX7_whose_73 (by decide) ?_
              have k9 := ih (i + 1) σ2 (by omega) (eqS_tr hE1 hE2) (by omega)
              rw [show mAl W t A (i + 1) = 1 by rw [mAl, if_neg (by omega), ej, Int.toNat_natCast, if_pos c_3], show (37 : Int) + 2 * ((i + 1 : Nat) : Int) = 37 + 2 * (i : Int) + 2 by omega] at k9
              exact k9
      · obtain rfl : i = (A 4).toNat := by omega
        refine q_iload dX7_whose_20 rfl ?_
        refine z_bipush dX7_whose_22 (by decide +kernel) ?_
        refine z_iconst dX7_whose_24 ?_
        refine q_aload_n dX7_whose_25 rfl rfl ?_
        refine sg7 (kf := 0) (v := .ref 385) dX7_whose_26 flX7_7 (show kd 384 = 7 from rfl) (by decide) rfl ?_
        refine z_iconst dX7_whose_29 ?_
        refine s_iald (n := 1583) (x := A 4) dX7_whose_30 (show kd 385 = 100 + 1583 from rfl) (by omega) (by omega) (by decide) rfl ?_
        refine z_imul dX7_whose_31 ?_
        refine z_iadd dX7_whose_32 ?_
        refine z_icmp_ge (tgt := 76) dX7_whose_33 (by decide) (by unfold inR at *; omega) (by unfold inR at *; omega) (fun c_1 => ?_) (fun c_1 => ?_)
        · rw [← e]
          exact kc σ1 hE1 _
        · exfalso
          omega
set_option maxHeartbeats 4000000 in
set_option maxRecDepth 100000 in
theorem lp_whose {d : Nat} (hd : 5 ≤ d) (σ : gS) (A F : Nat → Int) {W : wF} {nt : Int} (hW : wOK (σ.2.1 387) 100000 nt W) (g : gd 100000 nt A) (hsd : ∀ i : Nat, (i : Int) < A 4 → (0 ≤ A (37 + 2 * i) ∧ A (37 + 2 * i) ≤ 7) ∧ 0 ≤ A (37 + 2 * i + 1) ∧ A (37 + 2 * i + 1) ≤ 9) (h4 : 0 ≤ A 4) (h48 : A 4 ≤ 8) (h1 : 0 ≤ A 1) (h14 : A 1 ≤ 4) (hnt : A 1 ≤ nt) : ∀ (n : Nat) (t : Nat) (σ1 : gS) (l3 l4 : Option Value), (t : Int) ≤ A 1 → eqS σ σ1 → A 1 - (t : Int) < (n : Int) → sE g_tt mX7_whose d (fun r σ' => r = some (.int (iZ (((mWho W A (A 1).toNat : Nat) : Int)))) ∧ ∃ σ2, σ' = ms σ2 A F ∧ eqS σ σ2) 4 [some (.ref 384), some (.int (iZ ((mBs (fun t => mAl W t A (A 4).toNat ≠ 0) t : Nat) : Int))), some (.int (iZ (t : Int))), l3, l4] [] (ms σ1 A F) := by
  intro n
  induction n with
  | zero =>
    intro t σ1 l3 l4 ht hE1 hn
    exact absurd hn (by omega)
  | succ n ih =>
    intro t σ1 l3 l4 ht hE1 hn
    refine q_iload_n dX7_whose_4 rfl rfl ?_
    refine q_aload_n dX7_whose_5 rfl rfl ?_
    refine sg7 (kf := 0) (v := .ref 385) dX7_whose_6 flX7_7 (show kd 384 = 7 from rfl) (by decide) rfl ?_
    refine z_iconst dX7_whose_9 ?_
    refine s_iald (n := 1583) (x := A 1) dX7_whose_10 (show kd 385 = 100 + 1583 from rfl) (by omega) (by omega) (by decide) rfl ?_
    refine z_icmp_ge (tgt := 96) dX7_whose_11 (by decide) (by unfold inR at *; omega) (by unfold inR at *; omega) (fun c_1 => ?_) (fun c_1 => ?_)
    · refine q_iload_n dX7_whose_96 rfl rfl ?_
      exact s_iretZ dX7_whose_97 rfl ⟨by rw [show t = (A 1).toNat by omega]; rfl, σ1, rfl, hE1⟩
    · refine z_iconst dX7_whose_14 ?_
      refine q_istore_n dX7_whose_15 rfl (by decide) ?_
      show sE g_tt _ _ _ 16 [some (.ref 384), some (.int (iZ ((mBs (fun t => mAl W t A (A 4).toNat ≠ 0) t : Nat) : Int))), some (.int (iZ (t : Int))), some (.int (iZ 1)), l4] [] (ms σ1 A F)
      refine z_bipush dX7_whose_16 (by decide +kernel) ?_
      refine q_istore dX7_whose_18 (by decide) ?_
      show sE g_tt _ _ _ 20 [some (.ref 384), some (.int (iZ ((mBs (fun t => mAl W t A (A 4).toNat ≠ 0) t : Nat) : Int))), some (.int (iZ (t : Int))), some (.int (iZ 1)), some (.int (iZ 37))] [] (ms σ1 A F)
      refine lp_whose1 (t := t) hd _ σ A F hW g hsd h4 h48 h1 h14 hnt (by omega) (fun σ2 hE2 l4 => ?_) 9 0 σ1 (by omega) hE1 (by omega)
      refine q_iload_n dX7_whose_76 rfl rfl ?_
      refine q_iload_n dX7_whose_77 rfl rfl ?_
      refine z_if_eq (tgt := 87) dX7_whose_78 (by decide) (by rcases mAl_01 W t A (A 4).toNat with e | e <;> rw [e] <;> unfold inR <;> decide) (fun c_1 => ?_) (fun c_1 => ?_)
      · refine z_iconst dX7_whose_87 ?_
        refine z_ior (m := mBs (fun t => mAl W t A (A 4).toNat ≠ 0) t) (k := 0) dX7_whose_88 ?_
        refine q_istore_n dX7_whose_89 rfl (by decide) ?_
        show sE g_tt _ _ _ 90 [some (.ref 384), some (.int (iZ (((mBs (fun t => mAl W t A (A 4).toNat ≠ 0) t) ||| 0 : Nat) : Int))), some (.int (iZ (t : Int))), some (.int (iZ (mAl W t A (A 4).toNat))), l4] [] (ms σ2 A F)
        refine z_iinc dX7_whose_90 rfl (by decide) ?_
        show sE g_tt _ _ _ 93 [some (.ref 384), some (.int (iZ (((mBs (fun t => mAl W t A (A 4).toNat ≠ 0) t) ||| 0 : Nat) : Int))), some (.int (iZ ((t : Int) + 1))), some (.int (iZ (mAl W t A (A 4).toNat))), l4] [] (ms σ2 A F)
        refine q_goto (tgt := 4) dX7_whose_93 (by decide) ?_
        have k9 := ih (t + 1) σ2 (some (.int (iZ (mAl W t A (A 4).toNat)))) l4 (by omega) hE2 (by omega)
        rw [mBs_n (p := fun t => mAl W t A (A 4).toNat ≠ 0) (by show ¬ (mAl W t A (A 4).toNat ≠ 0); omega)] at k9
        exact k9
      · refine z_iconst dX7_whose_81 ?_
        refine q_iload_n dX7_whose_82 rfl rfl ?_
        refine z_ishl (x := 1) (k := t) dX7_whose_83 (by omega) ?_
        refine z_top (y := ((2 ^ t : Nat) : Int)) (by simp) ?_
        refine q_goto (tgt := 88) dX7_whose_84 (by decide) ?_
        refine z_ior (m := mBs (fun t => mAl W t A (A 4).toNat ≠ 0) t) (k := 2 ^ t) dX7_whose_88 ?_
        refine q_istore_n dX7_whose_89 rfl (by decide) ?_
        show sE g_tt _ _ _ 90 [some (.ref 384), some (.int (iZ (((mBs (fun t => mAl W t A (A 4).toNat ≠ 0) t) ||| (2 ^ t) : Nat) : Int))), some (.int (iZ (t : Int))), some (.int (iZ (mAl W t A (A 4).toNat))), l4] [] (ms σ2 A F)
        refine z_iinc dX7_whose_90 rfl (by decide) ?_
        show sE g_tt _ _ _ 93 [some (.ref 384), some (.int (iZ (((mBs (fun t => mAl W t A (A 4).toNat ≠ 0) t) ||| (2 ^ t) : Nat) : Int))), some (.int (iZ ((t : Int) + 1))), some (.int (iZ (mAl W t A (A 4).toNat))), l4] [] (ms σ2 A F)
        refine q_goto (tgt := 4) dX7_whose_93 (by decide) ?_
        have k9 := ih (t + 1) σ2 (some (.int (iZ (mAl W t A (A 4).toNat)))) l4 (by omega) hE2 (by omega)
        rw [mBs_y (p := fun t => mAl W t A (A 4).toNat ≠ 0) (by show (mAl W t A (A 4).toNat ≠ 0); omega)] at k9
        exact k9
set_option maxHeartbeats 4000000 in
set_option maxRecDepth 100000 in
theorem m_whose {d : Nat} (hd : 5 ≤ d) (σ : gS) (A F : Nat → Int) {W : wF} {nt : Int} (hW : wOK (σ.2.1 387) 100000 nt W) (g : gd 100000 nt A) (hsd : ∀ i : Nat, (i : Int) < A 4 → (0 ≤ A (37 + 2 * i) ∧ A (37 + 2 * i) ≤ 7) ∧ 0 ≤ A (37 + 2 * i + 1) ∧ A (37 + 2 * i + 1) ≤ 9) (h4 : 0 ≤ A 4) (h48 : A 4 ≤ 8) (h1 : 0 ≤ A 1) (h14 : A 1 ≤ 4) (hnt : A 1 ≤ nt) : sC mX7_whose d [.ref 384] (ms σ A F) (fun r σ' => r = some (.int (iZ (((mWho W A (A 1).toNat : Nat) : Int)))) ∧ ∃ σ2, σ' = ms σ2 A F ∧ eqS σ σ2) := by
  refine sC_of rfl (Nat.le_of_ble_eq_true rfl) ?_
  show sE g_tt _ _ _ 0 [some (.ref 384), none, none, none, none] [] (ms σ A F)
  refine z_iconst dX7_whose_0 ?_
  refine q_istore_n dX7_whose_1 rfl (by decide) ?_
  show sE g_tt _ _ _ 2 [some (.ref 384), some (.int (iZ 0)), none, none, none] [] (ms σ A F)
  refine z_iconst dX7_whose_2 ?_
  refine q_istore_n dX7_whose_3 rfl (by decide) ?_
  show sE g_tt _ _ _ 4 [some (.ref 384), some (.int (iZ 0)), some (.int (iZ 0)), none, none] [] (ms σ A F)
  exact lp_whose hd σ A F hW g hsd h4 h48 h1 h14 hnt 5 0 σ _ _ (by omega) (eqS_rf σ) (by omega)
/-- the first k of A, the rest of S -/
def mCy (A S : Nat → Int) (k : Nat) : Nat → Int := fun i => if i < k then A i else S i
theorem mCy_0 (A S : Nat → Int) : mCy A S 0 = S := by
  funext i
  unfold mCy
  rw [if_neg (by omega)]
theorem mCy_step (A S : Nat → Int) (k : Nat) : mCy A S (k + 1) = va_up (mCy A S k) k (A k) := by
  funext i
  by_cases e : i = k
  · subst e
    rw [va_up_self]
    unfold mCy
    rw [if_pos (by omega)]
  · rw [va_up_ne _ _ e]
    unfold mCy
    by_cases q : i < k
    · rw [if_pos (by omega), if_pos q]
    · rw [if_neg (by omega), if_neg q]
set_option maxHeartbeats 4000000 in
set_option maxRecDepth 100000 in
theorem lp_copyI {d : Nat} (σ : gS) (A F : Nat → Int) : ∀ (n : Nat) (k : Nat), k ≤ 1583 → 1583 - (k : Int) < (n : Int) → sE g_tt mX7_copy d (fun r σ' => r = none ∧ σ' = ms (sRw σ 386 (mCy A (σ.2.1 386) 1583)) A F) 2 [some (.ref 385), some (.ref 386), some (.int (iZ (k : Int)))] [] (ms (sRw σ 386 (mCy A (σ.2.1 386) k)) A F) := by
  intro n
  induction n with
  | zero =>
    intro k hk hn
    exact absurd hn (by omega)
  | succ n ih =>
    intro k hk hn
    refine q_iload_n dX7_copy_2 rfl rfl ?_
    refine z_sipush dX7_copy_3 (by decide +kernel) ?_
    refine z_icmp_ge (tgt := 21) dX7_copy_6 (by decide) (by unfold inR at *; omega) (by unfold inR at *; omega) (fun c_1 => ?_) (fun c_1 => ?_)
    · exact s_vret dX7_copy_21 rfl ⟨rfl, by rw [show k = 1583 by omega]⟩
    · refine q_aload_n dX7_copy_9 rfl rfl ?_
      refine q_iload_n dX7_copy_10 rfl rfl ?_
      refine q_aload_n dX7_copy_11 rfl rfl ?_
      refine q_iload_n dX7_copy_12 rfl rfl ?_
      refine s_iald (n := 1583) (x := A k) dX7_copy_13 (show kd 385 = 100 + 1583 from rfl) (by omega) (by omega) (by decide) rfl ?_
      refine mr_st (b := 386) (n := 1583) (k := k) dX7_copy_14 (show kd 386 = 100 + 1583 from rfl) (by decide) (by omega) (by omega) (by decide) (by omega) ?_
      refine z_iinc dX7_copy_15 rfl (by decide) ?_
      show sE g_tt _ _ _ 18 [some (.ref 385), some (.ref 386), some (.int (iZ ((k : Int) + 1)))] [] (ms (sRw σ 386 (va_up (mCy A (σ.2.1 386) k) k (A k))) A F)
      refine q_goto (tgt := 2) dX7_copy_18 (by decide) ?_
      have k9 := ih (k + 1) (by omega) (by omega)
      rw [mCy_step A (σ.2.1 386) k] at k9
      exact k9
set_option maxHeartbeats 4000000 in
set_option maxRecDepth 100000 in
theorem m_copyI {d : Nat} (σ : gS) (A F : Nat → Int) : sC mX7_copy d [.ref 385, .ref 386] (ms σ A F) (fun r σ' => r = none ∧ σ' = ms (sRw σ 386 (mCy A (σ.2.1 386) 1583)) A F) := by
  refine sC_of rfl (Nat.le_of_ble_eq_true rfl) ?_
  show sE g_tt _ _ _ 0 [some (.ref 385), some (.ref 386), none] [] (ms σ A F)
  refine z_iconst dX7_copy_0 ?_
  refine q_istore_n dX7_copy_1 rfl (by decide) ?_
  show sE g_tt _ _ _ 2 [some (.ref 385), some (.ref 386), some (.int (iZ 0))] [] (ms σ A F)
  have k9 := lp_copyI (d := d) σ A F 1584 0 (by omega) (by omega)
  rw [mCy_0, sRw_id] at k9
  exact k9
set_option maxHeartbeats 4000000 in
set_option maxRecDepth 100000 in
theorem m_image {d : Nat} (hd : 1 ≤ d) (σ : gS) (A F : Nat → Int) : sC mX7_image d [.ref 384] (ms σ A F) (fun r σ' => r = some (.int (iZ (A 5))) ∧ σ' = ms (sRw σ 386 (mCy A (σ.2.1 386) 1583)) A F) := by
  refine sC_of rfl (Nat.le_of_ble_eq_true rfl) ?_
  show sE g_tt _ _ _ 0 [some (.ref 384)] [] (ms σ A F)
  refine q_aload_n dX7_image_0 rfl rfl ?_
  refine sg7 (kf := 0) (v := .ref 385) dX7_image_1 flX7_7 (show kd 384 = 7 from rfl) (by decide) rfl ?_
  refine q_aload_n dX7_image_4 rfl rfl ?_
  refine sg7 (kf := 1) (v := .ref 386) dX7_image_5 flX7_13 (show kd 384 = 7 from rfl) (by decide) rfl ?_
  refine s_callS (As := [.ref 385, .ref 386]) (S := []) dX7_image_8 okX7_copy mlX7_62 rfl (by omega) rfl (Nat.le_of_ble_eq_true rfl) (m_copyI (d := d - 1) σ A F) (fun v_ σ_ hq => ?_)
  obtain ⟨rfl, e9⟩ := hq
  have e9 := e9.symm
  subst e9
  show sE g_tt _ _ _ 11 [some (.ref 384)] [] (ms (sRw σ 386 (mCy A (σ.2.1 386) 1583)) A F)
  refine q_aload_n dX7_image_11 rfl rfl ?_
  refine sg7 (kf := 0) (v := .ref 385) dX7_image_12 flX7_7 (show kd 384 = 7 from rfl) (by decide) rfl ?_
  refine z_iconst dX7_image_15 ?_
  refine s_iald (n := 1583) (x := A 5) dX7_image_16 (show kd 385 = 100 + 1583 from rfl) (by omega) (by omega) (by decide) rfl ?_
  exact s_iretZ dX7_image_17 rfl ⟨rfl, rfl⟩
set_option maxHeartbeats 4000000 in
set_option maxRecDepth 100000 in
theorem lp_copyB {d : Nat} (σ : gS) (A F : Nat → Int) : ∀ (n : Nat) (k : Nat), k ≤ 1583 → 1583 - (k : Int) < (n : Int) → sE g_tt mX7_copy d (fun r σ' => r = none ∧ σ' = ms σ (mCy (σ.2.1 386) A 1583) F) 2 [some (.ref 386), some (.ref 385), some (.int (iZ (k : Int)))] [] (ms σ (mCy (σ.2.1 386) A k) F) := by
  intro n
  induction n with
  | zero =>
    intro k hk hn
    exact absurd hn (by omega)
  | succ n ih =>
    intro k hk hn
    refine q_iload_n dX7_copy_2 rfl rfl ?_
    refine z_sipush dX7_copy_3 (by decide +kernel) ?_
    refine z_icmp_ge (tgt := 21) dX7_copy_6 (by decide) (by unfold inR at *; omega) (by unfold inR at *; omega) (fun c_1 => ?_) (fun c_1 => ?_)
    · exact s_vret dX7_copy_21 rfl ⟨rfl, by rw [show k = 1583 by omega]⟩
    · refine q_aload_n dX7_copy_9 rfl rfl ?_
      refine q_iload_n dX7_copy_10 rfl rfl ?_
      refine q_aload_n dX7_copy_11 rfl rfl ?_
      refine q_iload_n dX7_copy_12 rfl rfl ?_
      refine s_iald (n := 1583) (x := σ.2.1 386 k) dX7_copy_13 (show kd 386 = 100 + 1583 from rfl) (by omega) (by omega) (by decide) rfl ?_
      refine ma_st dX7_copy_14 (by omega) (by omega) ?_
      refine z_iinc dX7_copy_15 rfl (by decide) ?_
      show sE g_tt _ _ _ 18 [some (.ref 386), some (.ref 385), some (.int (iZ ((k : Int) + 1)))] [] (ms σ (va_up (mCy (σ.2.1 386) A k) k (σ.2.1 386 k)) F)
      refine q_goto (tgt := 2) dX7_copy_18 (by decide) ?_
      have k9 := ih (k + 1) (by omega) (by omega)
      rw [mCy_step (σ.2.1 386) A k] at k9
      exact k9
set_option maxHeartbeats 4000000 in
set_option maxRecDepth 100000 in
theorem m_copyB {d : Nat} (σ : gS) (A F : Nat → Int) : sC mX7_copy d [.ref 386, .ref 385] (ms σ A F) (fun r σ' => r = none ∧ σ' = ms σ (mCy (σ.2.1 386) A 1583) F) := by
  refine sC_of rfl (Nat.le_of_ble_eq_true rfl) ?_
  show sE g_tt _ _ _ 0 [some (.ref 386), some (.ref 385), none] [] (ms σ A F)
  refine z_iconst dX7_copy_0 ?_
  refine q_istore_n dX7_copy_1 rfl (by decide) ?_
  show sE g_tt _ _ _ 2 [some (.ref 386), some (.ref 385), some (.int (iZ 0))] [] (ms σ A F)
  have k9 := lp_copyB (d := d) σ A F 1584 0 (by omega) (by omega)
  rw [mCy_0] at k9
  exact k9
set_option maxHeartbeats 4000000 in
set_option maxRecDepth 100000 in
theorem m_back {d : Nat} (hd : 1 ≤ d) (σ : gS) (A F : Nat → Int) : sC mX7_back d [.ref 384] (ms σ A F) (fun r σ' => r = some (.int (iZ (σ.2.1 386 5))) ∧ σ' = ms σ (mCy (σ.2.1 386) A 1583) F) := by
  refine sC_of rfl (Nat.le_of_ble_eq_true rfl) ?_
  show sE g_tt _ _ _ 0 [some (.ref 384)] [] (ms σ A F)
  refine q_aload_n dX7_back_0 rfl rfl ?_
  refine sg7 (kf := 1) (v := .ref 386) dX7_back_1 flX7_13 (show kd 384 = 7 from rfl) (by decide) rfl ?_
  refine q_aload_n dX7_back_4 rfl rfl ?_
  refine sg7 (kf := 0) (v := .ref 385) dX7_back_5 flX7_7 (show kd 384 = 7 from rfl) (by decide) rfl ?_
  refine s_callS (As := [.ref 386, .ref 385]) (S := []) dX7_back_8 okX7_copy mlX7_62 rfl (by omega) rfl (Nat.le_of_ble_eq_true rfl) (m_copyB (d := d - 1) σ A F) (fun v_ σ_ hq => ?_)
  obtain ⟨rfl, e9⟩ := hq
  have e9 := e9.symm
  subst e9
  show sE g_tt _ _ _ 11 [some (.ref 384)] [] (ms σ (mCy (σ.2.1 386) A 1583) F)
  refine q_aload_n dX7_back_11 rfl rfl ?_
  refine sg7 (kf := 0) (v := .ref 385) dX7_back_12 flX7_7 (show kd 384 = 7 from rfl) (by decide) rfl ?_
  refine z_iconst dX7_back_15 ?_
  refine s_iald (n := 1583) (x := (mCy (σ.2.1 386) A 1583) 5) dX7_back_16 (show kd 385 = 100 + 1583 from rfl) (by omega) (by omega) (by decide) rfl ?_
  exact s_iretZ dX7_back_17 rfl ⟨rfl, rfl⟩
/-- four bytes of v written at n -/
def mFr (B : Nat → Int) (n : Nat) (v : Int) : Nat → Int := va_up (va_up (va_up (va_up B n (v / 2 ^ 24 % 256)) (n + 1) (v / 2 ^ 16 % 256)) (n + 2) (v / 2 ^ 8 % 256)) (n + 3) (v / 2 ^ 0 % 256)
set_option maxHeartbeats 4000000 in
set_option maxRecDepth 100000 in
theorem m_four {d n : Nat} {v : Int} (hv : inR v) (σ : gS) (A F B : Nat → Int) (h4 : F 4 = (n : Int)) (hn : n + 4 ≤ 300) : sC mX7_four d [.ref 384, .int (iZ v)] (ms (sRw σ 388 B) A F) (fun r σ' => r = none ∧ σ' = ms (sRw σ 388 (mFr B n v)) A (va_up F 4 ((n : Int) + 4))) := by
  refine sC_of rfl (Nat.le_of_ble_eq_true rfl) ?_
  show sE g_tt _ _ _ 0 [some (.ref 384), some (.int (iZ v)), none] [] (ms (sRw σ 388 B) A F)
  refine z_bipush dX7_four_0 (by decide +kernel) ?_
  refine q_istore_n dX7_four_2 rfl (by decide) ?_
  show sE g_tt _ _ _ 3 [some (.ref 384), some (.int (iZ v)), some (.int (iZ 24))] [] (ms (sRw σ 388 B) A F)
  refine q_iload_n dX7_four_3 rfl rfl ?_
  refine z_if_lt (tgt := 39) dX7_four_4 (by decide) (by unfold inR at *; omega) (fun c_1 => ?_) (fun c_1 => ?_)
  · exfalso
    revert c_1
    decide
  · refine q_aload_n dX7_four_7 rfl rfl ?_
    refine sg7 (kf := 3) (v := .ref 388) dX7_four_8 flX7_19 (show kd 384 = 7 from rfl) (by decide) rfl ?_
    refine q_aload_n dX7_four_11 rfl rfl ?_
    refine sg7 (kf := 4) (v := .int (iZ (n : Int))) dX7_four_12 flX7_74 (show kd 384 = 7 from rfl) (by decide) (by show some (Value.int (iZ (F 4))) = _; rw [h4]) ?_
    refine q_iload_n dX7_four_15 rfl rfl ?_
    refine q_iload_n dX7_four_16 rfl rfl ?_
    refine z_ishr (x := v) (k := 24) dX7_four_17 (by omega) (by unfold inR at *; omega) ?_
    refine z_sipush dX7_four_18 (by decide +kernel) ?_
    refine z_and255 dX7_four_21 ?_
    refine mr_st (b := 388) (n := 300) (k := n) dX7_four_22 (show kd 388 = 100 + 300 from rfl) (by decide) (by omega) (by omega) (by decide) (by omega) ?_
    refine q_aload_n dX7_four_23 rfl rfl ?_
    refine q_dup dX7_four_24 rfl ?_
    refine sg7 (kf := 4) (v := .int (iZ (n : Int))) dX7_four_25 flX7_74 (show kd 384 = 7 from rfl) (by decide) (by show some (Value.int (iZ (F 4))) = _; rw [h4]) ?_
    refine z_iconst dX7_four_28 ?_
    refine z_iadd dX7_four_29 ?_
    refine mp (kf := 4) dX7_four_30 flX7_74 (by decide) ?_
    refine z_iinc dX7_four_33 rfl (by decide) ?_
    show sE g_tt _ _ _ 36 [some (.ref 384), some (.int (iZ v)), some (.int (iZ 16))] [] (ms (sRw σ 388 (va_up B n ((v / 2 ^ 24) % 256))) A (va_up F 4 ((n : Int) + 1)))
    refine q_goto (tgt := 3) dX7_four_36 (by decide) ?_
    refine q_iload_n dX7_four_3 rfl rfl ?_
    refine z_if_lt (tgt := 39) dX7_four_4 (by decide) (by unfold inR at *; omega) (fun c_2 => ?_) (fun c_2 => ?_)
    · exfalso
      revert c_2
      decide
    · refine q_aload_n dX7_four_7 rfl rfl ?_
      refine sg7 (kf := 3) (v := .ref 388) dX7_four_8 flX7_19 (show kd 384 = 7 from rfl) (by decide) rfl ?_
      refine q_aload_n dX7_four_11 rfl rfl ?_
      refine sg7 (kf := 4) (v := .int (iZ ((n : Int) + 1))) dX7_four_12 flX7_74 (show kd 384 = 7 from rfl) (by decide) rfl ?_
      refine q_iload_n dX7_four_15 rfl rfl ?_
      refine q_iload_n dX7_four_16 rfl rfl ?_
      refine z_ishr (x := v) (k := 16) dX7_four_17 (by omega) (by unfold inR at *; omega) ?_
      refine z_sipush dX7_four_18 (by decide +kernel) ?_
      refine z_and255 dX7_four_21 ?_
      refine mr_st (b := 388) (n := 300) (k := n + 1) dX7_four_22 (show kd 388 = 100 + 300 from rfl) (by decide) (by omega) (by omega) (by decide) (by omega) ?_
      refine q_aload_n dX7_four_23 rfl rfl ?_
      refine q_dup dX7_four_24 rfl ?_
      refine sg7 (kf := 4) (v := .int (iZ ((n : Int) + 1))) dX7_four_25 flX7_74 (show kd 384 = 7 from rfl) (by decide) rfl ?_
      refine z_iconst dX7_four_28 ?_
      refine z_iadd dX7_four_29 ?_
      refine mp (kf := 4) dX7_four_30 flX7_74 (by decide) ?_
      refine z_iinc dX7_four_33 rfl (by decide) ?_
      show sE g_tt _ _ _ 36 [some (.ref 384), some (.int (iZ v)), some (.int (iZ 8))] [] (ms (sRw σ 388 (va_up (va_up B n ((v / 2 ^ 24) % 256)) (n + 1) ((v / 2 ^ 16) % 256))) A (va_up (va_up F 4 ((n : Int) + 1)) 4 (((n : Int) + 1) + 1)))
      refine q_goto (tgt := 3) dX7_four_36 (by decide) ?_
      refine q_iload_n dX7_four_3 rfl rfl ?_
      refine z_if_lt (tgt := 39) dX7_four_4 (by decide) (by unfold inR at *; omega) (fun c_3 => ?_) (fun c_3 => ?_)
      · exfalso
        revert c_3
        decide
      · refine q_aload_n dX7_four_7 rfl rfl ?_
        refine sg7 (kf := 3) (v := .ref 388) dX7_four_8 flX7_19 (show kd 384 = 7 from rfl) (by decide) rfl ?_
        refine q_aload_n dX7_four_11 rfl rfl ?_
        refine sg7 (kf := 4) (v := .int (iZ (((n : Int) + 1) + 1))) dX7_four_12 flX7_74 (show kd 384 = 7 from rfl) (by decide) rfl ?_
        refine q_iload_n dX7_four_15 rfl rfl ?_
        refine q_iload_n dX7_four_16 rfl rfl ?_
        refine z_ishr (x := v) (k := 8) dX7_four_17 (by omega) (by unfold inR at *; omega) ?_
        refine z_sipush dX7_four_18 (by decide +kernel) ?_
        refine z_and255 dX7_four_21 ?_
        refine mr_st (b := 388) (n := 300) (k := n + 2) dX7_four_22 (show kd 388 = 100 + 300 from rfl) (by decide) (by omega) (by omega) (by decide) (by omega) ?_
        refine q_aload_n dX7_four_23 rfl rfl ?_
        refine q_dup dX7_four_24 rfl ?_
        refine sg7 (kf := 4) (v := .int (iZ (((n : Int) + 1) + 1))) dX7_four_25 flX7_74 (show kd 384 = 7 from rfl) (by decide) rfl ?_
        refine z_iconst dX7_four_28 ?_
        refine z_iadd dX7_four_29 ?_
        refine mp (kf := 4) dX7_four_30 flX7_74 (by decide) ?_
        refine z_iinc dX7_four_33 rfl (by decide) ?_
        show sE g_tt _ _ _ 36 [some (.ref 384), some (.int (iZ v)), some (.int (iZ 0))] [] (ms (sRw σ 388 (va_up (va_up (va_up B n ((v / 2 ^ 24) % 256)) (n + 1) ((v / 2 ^ 16) % 256)) (n + 2) ((v / 2 ^ 8) % 256))) A (va_up (va_up (va_up F 4 ((n : Int) + 1)) 4 (((n : Int) + 1) + 1)) 4 ((((n : Int) + 1) + 1) + 1)))
        refine q_goto (tgt := 3) dX7_four_36 (by decide) ?_
        refine q_iload_n dX7_four_3 rfl rfl ?_
        refine z_if_lt (tgt := 39) dX7_four_4 (by decide) (by unfold inR at *; omega) (fun c_4 => ?_) (fun c_4 => ?_)
        · exfalso
          revert c_4
          decide
        · refine q_aload_n dX7_four_7 rfl rfl ?_
          refine sg7 (kf := 3) (v := .ref 388) dX7_four_8 flX7_19 (show kd 384 = 7 from rfl) (by decide) rfl ?_
          refine q_aload_n dX7_four_11 rfl rfl ?_
          refine sg7 (kf := 4) (v := .int (iZ ((((n : Int) + 1) + 1) + 1))) dX7_four_12 flX7_74 (show kd 384 = 7 from rfl) (by decide) rfl ?_
          refine q_iload_n dX7_four_15 rfl rfl ?_
          refine q_iload_n dX7_four_16 rfl rfl ?_
          refine z_ishr (x := v) (k := 0) dX7_four_17 (by omega) (by unfold inR at *; omega) ?_
          refine z_sipush dX7_four_18 (by decide +kernel) ?_
          refine z_and255 dX7_four_21 ?_
          refine mr_st (b := 388) (n := 300) (k := n + 3) dX7_four_22 (show kd 388 = 100 + 300 from rfl) (by decide) (by omega) (by omega) (by decide) (by omega) ?_
          refine q_aload_n dX7_four_23 rfl rfl ?_
          refine q_dup dX7_four_24 rfl ?_
          refine sg7 (kf := 4) (v := .int (iZ ((((n : Int) + 1) + 1) + 1))) dX7_four_25 flX7_74 (show kd 384 = 7 from rfl) (by decide) rfl ?_
          refine z_iconst dX7_four_28 ?_
          refine z_iadd dX7_four_29 ?_
          refine mp (kf := 4) dX7_four_30 flX7_74 (by decide) ?_
          refine z_iinc dX7_four_33 rfl (by decide) ?_
          show sE g_tt _ _ _ 36 [some (.ref 384), some (.int (iZ v)), some (.int (iZ (-8)))] [] (ms (sRw σ 388 (va_up (va_up (va_up (va_up B n ((v / 2 ^ 24) % 256)) (n + 1) ((v / 2 ^ 16) % 256)) (n + 2) ((v / 2 ^ 8) % 256)) (n + 3) ((v / 2 ^ 0) % 256))) A (va_up (va_up (va_up (va_up F 4 ((n : Int) + 1)) 4 (((n : Int) + 1) + 1)) 4 ((((n : Int) + 1) + 1) + 1)) 4 (((((n : Int) + 1) + 1) + 1) + 1)))
          refine q_goto (tgt := 3) dX7_four_36 (by decide) ?_
          refine q_iload_n dX7_four_3 rfl rfl ?_
          refine z_if_lt (tgt := 39) dX7_four_4 (by decide) (by unfold inR at *; omega) (fun c_5 => ?_) (fun c_5 => ?_)
          · exact s_vret dX7_four_39 rfl ⟨rfl, by unfold mFr; simp only [bx_uu]; rw [show (n : Int) + 1 + 1 + 1 + 1 = (n : Int) + 4 by omega]⟩
          · exfalso
            revert c_5
            decide
/-- five ints fed at n -/
def mFd (B : Nat → Int) (n : Nat) (v1 v2 v3 v4 v5 : Int) : Nat → Int := mFr (mFr (mFr (mFr (mFr B n v1) (n + 4) v2) (n + 8) v3) (n + 12) v4) (n + 16) v5
set_option maxHeartbeats 4000000 in
set_option maxRecDepth 100000 in
theorem m_feed {d n : Nat} (hd : 1 ≤ d) {v1 v2 v3 v4 v5 : Int} (hv1 : inR v1) (hv2 : inR v2) (hv3 : inR v3) (hv4 : inR v4) (hv5 : inR v5) (σ : gS) (A F B : Nat → Int) (h4 : F 4 = (n : Int)) (hn : n ≤ 300) : sC mX7_feed d [.ref 384, .int (iZ v1), .int (iZ v2), .int (iZ v3), .int (iZ v4), .int (iZ v5)] (ms (sRw σ 388 B) A F) (fun r σ' => r = some (.int (iZ (if (n : Int) + 20 ≤ 300 then (n : Int) + 20 else -1))) ∧ σ' = ms (sRw σ 388 (if (n : Int) + 20 ≤ 300 then mFd B n v1 v2 v3 v4 v5 else B)) A (if (n : Int) + 20 ≤ 300 then va_up F 4 ((n : Int) + 20) else F)) := by
  refine sC_of rfl (Nat.le_of_ble_eq_true rfl) ?_
  show sE g_tt _ _ _ 0 [some (.ref 384), some (.int (iZ v1)), some (.int (iZ v2)), some (.int (iZ v3)), some (.int (iZ v4)), some (.int (iZ v5))] [] (ms (sRw σ 388 B) A F)
  refine q_aload_n dX7_feed_0 rfl rfl ?_
  refine sg7 (kf := 4) (v := .int (iZ (n : Int))) dX7_feed_1 flX7_74 (show kd 384 = 7 from rfl) (by decide) (by show some (Value.int (iZ (F 4))) = _; rw [h4]) ?_
  refine z_bipush dX7_feed_4 (by decide +kernel) ?_
  refine z_iadd dX7_feed_6 ?_
  refine z_sipush dX7_feed_7 (by decide +kernel) ?_
  refine z_icmp_le (tgt := 15) dX7_feed_10 (by decide) (by unfold inR at *; omega) (by unfold inR at *; omega) (fun c_1 => ?_) (fun c_1 => ?_)
  · refine q_aload_n dX7_feed_15 rfl rfl ?_
    refine q_iload_n dX7_feed_16 rfl rfl ?_
    refine s_callV (ci := 7) (a := 384) (As := [.int (iZ v1)]) (S := []) dX7_feed_17 okX7_four mlX7_77 rfl (by omega) rfl (Nat.le_of_ble_eq_true rfl) (show kd 384 = 7 from rfl) (by decide) rfl (m_four (d := d - 1) (n := n) (v := v1) hv1 σ A F B h4 (by omega)) (fun v_ σ_ hq => ?_)
    obtain ⟨rfl, e9⟩ := hq
    have e9 := e9.symm
    subst e9
    show sE g_tt _ _ _ 20 [some (.ref 384), some (.int (iZ v1)), some (.int (iZ v2)), some (.int (iZ v3)), some (.int (iZ v4)), some (.int (iZ v5))] [] (ms (sRw σ 388 (mFr B n v1)) A (va_up F 4 ((n : Int) + 4)))
    refine q_aload_n dX7_feed_20 rfl rfl ?_
    refine q_iload_n dX7_feed_21 rfl rfl ?_
    refine s_callV (ci := 7) (a := 384) (As := [.int (iZ v2)]) (S := []) dX7_feed_22 okX7_four mlX7_77 rfl (by omega) rfl (Nat.le_of_ble_eq_true rfl) (show kd 384 = 7 from rfl) (by decide) rfl (m_four (d := d - 1) (n := (n + 4)) (v := v2) hv2 σ A (va_up F 4 ((n : Int) + 4)) (mFr B n v1) (by rw [va_up_self]; omega) (by omega)) (fun v_ σ_ hq => ?_)
    obtain ⟨rfl, e9⟩ := hq
    have e9 := e9.symm
    subst e9
    rw [bx_uu, show (((n + 4) : Nat) : Int) + 4 = (n : Int) + 8 by omega]
    show sE g_tt _ _ _ 25 [some (.ref 384), some (.int (iZ v1)), some (.int (iZ v2)), some (.int (iZ v3)), some (.int (iZ v4)), some (.int (iZ v5))] [] (ms (sRw σ 388 (mFr (mFr B n v1) (n + 4) v2)) A (va_up F 4 ((n : Int) + 8)))
    refine q_aload_n dX7_feed_25 rfl rfl ?_
    refine q_iload_n dX7_feed_26 rfl rfl ?_
    refine s_callV (ci := 7) (a := 384) (As := [.int (iZ v3)]) (S := []) dX7_feed_27 okX7_four mlX7_77 rfl (by omega) rfl (Nat.le_of_ble_eq_true rfl) (show kd 384 = 7 from rfl) (by decide) rfl (m_four (d := d - 1) (n := (n + 8)) (v := v3) hv3 σ A (va_up F 4 ((n : Int) + 8)) (mFr (mFr B n v1) (n + 4) v2) (by rw [va_up_self]; omega) (by omega)) (fun v_ σ_ hq => ?_)
    obtain ⟨rfl, e9⟩ := hq
    have e9 := e9.symm
    subst e9
    rw [bx_uu, show (((n + 8) : Nat) : Int) + 4 = (n : Int) + 12 by omega]
    show sE g_tt _ _ _ 30 [some (.ref 384), some (.int (iZ v1)), some (.int (iZ v2)), some (.int (iZ v3)), some (.int (iZ v4)), some (.int (iZ v5))] [] (ms (sRw σ 388 (mFr (mFr (mFr B n v1) (n + 4) v2) (n + 8) v3)) A (va_up F 4 ((n : Int) + 12)))
    refine q_aload_n dX7_feed_30 rfl rfl ?_
    refine q_iload dX7_feed_31 rfl ?_
    refine s_callV (ci := 7) (a := 384) (As := [.int (iZ v4)]) (S := []) dX7_feed_33 okX7_four mlX7_77 rfl (by omega) rfl (Nat.le_of_ble_eq_true rfl) (show kd 384 = 7 from rfl) (by decide) rfl (m_four (d := d - 1) (n := (n + 12)) (v := v4) hv4 σ A (va_up F 4 ((n : Int) + 12)) (mFr (mFr (mFr B n v1) (n + 4) v2) (n + 8) v3) (by rw [va_up_self]; omega) (by omega)) (fun v_ σ_ hq => ?_)
    obtain ⟨rfl, e9⟩ := hq
    have e9 := e9.symm
    subst e9
    rw [bx_uu, show (((n + 12) : Nat) : Int) + 4 = (n : Int) + 16 by omega]
    show sE g_tt _ _ _ 36 [some (.ref 384), some (.int (iZ v1)), some (.int (iZ v2)), some (.int (iZ v3)), some (.int (iZ v4)), some (.int (iZ v5))] [] (ms (sRw σ 388 (mFr (mFr (mFr (mFr B n v1) (n + 4) v2) (n + 8) v3) (n + 12) v4)) A (va_up F 4 ((n : Int) + 16)))
    refine q_aload_n dX7_feed_36 rfl rfl ?_
    refine q_iload dX7_feed_37 rfl ?_
    refine s_callV (ci := 7) (a := 384) (As := [.int (iZ v5)]) (S := []) dX7_feed_39 okX7_four mlX7_77 rfl (by omega) rfl (Nat.le_of_ble_eq_true rfl) (show kd 384 = 7 from rfl) (by decide) rfl (m_four (d := d - 1) (n := (n + 16)) (v := v5) hv5 σ A (va_up F 4 ((n : Int) + 16)) (mFr (mFr (mFr (mFr B n v1) (n + 4) v2) (n + 8) v3) (n + 12) v4) (by rw [va_up_self]; omega) (by omega)) (fun v_ σ_ hq => ?_)
    obtain ⟨rfl, e9⟩ := hq
    have e9 := e9.symm
    subst e9
    rw [bx_uu, show (((n + 16) : Nat) : Int) + 4 = (n : Int) + 20 by omega]
    show sE g_tt _ _ _ 42 [some (.ref 384), some (.int (iZ v1)), some (.int (iZ v2)), some (.int (iZ v3)), some (.int (iZ v4)), some (.int (iZ v5))] [] (ms (sRw σ 388 (mFr (mFr (mFr (mFr (mFr B n v1) (n + 4) v2) (n + 8) v3) (n + 12) v4) (n + 16) v5)) A (va_up F 4 ((n : Int) + 20)))
    refine q_aload_n dX7_feed_42 rfl rfl ?_
    refine sg7 (kf := 4) (v := .int (iZ ((n : Int) + 20))) dX7_feed_43 flX7_74 (show kd 384 = 7 from rfl) (by decide) rfl ?_
    exact s_iretZ dX7_feed_46 rfl ⟨by congr 3; (repeat (first | rw [if_pos (by omega)] | rw [if_neg (by omega)])), by (repeat (first | rw [if_pos (by omega)] | rw [if_neg (by omega)])); (try rfl)⟩
  · refine z_iconst dX7_feed_13 ?_
    exact s_iretZ dX7_feed_14 rfl ⟨by congr 3; (repeat (first | rw [if_pos (by omega)] | rw [if_neg (by omega)])), by (repeat (first | rw [if_pos (by omega)] | rw [if_neg (by omega)])); (try rfl)⟩
/-- clauses k .. of text tx played (f of them): which could not be done, row and fields -/
noncomputable def mPlay (W V : wF) (T : Nat → Int) (tx : Nat) : Nat → Nat → (Nat → Int) → (Nat → Int) → Int × (Nat → Int) × (Nat → Int)
  | 0, _, A, F => (-1, A, F)
  | f + 1, k, A, F => if (mAct W V (T (681 * tx + 1 + 3 * k)) (T (681 * tx + 1 + 3 * k + 1)) (T (681 * tx + 1 + 3 * k + 2)) A F).1 = 0 then ((k : Int), (mAct W V (T (681 * tx + 1 + 3 * k)) (T (681 * tx + 1 + 3 * k + 1)) (T (681 * tx + 1 + 3 * k + 2)) A F).2) else mPlay W V T tx f (k + 1) (mAct W V (T (681 * tx + 1 + 3 * k)) (T (681 * tx + 1 + 3 * k + 1)) (T (681 * tx + 1 + 3 * k + 2)) A F).2.1 (mAct W V (T (681 * tx + 1 + 3 * k)) (T (681 * tx + 1 + 3 * k + 1)) (T (681 * tx + 1 + 3 * k + 2)) A F).2.2
set_option maxHeartbeats 4000000 in
set_option maxRecDepth 100000 in
theorem lp_played {d tx N : Nat} (hd : 11 ≤ d) (σ : gS) (T : Nat → Int) (hT : σ.2.1 387 = T) {W V : wF} {nt : Int} (hW : wOK T 100000 nt W) (hV : vOK T 100000 nt V) (htx : tx < 4) (hN : T (681 * tx) = (N : Int)) (hN24 : N ≤ 24) (hcl : ∀ k, k < N → clV (T (681 * tx + 1 + 3 * k)) (T (681 * tx + 1 + 3 * k + 1)) (T (681 * tx + 1 + 3 * k + 2))) : ∀ (n : Nat) (A F : Nat → Int) (k : Nat) (σ1 : gS) (c : Int), gd c nt A → 80 ≤ c → c + 40 * ((N : Int) - (k : Int)) ≤ 90000 → 0 ≤ A 3 → A 3 ≤ 30 → inR (F 23) → 0 ≤ F 26 → eqS σ σ1 → k ≤ N → (N : Int) - (k : Int) < (n : Int) → sE g_tt mX7_played d (fun r σ' => r = some (.int (iZ ((mPlay W V T tx (N - k) k A F).1))) ∧ ∃ σ2, σ' = ms σ2 (mPlay W V T tx (N - k) k A F).2.1 (mPlay W V T tx (N - k) k A F).2.2 ∧ eqS σ σ2) 21 [some (.ref 384), some (.int (iZ (tx : Int))), some (.int (iZ (k : Int)))] [] (ms σ1 A F) := by
  intro n
  induction n with
  | zero =>
    intro A F k σ1 c g hc hc9 h3 h30 h23 h26 hE1 hk hn
    exact absurd hn (by omega)
  | succ n ih =>
    intro A F k σ1 c g hc hc9 h3 h30 h23 h26 hE1 hk hn
    have e3 : σ1.2.1 387 = T := (hE1.2.1 387 (by decide) (by decide)).trans hT
    by_cases hkN : k < N
    · have hcl9 := hcl k hkN
      have hok := mAct_ok hW hV hcl9 (F := F) g hc (by omega) h3 h30 h26
      refine q_iload_n dX7_played_21 rfl rfl ?_
      refine q_aload_n dX7_played_22 rfl rfl ?_
      refine sg7 (kf := 2) (v := .ref 387) dX7_played_23 flX7_16 (show kd 384 = 7 from rfl) (by decide) rfl ?_
      refine z_sipush dX7_played_26 (by decide +kernel) ?_
      refine q_iload_n dX7_played_29 rfl rfl ?_
      refine z_imul dX7_played_30 ?_
      refine s_iald (n := 2724) (x := (N : Int)) dX7_played_31 (show kd 387 = 100 + 2724 from rfl) (by omega) (by omega) (by decide) (by show σ1.2.1 387 _ = _; rw [e3, show ((681 : Int) * (tx : Int)).toNat = 681 * tx by omega]; exact hN) ?_
      refine z_icmp_ge (tgt := 61) dX7_played_32 (by decide) (by unfold inR at *; omega) (by unfold inR at *; omega) (fun c_1 => ?_) (fun c_1 => ?_)
      · refine z_iconst dX7_played_61 ?_
        exact s_iretZ dX7_played_62 rfl ⟨by rw [show N - k = 0 by omega, mPlay], σ1, by rw [show N - k = 0 by omega, mPlay], hE1⟩
      · refine q_aload_n dX7_played_35 rfl rfl ?_
        refine z_sipush dX7_played_36 (by decide +kernel) ?_
        refine q_iload_n dX7_played_39 rfl rfl ?_
        refine z_imul dX7_played_40 ?_
        refine z_iconst dX7_played_41 ?_
        refine z_iadd dX7_played_42 ?_
        refine z_iconst dX7_played_43 ?_
        refine q_iload_n dX7_played_44 rfl rfl ?_
        refine z_imul dX7_played_45 ?_
        refine z_iadd dX7_played_46 ?_
        refine z_top (y := ((681 * tx + 1 + 3 * k : Nat) : Int)) (by omega) ?_
        refine s_callV (ci := 7) (a := 384) (As := [.int (iZ ((681 * tx + 1 + 3 * k : Nat) : Int))]) (S := []) dX7_played_47 okX7_isPlayed mlX7_361 rfl (by omega) rfl (Nat.le_of_ble_eq_true rfl) (show kd 384 = 7 from rfl) (by decide) rfl (m_isPlayed (d := d - 1) (x := 681 * tx + 1 + 3 * k) (by omega) (by omega) σ1 A F (W := W) (V := V) (nt := nt) (by rw [e3]; exact hW) (by rw [e3]; exact hV) (congrFun e3 _) (congrFun e3 _) (congrFun e3 _) hcl9 (gd_mono g (by omega)) h3 h30 h23 h26) (fun v_ σ_ hq => ?_)
        obtain ⟨rfl, σ2, e9, hE2⟩ := hq
        subst e9
        show sE g_tt _ _ _ 50 [some (.ref 384), some (.int (iZ (tx : Int))), some (.int (iZ (k : Int)))] [.int (iZ ((mAct W V (T (681 * tx + 1 + 3 * k)) (T (681 * tx + 1 + 3 * k + 1)) (T (681 * tx + 1 + 3 * k + 2)) A F).1))] (ms σ2 ((mAct W V (T (681 * tx + 1 + 3 * k)) (T (681 * tx + 1 + 3 * k + 1)) (T (681 * tx + 1 + 3 * k + 2)) A F).2.1) ((mAct W V (T (681 * tx + 1 + 3 * k)) (T (681 * tx + 1 + 3 * k + 1)) (T (681 * tx + 1 + 3 * k + 2)) A F).2.2))
        refine z_if_ne (tgt := 55) dX7_played_50 (by decide) (by rcases hok.2.2.2 with e | e <;> rw [e] <;> unfold inR <;> decide) (fun c_2 => ?_) (fun c_2 => ?_)
        · refine z_iinc dX7_played_55 rfl (by decide) ?_
          show sE g_tt _ _ _ 58 [some (.ref 384), some (.int (iZ (tx : Int))), some (.int (iZ ((k : Int) + 1)))] [] (ms σ2 ((mAct W V (T (681 * tx + 1 + 3 * k)) (T (681 * tx + 1 + 3 * k + 1)) (T (681 * tx + 1 + 3 * k + 2)) A F).2.1) ((mAct W V (T (681 * tx + 1 + 3 * k)) (T (681 * tx + 1 + 3 * k + 1)) (T (681 * tx + 1 + 3 * k + 2)) A F).2.2))
          refine q_goto (tgt := 21) dX7_played_58 (by decide) ?_
          have e : mPlay W V T tx (N - k) k A F = mPlay W V T tx (N - (k + 1)) (k + 1) (mAct W V (T (681 * tx + 1 + 3 * k)) (T (681 * tx + 1 + 3 * k + 1)) (T (681 * tx + 1 + 3 * k + 2)) A F).2.1 (mAct W V (T (681 * tx + 1 + 3 * k)) (T (681 * tx + 1 + 3 * k + 1)) (T (681 * tx + 1 + 3 * k + 2)) A F).2.2 := by rw [show N - k = (N - (k + 1)) + 1 by omega, mPlay, if_neg c_2]
          rw [e]
          exact ih (mAct W V (T (681 * tx + 1 + 3 * k)) (T (681 * tx + 1 + 3 * k + 1)) (T (681 * tx + 1 + 3 * k + 2)) A F).2.1 (mAct W V (T (681 * tx + 1 + 3 * k)) (T (681 * tx + 1 + 3 * k + 1)) (T (681 * tx + 1 + 3 * k + 2)) A F).2.2 (k + 1) σ2 (c + 40) hok.1 (by omega) (by omega) hok.2.1.1 hok.2.1.2 (by rw [hok.2.2.1.1 23 (by decide) (by decide) (by decide) (by decide) (by decide) (by decide) (by decide)]; exact h23) hok.2.2.1.2 (eqS_tr hE1 hE2) (by omega) (by omega)
        · refine q_iload_n dX7_played_53 rfl rfl ?_
          exact s_iretZ dX7_played_54 rfl ⟨by rw [show N - k = (N - (k + 1)) + 1 by omega, mPlay, if_pos c_2], σ2, by rw [show N - k = (N - (k + 1)) + 1 by omega, mPlay, if_pos c_2], eqS_tr hE1 hE2⟩
    · skip
      refine q_iload_n dX7_played_21 rfl rfl ?_
      refine q_aload_n dX7_played_22 rfl rfl ?_
      refine sg7 (kf := 2) (v := .ref 387) dX7_played_23 flX7_16 (show kd 384 = 7 from rfl) (by decide) rfl ?_
      refine z_sipush dX7_played_26 (by decide +kernel) ?_
      refine q_iload_n dX7_played_29 rfl rfl ?_
      refine z_imul dX7_played_30 ?_
      refine s_iald (n := 2724) (x := (N : Int)) dX7_played_31 (show kd 387 = 100 + 2724 from rfl) (by omega) (by omega) (by decide) (by show σ1.2.1 387 _ = _; rw [e3, show ((681 : Int) * (tx : Int)).toNat = 681 * tx by omega]; exact hN) ?_
      refine z_icmp_ge (tgt := 61) dX7_played_32 (by decide) (by unfold inR at *; omega) (by unfold inR at *; omega) (fun c_1 => ?_) (fun c_1 => ?_)
      · refine z_iconst dX7_played_61 ?_
        exact s_iretZ dX7_played_62 rfl ⟨by rw [show N - k = 0 by omega, mPlay], σ1, by rw [show N - k = 0 by omega, mPlay], hE1⟩
      · exfalso
        omega
set_option maxHeartbeats 4000000 in
set_option maxRecDepth 100000 in
theorem m_played {d tx N : Nat} (hd : 11 ≤ d) (σ : gS) (A F : Nat → Int) (T : Nat → Int) (hT : σ.2.1 387 = T) {W V : wF} {nt : Int} (hW : wOK T 100000 nt W) (hV : vOK T 100000 nt V) (htx : tx < 4) (hN : T (681 * tx) = (N : Int)) (hN24 : N ≤ 24) (hcl : ∀ k, k < N → clV (T (681 * tx + 1 + 3 * k)) (T (681 * tx + 1 + 3 * k + 1)) (T (681 * tx + 1 + 3 * k + 2))) (htn : (tx : Int) < A 1) (h14 : A 1 ≤ 4) (g : gd 88000 nt A) (h3 : 0 ≤ A 3) (h30 : A 3 ≤ 30) (h23 : inR (F 23)) (h26 : 0 ≤ F 26) : sC mX7_played d [.ref 384, .int (iZ (tx : Int))] (ms σ A F) (fun r σ' => r = some (.int (iZ ((mPlay W V T tx N 0 A F).1))) ∧ ∃ σ2, σ' = ms σ2 (mPlay W V T tx N 0 A F).2.1 (mPlay W V T tx N 0 A F).2.2 ∧ eqS σ σ2) := by
  refine sC_of rfl (Nat.le_of_ble_eq_true rfl) ?_
  show sE g_tt _ _ _ 0 [some (.ref 384), some (.int (iZ (tx : Int))), none] [] (ms σ A F)
  refine q_iload_n dX7_played_0 rfl rfl ?_
  refine z_iconst dX7_played_1 ?_
  refine q_aload_n dX7_played_2 rfl rfl ?_
  refine sg7 (kf := 0) (v := .ref 385) dX7_played_3 flX7_7 (show kd 384 = 7 from rfl) (by decide) rfl ?_
  refine z_iconst dX7_played_6 ?_
  refine s_iald (n := 1583) (x := A 1) dX7_played_7 (show kd 385 = 100 + 1583 from rfl) (by omega) (by omega) (by decide) rfl ?_
  refine z_iconst dX7_played_8 ?_
  refine z_isub dX7_played_9 ?_
  refine s_callS (As := [.int (iZ (tx : Int)), .int (iZ 0), .int (iZ ((A 1) - 1))]) (S := []) dX7_played_10 okX7_isIn mlX7_66 rfl (by omega) rfl (Nat.le_of_ble_eq_true rfl) (m_isIn (d := d - 1) (v := (tx : Int)) (a := 0) (b := (A 1) - 1) (by unfold inR at *; omega) (by unfold inR at *; omega) (by unfold inR at *; omega) (ms σ A F)) (fun v_ σ_ hq => ?_)
  obtain ⟨rfl, e9⟩ := hq
  have e9 := e9.symm
  subst e9
  show sE g_tt _ _ _ 13 [some (.ref 384), some (.int (iZ (tx : Int))), none] [.int (iZ (if 0 ≤ (tx : Int) ∧ (tx : Int) ≤ (A 1) - 1 then 1 else 0))] (ms σ A F)
  refine z_if_ne (tgt := 19) dX7_played_13 (by decide) inR_01 (fun c_1 => ?_) (fun c_1 => ?_)
  · have c_1 := if01_1 c_1
    refine z_iconst dX7_played_19 ?_
    refine q_istore_n dX7_played_20 rfl (by decide) ?_
    show sE g_tt _ _ _ 21 [some (.ref 384), some (.int (iZ (tx : Int))), some (.int (iZ 0))] [] (ms σ A F)
    have k9 := lp_played (tx := tx) (N := N) hd σ T hT hW hV htx hN hN24 hcl 25 A F 0 σ 88000 g (by decide) (by omega) h3 h30 h23 h26 (eqS_rf σ) (by omega) (by omega)
    exact k9
  · have c_1 := if01_0 c_1
    exfalso
    omega
set_option maxHeartbeats 4000000 in
set_option maxRecDepth 100000 in
theorem m_played0 {d : Nat} (hd : 1 ≤ d) {t : Int} (ht : inR t) (σ : gS) (A F : Nat → Int) (h1 : 0 ≤ A 1) (h14 : A 1 ≤ 4) (hno : ¬ (0 ≤ t ∧ t < A 1)) : sC mX7_played d [.ref 384, .int (iZ t)] (ms σ A F) (fun r σ' => r = some (.int (iZ (-2))) ∧ σ' = ms σ A F) := by
  refine sC_of rfl (Nat.le_of_ble_eq_true rfl) ?_
  show sE g_tt _ _ _ 0 [some (.ref 384), some (.int (iZ t)), none] [] (ms σ A F)
  refine q_iload_n dX7_played_0 rfl rfl ?_
  refine z_iconst dX7_played_1 ?_
  refine q_aload_n dX7_played_2 rfl rfl ?_
  refine sg7 (kf := 0) (v := .ref 385) dX7_played_3 flX7_7 (show kd 384 = 7 from rfl) (by decide) rfl ?_
  refine z_iconst dX7_played_6 ?_
  refine s_iald (n := 1583) (x := A 1) dX7_played_7 (show kd 385 = 100 + 1583 from rfl) (by omega) (by omega) (by decide) rfl ?_
  refine z_iconst dX7_played_8 ?_
  refine z_isub dX7_played_9 ?_
  refine s_callS (As := [.int (iZ t), .int (iZ 0), .int (iZ ((A 1) - 1))]) (S := []) dX7_played_10 okX7_isIn mlX7_66 rfl (by omega) rfl (Nat.le_of_ble_eq_true rfl) (m_isIn (d := d - 1) (v := t) (a := 0) (b := (A 1) - 1) (by unfold inR at *; omega) (by unfold inR at *; omega) (by unfold inR at *; omega) (ms σ A F)) (fun v_ σ_ hq => ?_)
  obtain ⟨rfl, e9⟩ := hq
  have e9 := e9.symm
  subst e9
  show sE g_tt _ _ _ 13 [some (.ref 384), some (.int (iZ t)), none] [.int (iZ (if 0 ≤ t ∧ t ≤ (A 1) - 1 then 1 else 0))] (ms σ A F)
  refine z_if_ne (tgt := 19) dX7_played_13 (by decide) inR_01 (fun c_1 => ?_) (fun c_1 => ?_)
  · have c_1 := if01_1 c_1
    exfalso
    omega
  · have c_1 := if01_0 c_1
    refine z_bipush dX7_played_16 (by decide +kernel) ?_
    exact s_iretZ dX7_played_18 rfl ⟨rfl, rfl⟩
