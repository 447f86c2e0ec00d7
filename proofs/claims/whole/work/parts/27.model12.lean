theorem sE_eq {Y : gY} {M : gM} {d : Nat} {Q : Option Value → gS → Prop} {pc : Nat} {L : List (Option Value)} {S : List Value} {σ σ1 : gS} (e : σ1 = σ) (k : sE Y M d Q pc L S σ1) : sE Y M d Q pc L S σ := e ▸ k
/-- the end of a night: settled, the thankings noted, the night counted -/
noncomputable def mPE (W : wF) (D F : Nat → Int) : (Nat → Int) × (Nat → Int) := (va_up (va_up (mS W D F).2.1 9 ((mS W D F).1.length : Int)) 5 ((mS W D F).2.1 5 + 1), (mS W D F).2.2)
/-- gifts in house j -/
def mPD (V : wF) (C : Nat → Int) (j : Nat) : Nat → Int := if C (11 + j) < 99 then va_up C (11 + j) (if 99 < C (11 + j) + V (C 2) C j then 99 else C (11 + j) + V (C 2) C j) else C
/-- both draws of a night -/
def mPC (A : Nat → Int) : Nat → Int := va_up (va_up (va_up A 6 (mNew (A 6))) 7 (if (A 6).tmod 10 < 3 then 1 else 0)) 6 (mNew (mNew (A 6)))
def mPH (A : Nat → Int) : Nat := ((mNew (A 6)).tmod 8).toNat
/-- a night -/
noncomputable def mPass (W V : wF) (A F : Nat → Int) : (Nat → Int) × (Nat → Int) := mPE W (mPD V (mPC A) (mPH A)) F
theorem mPH_lt {c nt : Int} {A : Nat → Int} (g : gd c nt A) : mPH A < 8 := by
  have := tmod_ran (mNew_ran g.2.2.2.2.2.2.1.1).1 (show (0 : Int) < 8 by decide)
  unfold mPH
  omega
theorem gd_mPC {c nt : Int} {A : Nat → Int} (g : gd c nt A) : gd c nt (mPC A) := by
  have q := mNew_ran g.2.2.2.2.2.2.1.1
  exact gd_up (gd_up (gd_up g (Or.inl ⟨rfl, q⟩)) (Or.inr (Or.inl ⟨rfl, by split <;> decide⟩))) (Or.inl ⟨rfl, mNew_ran q.1⟩)
theorem gd_mPD {T : Nat → Int} {c nt : Int} {V : wF} (hV : vOK T c nt V) {C : Nat → Int} {c0 : Int} (g : gd c0 nt C) (hc : c0 + 9 ≤ c) {j : Nat} (hj : j < 8) : gd (c0 + 9) nt (mPD V C j) := by
  have v := hV C (C 2) (gd_mono g (by omega)) g.2.2.2.2.2.2.2.2.2.1 g.2.2.2.2.2.2.2.2.2.2 j hj
  have k := (kd_ran g hj)
  unfold mPD
  split
  · refine gd_kind g hj ?_ ?_
    · split <;> omega
    · split <;> omega
  · exact gd_mono g (by omega)
theorem gd_pass {T : Nat → Int} {W V : wF} {nt : Int} (hW : wOK T 100000 nt W) (hV : vOK T 100000 nt V) {A : Nat → Int} (g : gd 90000 nt A) (h5 : A 5 < 9999) (F : Nat → Int) : gd 80 nt (mPass W V A F).1 := by
  have g1 := gd_mono (gd_mPD hV (gd_mPC g) (by decide) (mPH_lt g)) (show (90000 : Int) + 9 ≤ 100000 by decide)
  have q := mS_ok (F := F) (Int.le_refl _) hW g1
  have r := gd_rest hW q.1 q.2.1
  have e5 : (mS W (mPD V (mPC A) (mPH A)) F).2.1 5 = A 5 := by
    rw [mS_lo hW g1 (by omega)]
    unfold mPD
    split
    · rw [va_up_ne _ _ (by omega)]; rfl
    · rfl
  have a5 := g.2.2.2.2.2.1
  refine gd_up (gd_up r.1 (Or.inr (Or.inr (Or.inl ⟨rfl, by omega, by have := q.2.2; omega⟩)))) (Or.inr (Or.inr (Or.inr (Or.inl ⟨rfl, by omega, by omega⟩))))
theorem mPass_o {T : Nat → Int} {W V : wF} {nt : Int} (hW : wOK T 100000 nt W) (hV : vOK T 100000 nt V) {A : Nat → Int} (g : gd 90000 nt A) (F : Nat → Int) {i : Nat} (hi : i < 5 ∨ (24 ≤ i ∧ i < 1553)) : (mPass W V A F).1 i = A i := by
  have g1 := gd_mono (gd_mPD hV (gd_mPC g) (by decide) (mPH_lt g)) (show (90000 : Int) + 9 ≤ 100000 by decide)
  have hj := mPH_lt g
  show va_up (va_up (mS W (mPD V (mPC A) (mPH A)) F).2.1 9 _) 5 _ i = A i
  rw [va_up_ne _ _ (by omega), va_up_ne _ _ (by omega), mS_lo hW g1 (by omega)]
  have e : mPC A i = A i := by unfold mPC; rw [va_up_ne _ _ (by omega), va_up_ne _ _ (by omega), va_up_ne _ _ (by omega)]
  unfold mPD
  split
  · rw [va_up_ne _ _ (by omega)]; exact e
  · exact e
theorem mPass_5 {T : Nat → Int} {W V : wF} {nt : Int} (hW : wOK T 100000 nt W) (hV : vOK T 100000 nt V) {A : Nat → Int} (g : gd 90000 nt A) (F : Nat → Int) : (mPass W V A F).1 5 = A 5 + 1 := by
  have g1 := gd_mono (gd_mPD hV (gd_mPC g) (by decide) (mPH_lt g)) (show (90000 : Int) + 9 ≤ 100000 by decide)
  show (mS W (mPD V (mPC A) (mPH A)) F).2.1 5 + 1 = _
  rw [mS_lo hW g1 (by omega)]
  unfold mPD
  split
  · rw [va_up_ne _ _ (by omega)]; rfl
  · rfl
theorem fS_pass {W V : wF} (A F : Nat → Int) : fS F (mPass W V A F).2 := fS_mS _ _
set_option maxHeartbeats 4000000 in
set_option maxRecDepth 100000 in
theorem tl_pass2 {d : Nat} (hd : 8 ≤ d) (σ : gS) {W : wF} {nt : Int} (hW : wOK (σ.2.1 387) 100000 nt W) (σ1 : gS) (hE1 : eqS σ σ1) (D F : Nat → Int) (g : gd 100000 nt D) (h23 : inR (F 23)) (l1 l2 : Option Value) : sE g_tt mX7_pass d (fun r σ' => r = none ∧ ∃ σ2, σ' = ms σ2 (mPE W D F).1 (mPE W D F).2 ∧ eqS σ σ2) 80 [some (.ref 384), l1, l2] [] (ms σ1 D F) := by
  refine q_aload_n dX7_pass_80 rfl rfl ?_
  refine sg7 (kf := 0) (v := .ref 385) dX7_pass_81 flX7_7 (show kd 384 = 7 from rfl) (by decide) rfl ?_
  refine z_bipush dX7_pass_84 (by decide +kernel) ?_
  refine q_aload_n dX7_pass_86 rfl rfl ?_
  refine s_callV (ci := 7) (a := 384) (As := []) (S := [.int (iZ 9), .ref 385]) dX7_pass_87 okX7_settleNow mlX7_331 rfl (by omega) rfl (Nat.le_of_ble_eq_true rfl) (show kd 384 = 7 from rfl) (by decide) rfl (m_settle (d := d - 1) (by omega) σ1 D F (Int.le_refl _) (by rw [hE1.2.1 387 (by decide) (by decide)]; exact hW) g h23) (fun v_ σ_ hq => ?_)
  obtain ⟨rfl, σ2, e9, hE2⟩ := hq
  subst e9
  show sE g_tt _ _ _ 90 [some (.ref 384), l1, l2] [.int (iZ ((mS W D F).1.length : Int)), .int (iZ 9), .ref 385] (ms σ2 ((mS W D F).2.1) ((mS W D F).2.2))
  refine ma_st dX7_pass_90 (by omega) (by omega) ?_
  refine q_aload_n dX7_pass_91 rfl rfl ?_
  refine sg7 (kf := 0) (v := .ref 385) dX7_pass_92 flX7_7 (show kd 384 = 7 from rfl) (by decide) rfl ?_
  refine z_iconst dX7_pass_95 ?_
  refine q_dup2 dX7_pass_96 rfl rfl ?_
  refine s_iald (n := 1583) (x := ((mS W D F).2.1) 5) dX7_pass_97 (show kd 385 = 100 + 1583 from rfl) (by omega) (by omega) (by decide) rfl ?_
  refine z_iconst dX7_pass_98 ?_
  refine z_iadd dX7_pass_99 ?_
  refine ma_st dX7_pass_100 (by omega) (by omega) ?_
  exact s_vret dX7_pass_101 rfl ⟨rfl, σ2, rfl, eqS_tr hE1 hE2⟩
set_option maxHeartbeats 4000000 in
set_option maxRecDepth 100000 in
theorem tl_pass {d : Nat} (hd : 8 ≤ d) (σ : gS) {W V : wF} {nt : Int} (hW : wOK (σ.2.1 387) 100000 nt W) (hV : vOK (σ.2.1 387) 100000 nt V) (C F : Nat → Int) (g : gd 90000 nt C) (h23 : inR (F 23)) {j : Nat} (hj : j < 8) : sE g_tt mX7_pass d (fun r σ' => r = none ∧ ∃ σ2, σ' = ms σ2 (mPE W (mPD V C j) F).1 (mPE W (mPD V C j) F).2 ∧ eqS σ σ2) 28 [some (.ref 384), none, none] [.int (iZ (j : Int))] (ms σ C F) := by
  have ok := okA_gd (F := va_up F 26 0) (by decide) ⟨g, h23, Int.le_refl 0⟩
  have vv := hV C (C 2) (gd_mono g (by decide)) g.2.2.2.2.2.2.2.2.2.1 g.2.2.2.2.2.2.2.2.2.2 j hj
  have kr := kd_ran g hj
  refine q_istore_n dX7_pass_28 rfl (by decide) ?_
  show sE g_tt _ _ _ 29 [some (.ref 384), some (.int (iZ (j : Int))), none] [] (ms σ C F)
  refine q_aload_n dX7_pass_29 rfl rfl ?_
  refine sg7 (kf := 0) (v := .ref 385) dX7_pass_30 flX7_7 (show kd 384 = 7 from rfl) (by decide) rfl ?_
  refine z_bipush dX7_pass_33 (by decide +kernel) ?_
  refine q_iload_n dX7_pass_35 rfl rfl ?_
  refine z_iadd dX7_pass_36 ?_
  refine s_iald (n := 1583) (x := C (11 + j)) dX7_pass_37 (show kd 385 = 100 + 1583 from rfl) (by omega) (by omega) (by decide) rfl ?_
  refine q_aload_n dX7_pass_38 rfl rfl ?_
  refine q_iload_n dX7_pass_39 rfl rfl ?_
  refine s_callV (ci := 7) (a := 384) (As := [.int (iZ (j : Int))]) (S := [.int (iZ (C (11 + j)))]) dX7_pass_40 okX7_giftsOf mlX7_328 rfl (by omega) rfl (Nat.le_of_ble_eq_true rfl) (show kd 384 = 7 from rfl) (by decide) rfl (m_giftsOf (d := d - 1) (by omega) hj σ C F g.1.1 g.1.2 (fun p hp => by have := g.2.1 p hp; unfold inR; omega) ok.2.2.2.1 vv.1) (fun v_ σ_ hq => ?_)
  obtain ⟨rfl, σ1, e9, hE1⟩ := hq
  subst e9
  show sE g_tt _ _ _ 43 [some (.ref 384), some (.int (iZ (j : Int))), none] [.int (iZ (V (C 2) C j)), .int (iZ (C (11 + j)))] (ms σ1 C F)
  refine z_iadd dX7_pass_43 ?_
  refine q_istore_n dX7_pass_44 rfl (by decide) ?_
  show sE g_tt _ _ _ 45 [some (.ref 384), some (.int (iZ (j : Int))), some (.int (iZ ((C (11 + j)) + (V (C 2) C j))))] [] (ms σ1 C F)
  refine q_aload_n dX7_pass_45 rfl rfl ?_
  refine sg7 (kf := 0) (v := .ref 385) dX7_pass_46 flX7_7 (show kd 384 = 7 from rfl) (by decide) rfl ?_
  refine z_bipush dX7_pass_49 (by decide +kernel) ?_
  refine q_iload_n dX7_pass_51 rfl rfl ?_
  refine z_iadd dX7_pass_52 ?_
  refine s_iald (n := 1583) (x := C (11 + j)) dX7_pass_53 (show kd 385 = 100 + 1583 from rfl) (by omega) (by omega) (by decide) rfl ?_
  refine z_bipush dX7_pass_54 (by decide +kernel) ?_
  refine z_icmp_ge (tgt := 80) dX7_pass_56 (by decide) (by unfold inR at *; omega) (by unfold inR at *; omega) (fun c_1 => ?_) (fun c_1 => ?_)
  · have k9 := tl_pass2 hd σ hW σ1 hE1 (mPD V C j) F (gd_mono (gd_mPD hV g (by decide) hj) (by decide)) h23 (some (.int (iZ (j : Int)))) (some (.int (iZ (C (11 + j) + V (C 2) C j))))
    exact sE_eq (by unfold mPD; (repeat (first | rw [if_pos (by omega)] | rw [if_neg (by omega)])); (try rfl)) k9
  · refine q_aload_n dX7_pass_59 rfl rfl ?_
    refine sg7 (kf := 0) (v := .ref 385) dX7_pass_60 flX7_7 (show kd 384 = 7 from rfl) (by decide) rfl ?_
    refine z_bipush dX7_pass_63 (by decide +kernel) ?_
    refine q_iload_n dX7_pass_65 rfl rfl ?_
    refine z_iadd dX7_pass_66 ?_
    refine q_iload_n dX7_pass_67 rfl rfl ?_
    refine z_bipush dX7_pass_68 (by decide +kernel) ?_
    refine z_icmp_le (tgt := 78) dX7_pass_70 (by decide) (by unfold inR at *; omega) (by unfold inR at *; omega) (fun c_2 => ?_) (fun c_2 => ?_)
    · refine q_iload_n dX7_pass_78 rfl rfl ?_
      refine ma_st dX7_pass_79 (by omega) (by omega) ?_
      have k9 := tl_pass2 hd σ hW σ1 hE1 (mPD V C j) F (gd_mono (gd_mPD hV g (by decide) hj) (by decide)) h23 (some (.int (iZ (j : Int)))) (some (.int (iZ (C (11 + j) + V (C 2) C j))))
      exact sE_eq (by unfold mPD; (repeat (first | rw [if_pos (by omega)] | rw [if_neg (by omega)])); (try rfl)) k9
    · refine z_bipush dX7_pass_73 (by decide +kernel) ?_
      refine q_goto (tgt := 79) dX7_pass_75 (by decide) ?_
      refine ma_st dX7_pass_79 (by omega) (by omega) ?_
      have k9 := tl_pass2 hd σ hW σ1 hE1 (mPD V C j) F (gd_mono (gd_mPD hV g (by decide) hj) (by decide)) h23 (some (.int (iZ (j : Int)))) (some (.int (iZ (C (11 + j) + V (C 2) C j))))
      exact sE_eq (by unfold mPD; (repeat (first | rw [if_pos (by omega)] | rw [if_neg (by omega)])); (try rfl)) k9
set_option maxHeartbeats 4000000 in
set_option maxRecDepth 100000 in
theorem m_pass {d : Nat} (hd : 8 ≤ d) (σ : gS) (A F : Nat → Int) {W V : wF} {nt : Int} (hW : wOK (σ.2.1 387) 100000 nt W) (hV : vOK (σ.2.1 387) 100000 nt V) (g : gd 90000 nt A) (h23 : inR (F 23)) : sC mX7_pass d [.ref 384] (ms σ A F) (fun r σ' => r = none ∧ ∃ σ2, σ' = ms σ2 (mPass W V A F).1 (mPass W V A F).2 ∧ eqS σ σ2) := by
  have g6 := g.2.2.2.2.2.2.1
  have n6 := mNew_ran g6.1
  have t10 := tmod_ran g6.1 (show (0 : Int) < 10 by decide)
  have t8 := tmod_ran n6.1 (show (0 : Int) < 8 by decide)
  unfold mPass
  refine sC_of rfl (Nat.le_of_ble_eq_true rfl) ?_
  show sE g_tt _ _ _ 0 [some (.ref 384), none, none] [] (ms σ A F)
  refine q_aload_n dX7_pass_0 rfl rfl ?_
  refine sg7 (kf := 0) (v := .ref 385) dX7_pass_1 flX7_7 (show kd 384 = 7 from rfl) (by decide) rfl ?_
  refine z_bipush dX7_pass_4 (by decide +kernel) ?_
  refine q_aload_n dX7_pass_6 rfl rfl ?_
  refine z_bipush dX7_pass_7 (by decide +kernel) ?_
  refine s_callV (ci := 7) (a := 384) (As := [.int (iZ 10)]) (S := [.int (iZ 7), .ref 385]) dX7_pass_9 okX7_drawnBy mlX7_325 rfl (by omega) rfl (Nat.le_of_ble_eq_true rfl) (show kd 384 = 7 from rfl) (by decide) rfl (m_drawnBy (d := d - 1) (by omega) (m := 10) (by decide) (by unfold inR; decide) σ A F g6.1 g6.2) (fun v_ σ_ hq => ?_)
  obtain ⟨rfl, e9⟩ := hq
  have e9 := e9.symm
  subst e9
  show sE g_tt _ _ _ 12 [some (.ref 384), none, none] [.int (iZ ((A 6).tmod 10)), .int (iZ 7), .ref 385] (ms σ (va_up A 6 (mNew (A 6))) F)
  refine z_iconst dX7_pass_12 ?_
  refine z_icmp_ge (tgt := 20) dX7_pass_13 (by decide) (by unfold inR at *; omega) (by unfold inR at *; omega) (fun c_1 => ?_) (fun c_1 => ?_)
  · refine z_iconst dX7_pass_20 ?_
    refine ma_st dX7_pass_21 (by omega) (by omega) ?_
    refine q_aload_n dX7_pass_22 rfl rfl ?_
    refine z_bipush dX7_pass_23 (by decide +kernel) ?_
    refine s_callV (ci := 7) (a := 384) (As := [.int (iZ 8)]) (S := []) dX7_pass_25 okX7_drawnBy mlX7_325 rfl (by omega) rfl (Nat.le_of_ble_eq_true rfl) (show kd 384 = 7 from rfl) (by decide) rfl (m_drawnBy (d := d - 1) (by omega) (m := 8) (by decide) (by unfold inR; decide) σ (va_up (va_up A 6 (mNew (A 6))) 7 0) F n6.1 n6.2) (fun v_ σ_ hq => ?_)
    obtain ⟨rfl, e9⟩ := hq
    have e9 := e9.symm
    subst e9
    show sE g_tt _ _ _ 28 [some (.ref 384), none, none] [.int (iZ ((mNew (A 6)).tmod 8))] (ms σ (va_up (va_up (va_up A 6 (mNew (A 6))) 7 0) 6 (mNew (mNew (A 6)))) F)
    refine z_top (y := ((mPH A : Nat) : Int)) (by unfold mPH; omega) ?_
    have k9 := tl_pass hd σ hW hV (mPC A) F (gd_mPC g) h23 (mPH_lt g)
    exact sE_eq (by unfold mPC; (first | rw [if_pos (by omega)] | rw [if_neg (by omega)]); (try rfl)) k9
  · refine z_iconst dX7_pass_16 ?_
    refine q_goto (tgt := 21) dX7_pass_17 (by decide) ?_
    refine ma_st dX7_pass_21 (by omega) (by omega) ?_
    refine q_aload_n dX7_pass_22 rfl rfl ?_
    refine z_bipush dX7_pass_23 (by decide +kernel) ?_
    refine s_callV (ci := 7) (a := 384) (As := [.int (iZ 8)]) (S := []) dX7_pass_25 okX7_drawnBy mlX7_325 rfl (by omega) rfl (Nat.le_of_ble_eq_true rfl) (show kd 384 = 7 from rfl) (by decide) rfl (m_drawnBy (d := d - 1) (by omega) (m := 8) (by decide) (by unfold inR; decide) σ (va_up (va_up A 6 (mNew (A 6))) 7 1) F n6.1 n6.2) (fun v_ σ_ hq => ?_)
    obtain ⟨rfl, e9⟩ := hq
    have e9 := e9.symm
    subst e9
    show sE g_tt _ _ _ 28 [some (.ref 384), none, none] [.int (iZ ((mNew (A 6)).tmod 8))] (ms σ (va_up (va_up (va_up A 6 (mNew (A 6))) 7 1) 6 (mNew (mNew (A 6)))) F)
    refine z_top (y := ((mPH A : Nat) : Int)) (by unfold mPH; omega) ?_
    have k9 := tl_pass hd σ hW hV (mPC A) F (gd_mPC g) h23 (mPH_lt g)
    exact sE_eq (by unfold mPC; (first | rw [if_pos (by omega)] | rw [if_neg (by omega)]); (try rfl)) k9
set_option maxHeartbeats 4000000 in
set_option maxRecDepth 100000 in
theorem m_good {d : Nat} (hd : 3 ≤ d) {h n : Int} (hh : inR h) (hn : inR n) (σ : gS) (A F : Nat → Int) {nt : Int} (g : gd 90000 nt A) (h3 : 0 ≤ A 3) (h30 : A 3 ≤ 30) : sC mX7_good d [.ref 384, .int (iZ h), .int (iZ n)] (ms σ A F) (fun r σ' => r = some (.int (iZ (if 1 ≤ n ∧ n ≤ 20 ∧ (0 ≤ h ∧ h < 8) ∧ A (11 + h).toNat + n ≤ 99 then 1 else 0))) ∧ σ' = ms σ (if 1 ≤ n ∧ n ≤ 20 ∧ (0 ≤ h ∧ h < 8) ∧ A (11 + h).toNat + n ≤ 99 then va_up (mKeep A) (11 + h).toNat (mKeep A (11 + h).toNat + n) else A) F) := by
  refine sC_of rfl (Nat.le_of_ble_eq_true rfl) ?_
  show sE g_tt _ _ _ 0 [some (.ref 384), some (.int (iZ h)), some (.int (iZ n))] [] (ms σ A F)
  refine q_iload_n dX7_good_0 rfl rfl ?_
  refine z_iconst dX7_good_1 ?_
  refine z_bipush dX7_good_2 (by decide +kernel) ?_
  refine s_callS (As := [.int (iZ n), .int (iZ 1), .int (iZ 20)]) (S := []) dX7_good_4 okX7_isIn mlX7_66 rfl (by omega) rfl (Nat.le_of_ble_eq_true rfl) (m_isIn (d := d - 1) (v := n) (a := 1) (b := 20) (by unfold inR at *; omega) (by unfold inR at *; omega) (by unfold inR at *; omega) (ms σ A F)) (fun v_ σ_ hq => ?_)
  obtain ⟨rfl, e9⟩ := hq
  have e9 := e9.symm
  subst e9
  show sE g_tt _ _ _ 7 [some (.ref 384), some (.int (iZ h)), some (.int (iZ n))] [.int (iZ (if 1 ≤ n ∧ n ≤ 20 then 1 else 0))] (ms σ A F)
  refine z_if_eq (tgt := 19) dX7_good_7 (by decide) inR_01 (fun c_1 => ?_) (fun c_1 => ?_)
  · have c_1 := if01_0 c_1
    refine z_iconst dX7_good_19 ?_
    exact s_zret dX7_good_20 rfl (by omega) ⟨by first | (congr 3; (repeat (first | rw [if_pos (by omega)] | rw [if_neg (by omega)])); done) | (exfalso; omega), by (first | rfl | ((repeat (first | rw [if_pos (by omega)] | rw [if_neg (by omega)])); (try rfl)))⟩
  · have c_1 := if01_1 c_1
    refine q_aload_n dX7_good_10 rfl rfl ?_
    refine q_iload_n dX7_good_11 rfl rfl ?_
    refine q_iload_n dX7_good_12 rfl rfl ?_
    refine s_callV (ci := 7) (a := 384) (As := [.int (iZ h), .int (iZ n)]) (S := []) dX7_good_13 okX7_canGood mlX7_334 rfl (by omega) rfl (Nat.le_of_ble_eq_true rfl) (show kd 384 = 7 from rfl) (by decide) rfl (m_canGood (d := d - 1) (by omega) (h := h) (n := n) hh σ A F (fun q => by have k := kd_ran g (h := h.toNat) (by omega); rw [show 11 + h.toNat = (11 + h).toNat by omega] at k; unfold inR; omega)) (fun v_ σ_ hq => ?_)
    obtain ⟨rfl, e9⟩ := hq
    have e9 := e9.symm
    subst e9
    show sE g_tt _ _ _ 16 [some (.ref 384), some (.int (iZ h)), some (.int (iZ n))] [.int (iZ (if (0 ≤ h ∧ h < 8) ∧ A (11 + h).toNat + n ≤ 99 then 1 else 0))] (ms σ A F)
    refine z_if_ne (tgt := 21) dX7_good_16 (by decide) inR_01 (fun c_2 => ?_) (fun c_2 => ?_)
    · have c_2 := if01_1 c_2
      refine q_aload_n dX7_good_21 rfl rfl ?_
      refine s_callV (ci := 7) (a := 384) (As := []) (S := []) dX7_good_22 okX7_keep mlX7_337 rfl (by omega) rfl (Nat.le_of_ble_eq_true rfl) (show kd 384 = 7 from rfl) (by decide) rfl (m_keep (d := d - 1) σ A F h3 h30) (fun v_ σ_ hq => ?_)
      obtain ⟨rfl, e9⟩ := hq
      have e9 := e9.symm
      subst e9
      show sE g_tt _ _ _ 25 [some (.ref 384), some (.int (iZ h)), some (.int (iZ n))] [] (ms σ (mKeep A) F)
      refine q_aload_n dX7_good_25 rfl rfl ?_
      refine sg7 (kf := 0) (v := .ref 385) dX7_good_26 flX7_7 (show kd 384 = 7 from rfl) (by decide) rfl ?_
      refine z_bipush dX7_good_29 (by decide +kernel) ?_
      refine q_iload_n dX7_good_31 rfl rfl ?_
      refine z_iadd dX7_good_32 ?_
      refine q_dup2 dX7_good_33 rfl rfl ?_
      refine s_iald (n := 1583) (x := (mKeep A) ((11 + h).toNat)) dX7_good_34 (show kd 385 = 100 + 1583 from rfl) (by omega) (by omega) (by decide) rfl ?_
      refine q_iload_n dX7_good_35 rfl rfl ?_
      refine z_iadd dX7_good_36 ?_
      refine ma_st dX7_good_37 (by omega) (by omega) ?_
      refine z_iconst dX7_good_38 ?_
      exact s_zret dX7_good_39 rfl (by omega) ⟨by first | (congr 3; (repeat (first | rw [if_pos (by omega)] | rw [if_neg (by omega)])); done) | (exfalso; omega), by (first | rfl | ((repeat (first | rw [if_pos (by omega)] | rw [if_neg (by omega)])); (try rfl)))⟩
    · have c_2 := if01_0 c_2
      refine z_iconst dX7_good_19 ?_
      exact s_zret dX7_good_20 rfl (by omega) ⟨by first | (congr 3; (repeat (first | rw [if_pos (by omega)] | rw [if_neg (by omega)])); done) | (exfalso; omega), by (first | rfl | ((repeat (first | rw [if_pos (by omega)] | rw [if_neg (by omega)])); (try rfl)))⟩
set_option maxHeartbeats 4000000 in
set_option maxRecDepth 100000 in
theorem m_thank {d h : Nat} (hd : 6 ≤ d) (hh : h < 8) (σ : gS) (A F : Nat → Int) {W : wF} {nt : Int} (hW : wOK (σ.2.1 387) 100000 nt W) (g : gd 90000 nt A) (h3 : 0 ≤ A 3) (h30 : A 3 ≤ 30) (h23 : inR (F 23)) (h26 : 0 ≤ F 26) : sC mX7_thank d [.ref 384, .int (iZ (h : Int))] (ms σ A F) (fun r σ' => r = some (.int (iZ (if wA W A h + 2 ≤ A (11 + h) then 1 else 0))) ∧ ∃ σ2, σ' = ms σ2 (if wA W A h + 2 ≤ A (11 + h) then (mThank (mKeep A) F h).1 else A) (if wA W A h + 2 ≤ A (11 + h) then (mThank (mKeep A) F h).2 else F) ∧ eqS σ σ2) := by
  have ok := okA_gd (by decide) ⟨g, h23, h26⟩
  have ww := hW A (A 2) (gd_mono g (by decide)) g.2.2.2.2.2.2.2.2.2.1 g.2.2.2.2.2.2.2.2.2.2 h hh
  have ok2 := okA_gd (F := F) (by decide) ⟨gd_keep g h3 h30, h23, h26⟩
  refine sC_of rfl (Nat.le_of_ble_eq_true rfl) ?_
  show sE g_tt _ _ _ 0 [some (.ref 384), some (.int (iZ (h : Int)))] [] (ms σ A F)
  refine q_aload_n dX7_thank_0 rfl rfl ?_
  refine q_iload_n dX7_thank_1 rfl rfl ?_
  refine s_callV (ci := 7) (a := 384) (As := [.int (iZ (h : Int))]) (S := []) dX7_thank_2 okX7_canThank mlX7_316 rfl (by omega) rfl (Nat.le_of_ble_eq_true rfl) (show kd 384 = 7 from rfl) (by decide) rfl (m_canThank (d := d - 1) (by omega) hh σ A F ok.1 ok.2.1 ok.2.2.1 ok.2.2.2.1 ww.1 ww.2.1 ww.2.2) (fun v_ σ_ hq => ?_)
  obtain ⟨rfl, σ1, e9, hE1⟩ := hq
  subst e9
  show sE g_tt _ _ _ 5 [some (.ref 384), some (.int (iZ (h : Int)))] [.int (iZ (if wA W A h + 2 ≤ A (11 + h) then 1 else 0))] (ms σ1 A F)
  refine z_if_ne (tgt := 10) dX7_thank_5 (by decide) inR_01 (fun c_1 => ?_) (fun c_1 => ?_)
  · have c_1 := if01_1 c_1
    refine q_aload_n dX7_thank_10 rfl rfl ?_
    refine s_callV (ci := 7) (a := 384) (As := []) (S := []) dX7_thank_11 okX7_keep mlX7_337 rfl (by omega) rfl (Nat.le_of_ble_eq_true rfl) (show kd 384 = 7 from rfl) (by decide) rfl (m_keep (d := d - 1) σ1 A F h3 h30) (fun v_ σ_ hq => ?_)
    obtain ⟨rfl, e9⟩ := hq
    have e9 := e9.symm
    subst e9
    show sE g_tt _ _ _ 14 [some (.ref 384), some (.int (iZ (h : Int)))] [] (ms σ1 (mKeep A) F)
    refine q_aload_n dX7_thank_14 rfl rfl ?_
    refine q_iload_n dX7_thank_15 rfl rfl ?_
    refine s_callV (ci := 7) (a := 384) (As := [.int (iZ (h : Int))]) (S := []) dX7_thank_16 okX7_thankNow mlX7_322 rfl (by omega) rfl (Nat.le_of_ble_eq_true rfl) (show kd 384 = 7 from rfl) (by decide) rfl (m_thankNow (d := d - 1) (h := h) (by omega) hh σ1 (mKeep A) F ok2.1 ok2.2.1 ok2.2.2.1 ok2.2.2.2.2.1 ok2.2.2.2.2.2.1 ok2.2.2.2.2.2.2.1 ok2.2.2.2.2.2.2.2) (fun v_ σ_ hq => ?_)
    obtain ⟨rfl, e9⟩ := hq
    have e9 := e9.symm
    subst e9
    show sE g_tt _ _ _ 19 [some (.ref 384), some (.int (iZ (h : Int)))] [] (ms σ1 ((mThank (mKeep A) F h).1) ((mThank (mKeep A) F h).2))
    refine z_iconst dX7_thank_19 ?_
    exact s_zret dX7_thank_20 rfl (by omega) ⟨by congr 3; (repeat (first | rw [if_pos (by omega)] | rw [if_neg (by omega)])), σ1, by ((repeat (first | rw [if_pos (by omega)] | rw [if_neg (by omega)]))), hE1⟩
  · have c_1 := if01_0 c_1
    refine z_iconst dX7_thank_8 ?_
    exact s_zret dX7_thank_9 rfl (by omega) ⟨by congr 3; (repeat (first | rw [if_pos (by omega)] | rw [if_neg (by omega)])), σ1, by ((repeat (first | rw [if_pos (by omega)] | rw [if_neg (by omega)]))), hE1⟩
set_option maxHeartbeats 4000000 in
set_option maxRecDepth 100000 in
theorem m_thank0 {d : Nat} (hd : 3 ≤ d) {h : Int} (hh : inR h) (hn : ¬ (0 ≤ h ∧ h < 8)) (σ : gS) (A F : Nat → Int) : sC mX7_thank d [.ref 384, .int (iZ h)] (ms σ A F) (fun r σ' => r = some (.int (iZ (0))) ∧ σ' = ms σ A F) := by
  refine sC_of rfl (Nat.le_of_ble_eq_true rfl) ?_
  show sE g_tt _ _ _ 0 [some (.ref 384), some (.int (iZ h))] [] (ms σ A F)
  refine q_aload_n dX7_thank_0 rfl rfl ?_
  refine q_iload_n dX7_thank_1 rfl rfl ?_
  refine s_callV (ci := 7) (a := 384) (As := [.int (iZ h)]) (S := []) dX7_thank_2 okX7_canThank mlX7_316 rfl (by omega) rfl (Nat.le_of_ble_eq_true rfl) (show kd 384 = 7 from rfl) (by decide) rfl (m_canThank0 (d := d - 1) (by omega) hh hn σ A F) (fun v_ σ_ hq => ?_)
  obtain ⟨rfl, e9⟩ := hq
  have e9 := e9.symm
  subst e9
  show sE g_tt _ _ _ 5 [some (.ref 384), some (.int (iZ h))] [.int (iZ 0)] (ms σ A F)
  refine z_if_ne (tgt := 10) dX7_thank_5 (by decide) (by unfold inR at *; omega) (fun c_1 => ?_) (fun c_1 => ?_)
  · exact absurd rfl c_1
  · refine z_iconst dX7_thank_8 ?_
    exact s_zret dX7_thank_9 rfl (by omega) ⟨rfl, rfl⟩
set_option maxHeartbeats 4000000 in
set_option maxRecDepth 100000 in
theorem m_settleC {d : Nat} (hd : 8 ≤ d) (σ : gS) (A F : Nat → Int) {W : wF} {nt : Int} (hW : wOK (σ.2.1 387) 100000 nt W) (g : gd 90000 nt A) (h3 : 0 ≤ A 3) (h30 : A 3 ≤ 30) (h23 : inR (F 23)) : sC mX7_settle d [.ref 384] (ms σ A F) (fun r σ' => r = some (.int (iZ (if rdI W A = -1 then -1 else ((mS W (mKeep A) F).1.length : Int)))) ∧ ∃ σ2, σ' = ms σ2 (if rdI W A = -1 then A else (mS W (mKeep A) F).2.1) (if rdI W A = -1 then F else (mS W (mKeep A) F).2.2) ∧ eqS σ σ2) := by
  have ok := okA_gd (F := va_up F 26 0) (by decide) ⟨g, h23, Int.le_refl 0⟩
  have ww := fun h (hh : h < 8) => hW A (A 2) (gd_mono g (by decide)) g.2.2.2.2.2.2.2.2.2.1 g.2.2.2.2.2.2.2.2.2.2 h hh
  have rr : rdI W A = -1 ∨ (0 ≤ rdI W A ∧ rdI W A < 8) := by rcases rdI_spec (W := W) (A := A) with e | ⟨j, hj, e, -⟩ <;> omega
  refine sC_of rfl (Nat.le_of_ble_eq_true rfl) ?_
  show sE g_tt _ _ _ 0 [some (.ref 384)] [] (ms σ A F)
  refine q_aload_n dX7_settle_0 rfl rfl ?_
  refine s_callV (ci := 7) (a := 384) (As := []) (S := []) dX7_settle_1 okX7_readyHouse mlX7_319 rfl (by omega) rfl (Nat.le_of_ble_eq_true rfl) (show kd 384 = 7 from rfl) (by decide) rfl (m_readyHouse (d := d - 1) (by omega) σ A F ok.1 ok.2.1 ok.2.2.1 ok.2.2.2.1 (wA W A) ww) (fun v_ σ_ hq => ?_)
  obtain ⟨rfl, σ1, e9, hE1⟩ := hq
  subst e9
  show sE g_tt _ _ _ 4 [some (.ref 384)] [.int (iZ (rdI W A))] (ms σ1 A F)
  refine z_iconst dX7_settle_4 ?_
  refine z_icmp_ne (tgt := 10) dX7_settle_5 (by decide) (by unfold inR at *; omega) (by unfold inR at *; omega) (fun c_1 => ?_) (fun c_1 => ?_)
  · refine q_aload_n dX7_settle_10 rfl rfl ?_
    refine s_callV (ci := 7) (a := 384) (As := []) (S := []) dX7_settle_11 okX7_keep mlX7_337 rfl (by omega) rfl (Nat.le_of_ble_eq_true rfl) (show kd 384 = 7 from rfl) (by decide) rfl (m_keep (d := d - 1) σ1 A F h3 h30) (fun v_ σ_ hq => ?_)
    obtain ⟨rfl, e9⟩ := hq
    have e9 := e9.symm
    subst e9
    show sE g_tt _ _ _ 14 [some (.ref 384)] [] (ms σ1 (mKeep A) F)
    refine q_aload_n dX7_settle_14 rfl rfl ?_
    refine s_callV (ci := 7) (a := 384) (As := []) (S := []) dX7_settle_15 okX7_settleNow mlX7_331 rfl (by omega) rfl (Nat.le_of_ble_eq_true rfl) (show kd 384 = 7 from rfl) (by decide) rfl (m_settle (d := d - 1) (by omega) σ1 (mKeep A) F (Int.le_refl _) (by rw [hE1.2.1 387 (by decide) (by decide)]; exact hW) (gd_mono (gd_keep g h3 h30) (by decide)) h23) (fun v_ σ_ hq => ?_)
    obtain ⟨rfl, σ2, e9, hE2⟩ := hq
    subst e9
    show sE g_tt _ _ _ 18 [some (.ref 384)] [.int (iZ ((mS W (mKeep A) F).1.length : Int))] (ms σ2 ((mS W (mKeep A) F).2.1) ((mS W (mKeep A) F).2.2))
    exact s_iretZ dX7_settle_18 rfl ⟨by congr 3; (repeat (first | rw [if_pos (by omega)] | rw [if_neg (by omega)])), σ2, by ((repeat (first | rw [if_pos (by omega)] | rw [if_neg (by omega)]))), eqS_tr hE1 hE2⟩
  · refine z_iconst dX7_settle_8 ?_
    exact s_iretZ dX7_settle_9 rfl ⟨by congr 3; (repeat (first | rw [if_pos (by omega)] | rw [if_neg (by omega)])), σ1, by ((repeat (first | rw [if_pos (by omega)] | rw [if_neg (by omega)]))), hE1⟩
