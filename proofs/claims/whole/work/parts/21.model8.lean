set_option maxHeartbeats 4000000 in
set_option maxRecDepth 100000 in
theorem m_name {d h : Nat} (hd : 3 ≤ d) (hh : h < 8) (σ : gS) (A F : Nat → Int) (h0 : 0 ≤ A 0) (h5 : A 0 ≤ 5) (hhm : ∀ p, p < 5 → inR (A (19 + p))) : sC mX7_name d [.ref 384, .int (iZ (h : Int))] (ms σ A F) (fun r σ' => r = none ∧ ∃ σ1, σ' = ms σ1 A F ∧ eqS σ σ1 ∧ ∀ v, v < 8 → σ1.2.1 390 v = mNm A h v) := by
  have hpl : mPeo A (h : Int) (A 0).toNat < 2147483648 := by
    have q := mPeo_lt A h (A 0).toNat
    have q2 : 2 ^ (A 0).toNat ≤ 2 ^ 5 := Nat.pow_le_pow_right (by decide) (by omega)
    omega
  refine sC_of rfl (Nat.le_of_ble_eq_true rfl) ?_
  show sE g_tt _ _ _ 0 [some (.ref 384), some (.int (iZ (h : Int)))] [] (ms σ A F)
  refine q_aload_n dX7_name_0 rfl rfl ?_
  refine sg7 (kf := 20) (v := .ref 390) dX7_name_1 flX7_32 (show kd 384 = 7 from rfl) (by decide) rfl ?_
  refine z_iconst dX7_name_4 ?_
  refine q_aload_n dX7_name_5 rfl rfl ?_
  refine sg7 (kf := 0) (v := .ref 385) dX7_name_6 flX7_7 (show kd 384 = 7 from rfl) (by decide) rfl ?_
  refine z_iconst dX7_name_9 ?_
  refine s_iald (n := 1583) (x := A 5) dX7_name_10 (show kd 385 = 100 + 1583 from rfl) (by omega) (by omega) (by decide) rfl ?_
  refine mo_ist (n := 8) dX7_name_11 (show kd 390 = 100 + 8 from rfl) (by decide) (by omega) (by omega) (by decide) ?_
  refine q_aload_n dX7_name_12 rfl rfl ?_
  refine sg7 (kf := 20) (v := .ref 390) dX7_name_13 flX7_32 (show kd 384 = 7 from rfl) (by decide) rfl ?_
  refine z_iconst dX7_name_16 ?_
  refine q_aload_n dX7_name_17 rfl rfl ?_
  refine sg7 (kf := 0) (v := .ref 385) dX7_name_18 flX7_7 (show kd 384 = 7 from rfl) (by decide) rfl ?_
  refine z_bipush dX7_name_21 (by decide +kernel) ?_
  refine s_iald (n := 1583) (x := A 7) dX7_name_23 (show kd 385 = 100 + 1583 from rfl) (by omega) (by omega) (by decide) rfl ?_
  refine mo_ist (n := 8) dX7_name_24 (show kd 390 = 100 + 8 from rfl) (by decide) (by omega) (by omega) (by decide) ?_
  refine q_aload_n dX7_name_25 rfl rfl ?_
  refine sg7 (kf := 20) (v := .ref 390) dX7_name_26 flX7_32 (show kd 384 = 7 from rfl) (by decide) rfl ?_
  refine z_iconst dX7_name_29 ?_
  refine q_iload_n dX7_name_30 rfl rfl ?_
  refine mo_ist (n := 8) dX7_name_31 (show kd 390 = 100 + 8 from rfl) (by decide) (by omega) (by omega) (by decide) ?_
  refine q_aload_n dX7_name_32 rfl rfl ?_
  refine sg7 (kf := 20) (v := .ref 390) dX7_name_33 flX7_32 (show kd 384 = 7 from rfl) (by decide) rfl ?_
  refine z_iconst dX7_name_36 ?_
  refine q_aload_n dX7_name_37 rfl rfl ?_
  refine sg7 (kf := 0) (v := .ref 385) dX7_name_38 flX7_7 (show kd 384 = 7 from rfl) (by decide) rfl ?_
  refine z_bipush dX7_name_41 (by decide +kernel) ?_
  refine q_iload_n dX7_name_43 rfl rfl ?_
  refine z_iadd dX7_name_44 ?_
  refine s_iald (n := 1583) (x := A (11 + h)) dX7_name_45 (show kd 385 = 100 + 1583 from rfl) (by omega) (by omega) (by decide) rfl ?_
  refine mo_ist (n := 8) dX7_name_46 (show kd 390 = 100 + 8 from rfl) (by decide) (by omega) (by omega) (by decide) ?_
  refine q_aload_n dX7_name_47 rfl rfl ?_
  refine sg7 (kf := 20) (v := .ref 390) dX7_name_48 flX7_32 (show kd 384 = 7 from rfl) (by decide) rfl ?_
  refine z_iconst dX7_name_51 ?_
  refine q_aload_n dX7_name_52 rfl rfl ?_
  refine q_iload_n dX7_name_53 rfl rfl ?_
  refine s_callV (ci := 7) (a := 384) (As := [.int (iZ (h : Int))]) (S := [.int (iZ 4), .ref 390]) dX7_name_54 okX7_peopleIn mlX7_274 rfl (by omega) rfl (Nat.le_of_ble_eq_true rfl) (show kd 384 = 7 from rfl) (by decide) rfl (m_peopleIn (d := d - 1) (h := (h : Int)) (by unfold inR at *; omega) (sR (sR (sR (sR σ 390 0 (A 5)) 390 1 (A 7)) 390 2 (h : Int)) 390 3 (A (11 + h))) A F h0 h5 hhm) (fun v_ σ_ hq => ?_)
  obtain ⟨rfl, e9⟩ := hq
  have e9 := e9.symm
  subst e9
  show sE g_tt _ _ _ 57 [some (.ref 384), some (.int (iZ (h : Int)))] [.int (iZ ((mPeo A (h : Int) (A 0).toNat : Nat) : Int)), .int (iZ 4), .ref 390] (ms (sR (sR (sR (sR σ 390 0 (A 5)) 390 1 (A 7)) 390 2 (h : Int)) 390 3 (A (11 + h))) A F)
  refine s_callS (As := [.int (iZ ((mPeo A (h : Int) (A 0).toNat : Nat) : Int))]) (S := [.int (iZ 4), .ref 390]) dX7_name_57 okX7_bits mlX7_277 rfl (by omega) rfl (Nat.le_of_ble_eq_true rfl) (m_bits (d := d - 1) (m := mPeo A (h : Int) (A 0).toNat) hpl (ms (sR (sR (sR (sR σ 390 0 (A 5)) 390 1 (A 7)) 390 2 (h : Int)) 390 3 (A (11 + h))) A F)) (fun v_ σ_ hq => ?_)
  obtain ⟨rfl, e9⟩ := hq
  have e9 := e9.symm
  subst e9
  show sE g_tt _ _ _ 60 [some (.ref 384), some (.int (iZ (h : Int)))] [.int (iZ ((mBits (mPeo A (h : Int) (A 0).toNat + 1) (mPeo A (h : Int) (A 0).toNat) : Nat) : Int)), .int (iZ 4), .ref 390] (ms (sR (sR (sR (sR σ 390 0 (A 5)) 390 1 (A 7)) 390 2 (h : Int)) 390 3 (A (11 + h))) A F)
  refine mo_ist (n := 8) dX7_name_60 (show kd 390 = 100 + 8 from rfl) (by decide) (by omega) (by omega) (by decide) ?_
  refine q_aload_n dX7_name_61 rfl rfl ?_
  refine sg7 (kf := 20) (v := .ref 390) dX7_name_62 flX7_32 (show kd 384 = 7 from rfl) (by decide) rfl ?_
  refine z_iconst dX7_name_65 ?_
  refine q_aload_n dX7_name_66 rfl rfl ?_
  refine q_iload_n dX7_name_67 rfl rfl ?_
  refine z_iconst dX7_name_68 ?_
  refine z_isub dX7_name_69 ?_
  refine s_callV (ci := 7) (a := 384) (As := [.int (iZ ((h : Int) - 1))]) (S := [.int (iZ 5), .ref 390]) dX7_name_70 okX7_kindOf mlX7_280 rfl (by omega) rfl (Nat.le_of_ble_eq_true rfl) (show kd 384 = 7 from rfl) (by decide) rfl (m_kindOf (d := d - 1) (by omega) (h := (h : Int) - 1) (by unfold inR at *; omega) (sR (sR (sR (sR (sR σ 390 0 (A 5)) 390 1 (A 7)) 390 2 (h : Int)) 390 3 (A (11 + h))) 390 4 ((mBits (mPeo A (h : Int) (A 0).toNat + 1) (mPeo A (h : Int) (A 0).toNat) : Nat) : Int)) A F) (fun v_ σ_ hq => ?_)
  obtain ⟨rfl, e9⟩ := hq
  have e9 := e9.symm
  subst e9
  show sE g_tt _ _ _ 73 [some (.ref 384), some (.int (iZ (h : Int)))] [.int (iZ (mKo A ((h : Int) - 1))), .int (iZ 5), .ref 390] (ms (sR (sR (sR (sR (sR σ 390 0 (A 5)) 390 1 (A 7)) 390 2 (h : Int)) 390 3 (A (11 + h))) 390 4 ((mBits (mPeo A (h : Int) (A 0).toNat + 1) (mPeo A (h : Int) (A 0).toNat) : Nat) : Int)) A F)
  refine mo_ist (n := 8) dX7_name_73 (show kd 390 = 100 + 8 from rfl) (by decide) (by omega) (by omega) (by decide) ?_
  refine q_aload_n dX7_name_74 rfl rfl ?_
  refine sg7 (kf := 20) (v := .ref 390) dX7_name_75 flX7_32 (show kd 384 = 7 from rfl) (by decide) rfl ?_
  refine z_bipush dX7_name_78 (by decide +kernel) ?_
  refine q_aload_n dX7_name_80 rfl rfl ?_
  refine q_iload_n dX7_name_81 rfl rfl ?_
  refine z_iconst dX7_name_82 ?_
  refine z_iadd dX7_name_83 ?_
  refine s_callV (ci := 7) (a := 384) (As := [.int (iZ ((h : Int) + 1))]) (S := [.int (iZ 6), .ref 390]) dX7_name_84 okX7_kindOf mlX7_280 rfl (by omega) rfl (Nat.le_of_ble_eq_true rfl) (show kd 384 = 7 from rfl) (by decide) rfl (m_kindOf (d := d - 1) (by omega) (h := (h : Int) + 1) (by unfold inR at *; omega) (sR (sR (sR (sR (sR (sR σ 390 0 (A 5)) 390 1 (A 7)) 390 2 (h : Int)) 390 3 (A (11 + h))) 390 4 ((mBits (mPeo A (h : Int) (A 0).toNat + 1) (mPeo A (h : Int) (A 0).toNat) : Nat) : Int)) 390 5 (mKo A ((h : Int) - 1))) A F) (fun v_ σ_ hq => ?_)
  obtain ⟨rfl, e9⟩ := hq
  have e9 := e9.symm
  subst e9
  show sE g_tt _ _ _ 87 [some (.ref 384), some (.int (iZ (h : Int)))] [.int (iZ (mKo A ((h : Int) + 1))), .int (iZ 6), .ref 390] (ms (sR (sR (sR (sR (sR (sR σ 390 0 (A 5)) 390 1 (A 7)) 390 2 (h : Int)) 390 3 (A (11 + h))) 390 4 ((mBits (mPeo A (h : Int) (A 0).toNat + 1) (mPeo A (h : Int) (A 0).toNat) : Nat) : Int)) 390 5 (mKo A ((h : Int) - 1))) A F)
  refine mo_ist (n := 8) dX7_name_87 (show kd 390 = 100 + 8 from rfl) (by decide) (by omega) (by omega) (by decide) ?_
  refine q_aload_n dX7_name_88 rfl rfl ?_
  refine sg7 (kf := 20) (v := .ref 390) dX7_name_89 flX7_32 (show kd 384 = 7 from rfl) (by decide) rfl ?_
  refine z_bipush dX7_name_92 (by decide +kernel) ?_
  refine q_aload_n dX7_name_94 rfl rfl ?_
  refine sg7 (kf := 0) (v := .ref 385) dX7_name_95 flX7_7 (show kd 384 = 7 from rfl) (by decide) rfl ?_
  refine z_bipush dX7_name_98 (by decide +kernel) ?_
  refine s_iald (n := 1583) (x := A 9) dX7_name_100 (show kd 385 = 100 + 1583 from rfl) (by omega) (by omega) (by decide) rfl ?_
  refine mo_ist (n := 8) dX7_name_101 (show kd 390 = 100 + 8 from rfl) (by decide) (by omega) (by omega) (by decide) ?_
  exact s_vret dX7_name_102 rfl ⟨rfl, sR (sR (sR (sR (sR (sR (sR (sR σ 390 0 (A 5)) 390 1 (A 7)) 390 2 (h : Int)) 390 3 (A (11 + h))) 390 4 ((mBits (mPeo A (h : Int) (A 0).toNat + 1) (mPeo A (h : Int) (A 0).toNat) : Nat) : Int)) 390 5 (mKo A ((h : Int) - 1))) 390 6 (mKo A ((h : Int) + 1))) 390 7 (A 9), rfl, ⟨rfl, fun a q1 q2 => by simp only [sR, up2_ne _ _ _ q1], fun _ _ => rfl, rfl⟩, fun v hv => by match v, hv with | 0, _ => rfl | 1, _ => rfl | 2, _ => rfl | 3, _ => rfl | 4, _ => rfl | 5, _ => rfl | 6, _ => rfl | 7, _ => rfl⟩
/-- what the clauses of sort s of a text (none: -1) say of house h, wo without one: w -/
def sayOK (A T : Nat → Int) (text s wo : Int) (h : Nat) (w : Int) : Prop := (text = -1 ∧ w = wo) ∨ ∃ (tx N : Nat) (val : Nat → Int), text = (tx : Int) ∧ tx < 4 ∧ T (681 * tx) = (N : Int) ∧ N ≤ 24 ∧ (∀ k, k < 24 → inR (T (681 * tx + 1 + 3 * k))) ∧ (∀ nm : Nat → Int, (∀ v, v < 8 → nm v = mNm A h v) → ∀ k, k < N → T (681 * tx + 1 + 3 * k) = s → clOK A nm T tx k (val k)) ∧ w = mSayF T tx s wo val N 0
set_option maxHeartbeats 4000000 in
set_option maxRecDepth 100000 in
theorem m_holdsOf {d h : Nat} (hd : 4 ≤ d) (hh : h < 8) {text w : Int} (σ : gS) (A F : Nat → Int) (h0 : 0 ≤ A 0) (h5 : A 0 ≤ 5) (hhm : ∀ p, p < 5 → inR (A (19 + p))) (hkA : ∀ h : Int, 0 ≤ h ∧ h < 8 → inR (A (11 + h).toNat)) (hw : sayOK A (σ.2.1 387) text 0 0 h w) : sC mX7_holdsOf d [.ref 384, .int (iZ text), .int (iZ (h : Int))] (ms σ A F) (fun r σ' => r = some (.int (iZ w)) ∧ ∃ σ1, σ' = ms σ1 A F ∧ eqS σ σ1) := by
  rcases hw with ⟨ht, rfl⟩ | ⟨tx, N, val, ht, htx, hN, hN24, hso, hcl, rfl⟩
  · subst ht
    refine sC_of rfl (Nat.le_of_ble_eq_true rfl) ?_
    show sE g_tt _ _ _ 0 [some (.ref 384), some (.int (iZ (-1))), some (.int (iZ (h : Int)))] [] (ms σ A F)
    refine q_aload_n dX7_holdsOf_0 rfl rfl ?_
    refine q_iload_n dX7_holdsOf_1 rfl rfl ?_
    refine s_callV (ci := 7) (a := 384) (As := [.int (iZ (h : Int))]) (S := []) dX7_holdsOf_2 okX7_name mlX7_283 rfl (by omega) rfl (Nat.le_of_ble_eq_true rfl) (show kd 384 = 7 from rfl) (by decide) rfl (m_name (d := d - 1) (by omega) hh σ A F h0 h5 hhm) (fun v_ σ_ hq => ?_)
    obtain ⟨rfl, σ1, e9, hE1, hN1⟩ := hq
    subst e9
    have e387 := hE1.2.1 387 (by decide) (by decide)
    show sE g_tt _ _ _ 5 [some (.ref 384), some (.int (iZ (-1))), some (.int (iZ (h : Int)))] [] (ms σ1 A F)
    refine q_aload_n dX7_holdsOf_5 rfl rfl ?_
    refine q_iload_n dX7_holdsOf_6 rfl rfl ?_
    refine z_iconst dX7_holdsOf_7 ?_
    refine z_iconst dX7_holdsOf_8 ?_
    refine s_callV (ci := 7) (a := 384) (As := [.int (iZ (-1)), .int (iZ 0), .int (iZ 0)]) (S := []) dX7_holdsOf_9 okX7_says mlX7_286 rfl (by omega) rfl (Nat.le_of_ble_eq_true rfl) (show kd 384 = 7 from rfl) (by decide) rfl (m_says0 (d := d - 1) (s := 0) (wo := 0) σ1 A F) (fun v_ σ_ hq => ?_)
    obtain ⟨rfl, e9⟩ := hq
    have e9 := e9.symm
    subst e9
    show sE g_tt _ _ _ 12 [some (.ref 384), some (.int (iZ (-1))), some (.int (iZ (h : Int)))] [.int (iZ 0)] (ms σ1 A F)
    exact s_iretZ dX7_holdsOf_12 rfl ⟨rfl, σ1, rfl, hE1⟩
  · subst ht
    refine sC_of rfl (Nat.le_of_ble_eq_true rfl) ?_
    show sE g_tt _ _ _ 0 [some (.ref 384), some (.int (iZ (tx : Int))), some (.int (iZ (h : Int)))] [] (ms σ A F)
    refine q_aload_n dX7_holdsOf_0 rfl rfl ?_
    refine q_iload_n dX7_holdsOf_1 rfl rfl ?_
    refine s_callV (ci := 7) (a := 384) (As := [.int (iZ (h : Int))]) (S := []) dX7_holdsOf_2 okX7_name mlX7_283 rfl (by omega) rfl (Nat.le_of_ble_eq_true rfl) (show kd 384 = 7 from rfl) (by decide) rfl (m_name (d := d - 1) (by omega) hh σ A F h0 h5 hhm) (fun v_ σ_ hq => ?_)
    obtain ⟨rfl, σ1, e9, hE1, hN1⟩ := hq
    subst e9
    have e387 := hE1.2.1 387 (by decide) (by decide)
    show sE g_tt _ _ _ 5 [some (.ref 384), some (.int (iZ (tx : Int))), some (.int (iZ (h : Int)))] [] (ms σ1 A F)
    refine q_aload_n dX7_holdsOf_5 rfl rfl ?_
    refine q_iload_n dX7_holdsOf_6 rfl rfl ?_
    refine z_iconst dX7_holdsOf_7 ?_
    refine z_iconst dX7_holdsOf_8 ?_
    refine s_callV (ci := 7) (a := 384) (As := [.int (iZ (tx : Int)), .int (iZ 0), .int (iZ 0)]) (S := []) dX7_holdsOf_9 okX7_says mlX7_286 rfl (by omega) rfl (Nat.le_of_ble_eq_true rfl) (show kd 384 = 7 from rfl) (by decide) rfl (m_says (d := d - 1) (by omega) val σ1 A F htx (by rw [e387]; exact hN) hN24 (by rw [e387]; exact hso) (by unfold inR at *; omega) hkA (by rw [e387]; exact hcl (σ1.2.1 390) hN1)) (fun v_ σ_ hq => ?_)
    obtain ⟨rfl, J1, R1, e9⟩ := hq
    subst e9
    rw [e387]
    show sE g_tt _ _ _ 12 [some (.ref 384), some (.int (iZ (tx : Int))), some (.int (iZ (h : Int)))] [.int (iZ (mSayF (σ.2.1 387) tx 0 0 val N 0))] (ms (ev σ1 J1 R1) A F)
    exact s_iretZ dX7_holdsOf_12 rfl ⟨rfl, ev σ1 J1 R1, rfl, eqS_tr hE1 (eqS_ev _ _ _)⟩
set_option maxHeartbeats 4000000 in
set_option maxRecDepth 100000 in
theorem m_giftsOf {d h : Nat} (hd : 4 ≤ d) (hh : h < 8) {w : Int} (σ : gS) (A F : Nat → Int) (h0 : 0 ≤ A 0) (h5 : A 0 ≤ 5) (hhm : ∀ p, p < 5 → inR (A (19 + p))) (hkA : ∀ h : Int, 0 ≤ h ∧ h < 8 → inR (A (11 + h).toNat)) (hw : sayOK A (σ.2.1 387) (A 2) 1 (1 + A 7) h w) : sC mX7_giftsOf d [.ref 384, .int (iZ (h : Int))] (ms σ A F) (fun r σ' => r = some (.int (iZ w)) ∧ ∃ σ1, σ' = ms σ1 A F ∧ eqS σ σ1) := by
  rcases hw with ⟨ht, rfl⟩ | ⟨tx, N, val, ht, htx, hN, hN24, hso, hcl, rfl⟩
  · refine sC_of rfl (Nat.le_of_ble_eq_true rfl) ?_
    show sE g_tt _ _ _ 0 [some (.ref 384), some (.int (iZ (h : Int)))] [] (ms σ A F)
    refine q_aload_n dX7_giftsOf_0 rfl rfl ?_
    refine q_iload_n dX7_giftsOf_1 rfl rfl ?_
    refine s_callV (ci := 7) (a := 384) (As := [.int (iZ (h : Int))]) (S := []) dX7_giftsOf_2 okX7_name mlX7_283 rfl (by omega) rfl (Nat.le_of_ble_eq_true rfl) (show kd 384 = 7 from rfl) (by decide) rfl (m_name (d := d - 1) (by omega) hh σ A F h0 h5 hhm) (fun v_ σ_ hq => ?_)
    obtain ⟨rfl, σ1, e9, hE1, hN1⟩ := hq
    subst e9
    have e387 := hE1.2.1 387 (by decide) (by decide)
    show sE g_tt _ _ _ 5 [some (.ref 384), some (.int (iZ (h : Int)))] [] (ms σ1 A F)
    refine q_aload_n dX7_giftsOf_5 rfl rfl ?_
    refine q_aload_n dX7_giftsOf_6 rfl rfl ?_
    refine sg7 (kf := 0) (v := .ref 385) dX7_giftsOf_7 flX7_7 (show kd 384 = 7 from rfl) (by decide) rfl ?_
    refine z_iconst dX7_giftsOf_10 ?_
    refine s_iald (n := 1583) (x := (-1)) dX7_giftsOf_11 (show kd 385 = 100 + 1583 from rfl) (by omega) (by omega) (by decide) (by show A 2 = _; exact ht) ?_
    refine z_iconst dX7_giftsOf_12 ?_
    refine z_iconst dX7_giftsOf_13 ?_
    refine q_aload_n dX7_giftsOf_14 rfl rfl ?_
    refine sg7 (kf := 0) (v := .ref 385) dX7_giftsOf_15 flX7_7 (show kd 384 = 7 from rfl) (by decide) rfl ?_
    refine z_bipush dX7_giftsOf_18 (by decide +kernel) ?_
    refine s_iald (n := 1583) (x := A 7) dX7_giftsOf_20 (show kd 385 = 100 + 1583 from rfl) (by omega) (by omega) (by decide) rfl ?_
    refine z_iadd dX7_giftsOf_21 ?_
    refine s_callV (ci := 7) (a := 384) (As := [.int (iZ (-1)), .int (iZ 1), .int (iZ (1 + (A 7)))]) (S := []) dX7_giftsOf_22 okX7_says mlX7_286 rfl (by omega) rfl (Nat.le_of_ble_eq_true rfl) (show kd 384 = 7 from rfl) (by decide) rfl (m_says0 (d := d - 1) (s := 1) (wo := 1 + (A 7)) σ1 A F) (fun v_ σ_ hq => ?_)
    obtain ⟨rfl, e9⟩ := hq
    have e9 := e9.symm
    subst e9
    show sE g_tt _ _ _ 25 [some (.ref 384), some (.int (iZ (h : Int)))] [.int (iZ (1 + (A 7)))] (ms σ1 A F)
    exact s_iretZ dX7_giftsOf_25 rfl ⟨rfl, σ1, rfl, hE1⟩
  · refine sC_of rfl (Nat.le_of_ble_eq_true rfl) ?_
    show sE g_tt _ _ _ 0 [some (.ref 384), some (.int (iZ (h : Int)))] [] (ms σ A F)
    refine q_aload_n dX7_giftsOf_0 rfl rfl ?_
    refine q_iload_n dX7_giftsOf_1 rfl rfl ?_
    refine s_callV (ci := 7) (a := 384) (As := [.int (iZ (h : Int))]) (S := []) dX7_giftsOf_2 okX7_name mlX7_283 rfl (by omega) rfl (Nat.le_of_ble_eq_true rfl) (show kd 384 = 7 from rfl) (by decide) rfl (m_name (d := d - 1) (by omega) hh σ A F h0 h5 hhm) (fun v_ σ_ hq => ?_)
    obtain ⟨rfl, σ1, e9, hE1, hN1⟩ := hq
    subst e9
    have e387 := hE1.2.1 387 (by decide) (by decide)
    show sE g_tt _ _ _ 5 [some (.ref 384), some (.int (iZ (h : Int)))] [] (ms σ1 A F)
    refine q_aload_n dX7_giftsOf_5 rfl rfl ?_
    refine q_aload_n dX7_giftsOf_6 rfl rfl ?_
    refine sg7 (kf := 0) (v := .ref 385) dX7_giftsOf_7 flX7_7 (show kd 384 = 7 from rfl) (by decide) rfl ?_
    refine z_iconst dX7_giftsOf_10 ?_
    refine s_iald (n := 1583) (x := (tx : Int)) dX7_giftsOf_11 (show kd 385 = 100 + 1583 from rfl) (by omega) (by omega) (by decide) (by show A 2 = _; exact ht) ?_
    refine z_iconst dX7_giftsOf_12 ?_
    refine z_iconst dX7_giftsOf_13 ?_
    refine q_aload_n dX7_giftsOf_14 rfl rfl ?_
    refine sg7 (kf := 0) (v := .ref 385) dX7_giftsOf_15 flX7_7 (show kd 384 = 7 from rfl) (by decide) rfl ?_
    refine z_bipush dX7_giftsOf_18 (by decide +kernel) ?_
    refine s_iald (n := 1583) (x := A 7) dX7_giftsOf_20 (show kd 385 = 100 + 1583 from rfl) (by omega) (by omega) (by decide) rfl ?_
    refine z_iadd dX7_giftsOf_21 ?_
    refine s_callV (ci := 7) (a := 384) (As := [.int (iZ (tx : Int)), .int (iZ 1), .int (iZ (1 + (A 7)))]) (S := []) dX7_giftsOf_22 okX7_says mlX7_286 rfl (by omega) rfl (Nat.le_of_ble_eq_true rfl) (show kd 384 = 7 from rfl) (by decide) rfl (m_says (d := d - 1) (by omega) val σ1 A F htx (by rw [e387]; exact hN) hN24 (by rw [e387]; exact hso) (by unfold inR at *; omega) hkA (by rw [e387]; exact hcl (σ1.2.1 390) hN1)) (fun v_ σ_ hq => ?_)
    obtain ⟨rfl, J1, R1, e9⟩ := hq
    subst e9
    rw [e387]
    show sE g_tt _ _ _ 25 [some (.ref 384), some (.int (iZ (h : Int)))] [.int (iZ (mSayF (σ.2.1 387) tx 1 (1 + (A 7)) val N 0))] (ms (ev σ1 J1 R1) A F)
    exact s_iretZ dX7_giftsOf_25 rfl ⟨rfl, ev σ1 J1 R1, rfl, eqS_tr hE1 (eqS_ev _ _ _)⟩
set_option maxHeartbeats 4000000 in
set_option maxRecDepth 100000 in
theorem m_canThank {d h : Nat} (hd : 5 ≤ d) (hh : h < 8) {w : Int} (σ : gS) (A F : Nat → Int) (h0 : 0 ≤ A 0) (h5 : A 0 ≤ 5) (hhm : ∀ p, p < 5 → inR (A (19 + p))) (hkA : ∀ h : Int, 0 ≤ h ∧ h < 8 → inR (A (11 + h).toNat)) (hw : sayOK A (σ.2.1 387) (A 2) 0 0 h w) (hw0 : 0 ≤ w) (hw9 : w ≤ 9) : sC mX7_canThank d [.ref 384, .int (iZ (h : Int))] (ms σ A F) (fun r σ' => r = some (.int (iZ (if w + 2 ≤ A (11 + h) then 1 else 0))) ∧ ∃ σ1, σ' = ms σ1 A F ∧ eqS σ σ1) := by
  have hk9 : inR (A (11 + h)) := hkA h ⟨by omega, by omega⟩
  refine sC_of rfl (Nat.le_of_ble_eq_true rfl) ?_
  show sE g_tt _ _ _ 0 [some (.ref 384), some (.int (iZ (h : Int)))] [] (ms σ A F)
  refine q_iload_n dX7_canThank_0 rfl rfl ?_
  refine s_callS (As := [.int (iZ (h : Int))]) (S := []) dX7_canThank_1 okX7_isHouse mlX7_70 rfl (by omega) rfl (Nat.le_of_ble_eq_true rfl) (m_isHouse (d := d - 1) (by omega) (h := (h : Int)) (by unfold inR at *; omega) (ms σ A F)) (fun v_ σ_ hq => ?_)
  obtain ⟨rfl, e9⟩ := hq
  have e9 := e9.symm
  subst e9
  show sE g_tt _ _ _ 4 [some (.ref 384), some (.int (iZ (h : Int)))] [.int (iZ (if 0 ≤ (h : Int) ∧ (h : Int) < 8 then 1 else 0))] (ms σ A F)
  refine z_if_eq (tgt := 36) dX7_canThank_4 (by decide) inR_01 (fun c_1 => ?_) (fun c_1 => ?_)
  · have c_1 := if01_0 c_1
    refine z_iconst dX7_canThank_36 ?_
    exact s_zret dX7_canThank_37 rfl (by omega) ⟨by exfalso; omega, σ, rfl, eqS_rf σ⟩
  · have c_1 := if01_1 c_1
    refine q_aload_n dX7_canThank_7 rfl rfl ?_
    refine sg7 (kf := 0) (v := .ref 385) dX7_canThank_8 flX7_7 (show kd 384 = 7 from rfl) (by decide) rfl ?_
    refine z_bipush dX7_canThank_11 (by decide +kernel) ?_
    refine q_iload_n dX7_canThank_13 rfl rfl ?_
    refine z_iadd dX7_canThank_14 ?_
    refine s_iald (n := 1583) (x := A (11 + h)) dX7_canThank_15 (show kd 385 = 100 + 1583 from rfl) (by omega) (by omega) (by decide) rfl ?_
    refine q_aload_n dX7_canThank_16 rfl rfl ?_
    refine q_aload_n dX7_canThank_17 rfl rfl ?_
    refine sg7 (kf := 0) (v := .ref 385) dX7_canThank_18 flX7_7 (show kd 384 = 7 from rfl) (by decide) rfl ?_
    refine z_iconst dX7_canThank_21 ?_
    refine s_iald (n := 1583) (x := A 2) dX7_canThank_22 (show kd 385 = 100 + 1583 from rfl) (by omega) (by omega) (by decide) rfl ?_
    refine q_iload_n dX7_canThank_23 rfl rfl ?_
    refine s_callV (ci := 7) (a := 384) (As := [.int (iZ (A 2)), .int (iZ (h : Int))]) (S := [.int (iZ (A (11 + h)))]) dX7_canThank_24 okX7_holdsOf mlX7_298 rfl (by omega) rfl (Nat.le_of_ble_eq_true rfl) (show kd 384 = 7 from rfl) (by decide) rfl (m_holdsOf (d := d - 1) (by omega) hh σ A F h0 h5 hhm hkA hw) (fun v_ σ_ hq => ?_)
    obtain ⟨rfl, σ1, e9, hE1⟩ := hq
    subst e9
    show sE g_tt _ _ _ 27 [some (.ref 384), some (.int (iZ (h : Int)))] [.int (iZ w), .int (iZ (A (11 + h)))] (ms σ1 A F)
    refine z_iconst dX7_canThank_27 ?_
    refine z_iadd dX7_canThank_28 ?_
    refine z_icmp_lt (tgt := 36) dX7_canThank_29 (by decide) hk9 (by unfold inR at *; omega) (fun c_2 => ?_) (fun c_2 => ?_)
    · refine z_iconst dX7_canThank_36 ?_
      exact s_zret dX7_canThank_37 rfl (by omega) ⟨by congr 3; (repeat (first | rw [if_pos (by omega)] | rw [if_neg (by omega)])), σ1, rfl, hE1⟩
    · refine z_iconst dX7_canThank_32 ?_
      refine q_goto (tgt := 37) dX7_canThank_33 (by decide) ?_
      exact s_zret dX7_canThank_37 rfl (by omega) ⟨by congr 3; (repeat (first | rw [if_pos (by omega)] | rw [if_neg (by omega)])), σ1, rfl, hE1⟩
set_option maxHeartbeats 4000000 in
set_option maxRecDepth 100000 in
theorem m_canThank0 {d : Nat} (hd : 2 ≤ d) {h : Int} (hh : inR h) (hn : ¬ (0 ≤ h ∧ h < 8)) (σ : gS) (A F : Nat → Int) : sC mX7_canThank d [.ref 384, .int (iZ h)] (ms σ A F) (fun r σ' => r = some (.int (iZ (0))) ∧ σ' = ms σ A F) := by
  refine sC_of rfl (Nat.le_of_ble_eq_true rfl) ?_
  show sE g_tt _ _ _ 0 [some (.ref 384), some (.int (iZ h))] [] (ms σ A F)
  refine q_iload_n dX7_canThank_0 rfl rfl ?_
  refine s_callS (As := [.int (iZ h)]) (S := []) dX7_canThank_1 okX7_isHouse mlX7_70 rfl (by omega) rfl (Nat.le_of_ble_eq_true rfl) (m_isHouse (d := d - 1) (by omega) (h := h) (by unfold inR at *; omega) (ms σ A F)) (fun v_ σ_ hq => ?_)
  obtain ⟨rfl, e9⟩ := hq
  have e9 := e9.symm
  subst e9
  show sE g_tt _ _ _ 4 [some (.ref 384), some (.int (iZ h))] [.int (iZ (if 0 ≤ h ∧ h < 8 then 1 else 0))] (ms σ A F)
  refine z_if_eq (tgt := 36) dX7_canThank_4 (by decide) inR_01 (fun c_1 => ?_) (fun c_1 => ?_)
  · have c_1 := if01_0 c_1
    refine z_iconst dX7_canThank_36 ?_
    exact s_zret dX7_canThank_37 rfl (by omega) ⟨rfl, rfl⟩
  · have c_1 := if01_1 c_1
    exfalso
    omega
/-- the lowest house from h on (f of them) that can be thanked, hold W h -/
def mRdy (A : Nat → Int) (W : Nat → Int) : Nat → Nat → Int
  | 0, _ => -1
  | f + 1, h => if W h + 2 ≤ A (11 + h) then (h : Int) else mRdy A W f (h + 1)
set_option maxHeartbeats 4000000 in
set_option maxRecDepth 100000 in
theorem lp_readyHouse {d : Nat} (hd : 6 ≤ d) (σ : gS) (A F : Nat → Int) (h0 : 0 ≤ A 0) (h5 : A 0 ≤ 5) (hhm : ∀ p, p < 5 → inR (A (19 + p))) (hkA : ∀ h : Int, 0 ≤ h ∧ h < 8 → inR (A (11 + h).toNat)) (W : Nat → Int) (hW : ∀ h, h < 8 → sayOK A (σ.2.1 387) (A 2) 0 0 h (W h) ∧ 0 ≤ W h ∧ W h ≤ 9) : ∀ (f h : Nat) (σ2 : gS), h ≤ 8 → eqS σ σ2 → 8 - (h : Int) < (f : Int) → sE g_tt mX7_readyHouse d (fun r σ' => r = some (.int (iZ (mRdy A W (8 - h) h))) ∧ ∃ σ1, σ' = ms σ1 A F ∧ eqS σ σ1) 2 [some (.ref 384), some (.int (iZ (h : Int)))] [] (ms σ2 A F) := by
  intro f
  induction f with
  | zero =>
    intro h σ2 hh hE2 hn
    exact absurd hn (by omega)
  | succ f ih =>
    intro h σ2 hh hE2 hn
    refine q_iload_n dX7_readyHouse_2 rfl rfl ?_
    refine z_bipush dX7_readyHouse_3 (by decide +kernel) ?_
    refine z_icmp_ge (tgt := 24) dX7_readyHouse_5 (by decide) (by unfold inR at *; omega) (by unfold inR at *; omega) (fun c_1 => ?_) (fun c_1 => ?_)
    · refine z_iconst dX7_readyHouse_24 ?_
      exact s_iretZ dX7_readyHouse_25 rfl ⟨by rw [show 8 - h = 0 by omega]; rfl, σ2, rfl, hE2⟩
    · refine q_aload_n dX7_readyHouse_8 rfl rfl ?_
      refine q_iload_n dX7_readyHouse_9 rfl rfl ?_
      refine s_callV (ci := 7) (a := 384) (As := [.int (iZ (h : Int))]) (S := []) dX7_readyHouse_10 okX7_canThank mlX7_316 rfl (by omega) rfl (Nat.le_of_ble_eq_true rfl) (show kd 384 = 7 from rfl) (by decide) rfl (m_canThank (d := d - 1) (by omega) (show h < 8 by omega) σ2 A F h0 h5 hhm hkA (by rw [hE2.2.1 387 (by decide) (by decide)]; exact (hW h (by omega)).1) (hW h (by omega)).2.1 (hW h (by omega)).2.2) (fun v_ σ_ hq => ?_)
      obtain ⟨rfl, σ3, e9, hE3⟩ := hq
      subst e9
      show sE g_tt _ _ _ 13 [some (.ref 384), some (.int (iZ (h : Int)))] [.int (iZ (if W h + 2 ≤ A (11 + h) then 1 else 0))] (ms σ3 A F)
      refine z_if_eq (tgt := 18) dX7_readyHouse_13 (by decide) inR_01 (fun c_2 => ?_) (fun c_2 => ?_)
      · have c_2 := if01_0 c_2
        refine z_iinc dX7_readyHouse_18 rfl (by decide) ?_
        show sE g_tt _ _ _ 21 [some (.ref 384), some (.int (iZ ((h : Int) + 1)))] [] (ms σ3 A F)
        refine q_goto (tgt := 2) dX7_readyHouse_21 (by decide) ?_
        rw [show 8 - h = (8 - (h + 1)) + 1 by omega, mRdy, if_neg c_2]
        exact ih (h + 1) σ3 (by omega) (eqS_tr hE2 hE3) (by omega)
      · have c_2 := if01_1 c_2
        refine q_iload_n dX7_readyHouse_16 rfl rfl ?_
        exact s_iretZ dX7_readyHouse_17 rfl ⟨by rw [show 8 - h = (8 - (h + 1)) + 1 by omega, mRdy, if_pos c_2], σ3, rfl, eqS_tr hE2 hE3⟩
set_option maxHeartbeats 4000000 in
set_option maxRecDepth 100000 in
theorem m_readyHouse {d : Nat} (hd : 6 ≤ d) (σ : gS) (A F : Nat → Int) (h0 : 0 ≤ A 0) (h5 : A 0 ≤ 5) (hhm : ∀ p, p < 5 → inR (A (19 + p))) (hkA : ∀ h : Int, 0 ≤ h ∧ h < 8 → inR (A (11 + h).toNat)) (W : Nat → Int) (hW : ∀ h, h < 8 → sayOK A (σ.2.1 387) (A 2) 0 0 h (W h) ∧ 0 ≤ W h ∧ W h ≤ 9) : sC mX7_readyHouse d [.ref 384] (ms σ A F) (fun r σ' => r = some (.int (iZ (mRdy A W 8 0))) ∧ ∃ σ1, σ' = ms σ1 A F ∧ eqS σ σ1) := by
  refine sC_of rfl (Nat.le_of_ble_eq_true rfl) ?_
  show sE g_tt _ _ _ 0 [some (.ref 384), none] [] (ms σ A F)
  refine z_iconst dX7_readyHouse_0 ?_
  refine q_istore_n dX7_readyHouse_1 rfl (by decide) ?_
  show sE g_tt _ _ _ 2 [some (.ref 384), some (.int (iZ 0))] [] (ms σ A F)
  exact lp_readyHouse hd σ A F h0 h5 hhm hkA W hW 9 0 σ (by omega) (eqS_rf σ) (by omega)
