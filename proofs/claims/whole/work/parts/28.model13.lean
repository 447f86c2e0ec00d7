/-- told kindness, in n steps kept -/
def mKs (A : Nat → Int) (h : Nat) (v : Int) : Nat → Nat → Int
  | 0 => A
  | k + 1 => va_up (mKs A h v k) (60 + 50 * k + h) v
theorem mKs_o (A : Nat → Int) (h : Nat) (v : Int) {i : Nat} (hi : i < 60) : ∀ n, mKs A h v n i = A i := by
  intro n
  induction n with
  | zero => rfl
  | succ n ih => rw [mKs, va_up_ne _ _ (by omega)]; exact ih
def mKind (A : Nat → Int) (h : Nat) (v : Int) : Nat → Int := mKs (va_up A (11 + h) v) h v (A 3).toNat
set_option maxHeartbeats 4000000 in
set_option maxRecDepth 100000 in
theorem lp_kind {d h : Nat} (hh : h < 8) {v : Int} (σ : gS) (B F : Nat → Int) (h3 : 0 ≤ B 3) (h30 : B 3 ≤ 30) : ∀ (n : Nat) (k : Nat), (k : Int) ≤ B 3 → B 3 - (k : Int) < (n : Int) → sE g_tt mX7_kind d (fun r σ' => r = some (.int (iZ (1))) ∧ σ' = ms σ (mKs B h v (B 3).toNat) F) 31 [some (.ref 384), some (.int (iZ (h : Int))), some (.int (iZ v)), some (.int (iZ (k : Int)))] [] (ms σ (mKs B h v k) F) := by
  intro n
  induction n with
  | zero =>
    intro k hk hn
    exact absurd hn (by omega)
  | succ n ih =>
    intro k hk hn
    refine q_iload_n dX7_kind_31 rfl rfl ?_
    refine q_aload_n dX7_kind_32 rfl rfl ?_
    refine sg7 (kf := 0) (v := .ref 385) dX7_kind_33 flX7_7 (show kd 384 = 7 from rfl) (by decide) rfl ?_
    refine z_iconst dX7_kind_36 ?_
    refine s_iald (n := 1583) (x := B 3) dX7_kind_37 (show kd 385 = 100 + 1583 from rfl) (by omega) (by omega) (by decide) (by show mKs B h v k 3 = _; exact mKs_o B h v (by decide) k) ?_
    refine z_icmp_ge (tgt := 69) dX7_kind_38 (by decide) (by unfold inR at *; omega) (by unfold inR at *; omega) (fun c_1 => ?_) (fun c_1 => ?_)
    · refine z_iconst dX7_kind_69 ?_
      exact s_zret dX7_kind_70 rfl (by omega) ⟨rfl, by rw [show k = (B 3).toNat by omega]⟩
    · refine q_aload_n dX7_kind_41 rfl rfl ?_
      refine sg7 (kf := 0) (v := .ref 385) dX7_kind_42 flX7_7 (show kd 384 = 7 from rfl) (by decide) rfl ?_
      refine z_bipush dX7_kind_45 (by decide +kernel) ?_
      refine z_bipush dX7_kind_47 (by decide +kernel) ?_
      refine q_iload_n dX7_kind_49 rfl rfl ?_
      refine z_imul dX7_kind_50 ?_
      refine z_iadd dX7_kind_51 ?_
      refine z_iconst dX7_kind_52 ?_
      refine z_iadd dX7_kind_53 ?_
      refine z_bipush dX7_kind_54 (by decide +kernel) ?_
      refine z_iadd dX7_kind_56 ?_
      refine q_iload_n dX7_kind_57 rfl rfl ?_
      refine z_iadd dX7_kind_58 ?_
      refine z_iconst dX7_kind_59 ?_
      refine z_isub dX7_kind_60 ?_
      refine q_iload_n dX7_kind_61 rfl rfl ?_
      refine ma_st dX7_kind_62 (by omega) (by omega) ?_
      refine z_iinc dX7_kind_63 rfl (by decide) ?_
      show sE g_tt _ _ _ 66 [some (.ref 384), some (.int (iZ (h : Int))), some (.int (iZ v)), some (.int (iZ ((k : Int) + 1)))] [] (ms σ (va_up (mKs B h v k) ((((((53 + (50 * (k : Int))) + 1) + 11) + (h : Int)) - 5).toNat) v) F)
      refine q_goto (tgt := 31) dX7_kind_66 (by decide) ?_
      have k9 := ih (k + 1) (by omega) (by omega)
      exact sE_eq (by rw [mKs, show ((53 : Int) + 50 * (k : Int) + 1 + 11 + (h : Int) - 5).toNat = 60 + 50 * k + h by omega]) k9
set_option maxHeartbeats 4000000 in
set_option maxRecDepth 100000 in
theorem m_kind {d : Nat} (hd : 2 ≤ d) {h v : Int} (hh : inR h) (hv : inR v) (σ : gS) (A F : Nat → Int) (h3 : 0 ≤ A 3) (h30 : A 3 ≤ 30) : sC mX7_kind d [.ref 384, .int (iZ h), .int (iZ v)] (ms σ A F) (fun r σ' => r = some (.int (iZ (if (0 ≤ h ∧ h < 8) ∧ 0 ≤ v ∧ v ≤ 40 then 1 else 0))) ∧ σ' = ms σ (if (0 ≤ h ∧ h < 8) ∧ 0 ≤ v ∧ v ≤ 40 then mKind A h.toNat v else A) F) := by
  refine sC_of rfl (Nat.le_of_ble_eq_true rfl) ?_
  show sE g_tt _ _ _ 0 [some (.ref 384), some (.int (iZ h)), some (.int (iZ v)), none] [] (ms σ A F)
  refine q_iload_n dX7_kind_0 rfl rfl ?_
  refine s_callS (As := [.int (iZ h)]) (S := []) dX7_kind_1 okX7_isHouse mlX7_70 rfl (by omega) rfl (Nat.le_of_ble_eq_true rfl) (m_isHouse (d := d - 1) (by omega) (h := h) (by unfold inR at *; omega) (ms σ A F)) (fun v_ σ_ hq => ?_)
  obtain ⟨rfl, e9⟩ := hq
  have e9 := e9.symm
  subst e9
  show sE g_tt _ _ _ 4 [some (.ref 384), some (.int (iZ h)), some (.int (iZ v)), none] [.int (iZ (if 0 ≤ h ∧ h < 8 then 1 else 0))] (ms σ A F)
  refine z_if_eq (tgt := 17) dX7_kind_4 (by decide) inR_01 (fun c_1 => ?_) (fun c_1 => ?_)
  · have c_1 := if01_0 c_1
    refine z_iconst dX7_kind_17 ?_
    exact s_zret dX7_kind_18 rfl (by omega) ⟨by first | (congr 3; (repeat (first | rw [if_pos (by omega)] | rw [if_neg (by omega)])); done) | (exfalso; omega), by (first | rfl | ((repeat (first | rw [if_pos (by omega)] | rw [if_neg (by omega)])); (try rfl)))⟩
  · have c_1 := if01_1 c_1
    refine q_iload_n dX7_kind_7 rfl rfl ?_
    refine z_iconst dX7_kind_8 ?_
    refine z_bipush dX7_kind_9 (by decide +kernel) ?_
    refine s_callS (As := [.int (iZ v), .int (iZ 0), .int (iZ 40)]) (S := []) dX7_kind_11 okX7_isIn mlX7_66 rfl (by omega) rfl (Nat.le_of_ble_eq_true rfl) (m_isIn (d := d - 1) (v := v) (a := 0) (b := 40) (by unfold inR at *; omega) (by unfold inR at *; omega) (by unfold inR at *; omega) (ms σ A F)) (fun v_ σ_ hq => ?_)
    obtain ⟨rfl, e9⟩ := hq
    have e9 := e9.symm
    subst e9
    show sE g_tt _ _ _ 14 [some (.ref 384), some (.int (iZ h)), some (.int (iZ v)), none] [.int (iZ (if 0 ≤ v ∧ v ≤ 40 then 1 else 0))] (ms σ A F)
    refine z_if_ne (tgt := 19) dX7_kind_14 (by decide) inR_01 (fun c_2 => ?_) (fun c_2 => ?_)
    · have c_2 := if01_1 c_2
      refine q_aload_n dX7_kind_19 rfl rfl ?_
      refine sg7 (kf := 0) (v := .ref 385) dX7_kind_20 flX7_7 (show kd 384 = 7 from rfl) (by decide) rfl ?_
      refine z_bipush dX7_kind_23 (by decide +kernel) ?_
      refine q_iload_n dX7_kind_25 rfl rfl ?_
      refine z_iadd dX7_kind_26 ?_
      refine q_iload_n dX7_kind_27 rfl rfl ?_
      refine ma_st dX7_kind_28 (by omega) (by omega) ?_
      refine z_iconst dX7_kind_29 ?_
      refine q_istore_n dX7_kind_30 rfl (by decide) ?_
      show sE g_tt _ _ _ 31 [some (.ref 384), some (.int (iZ h)), some (.int (iZ v)), some (.int (iZ 0))] [] (ms σ (va_up A ((11 + h).toNat) v) F)
      obtain ⟨j, rfl⟩ : ∃ j : Nat, h = (j : Int) := ⟨h.toNat, by omega⟩
      rw [if_pos (by omega), if_pos (by omega)]
      have k9 := lp_kind (d := d) (h := j) (v := v) (by omega) σ (va_up A (11 + j) v) F (by rw [va_up_ne _ _ (by omega)]; exact h3) (by rw [va_up_ne _ _ (by omega)]; exact h30) 31 0 (by rw [va_up_ne _ _ (by omega)]; exact h3) (by rw [va_up_ne _ _ (by omega)]; omega)
      rw [show va_up A (11 + j) v 3 = A 3 from va_up_ne _ _ (by omega)] at k9
      exact k9
    · have c_2 := if01_0 c_2
      refine z_iconst dX7_kind_17 ?_
      exact s_zret dX7_kind_18 rfl (by omega) ⟨by first | (congr 3; (repeat (first | rw [if_pos (by omega)] | rw [if_neg (by omega)])); done) | (exfalso; omega), by (first | rfl | ((repeat (first | rw [if_pos (by omega)] | rw [if_neg (by omega)])); (try rfl)))⟩
/-- n nights (0: one could not come) -/
noncomputable def mNi (W V : wF) : Nat → (Nat → Int) → (Nat → Int) → Int × (Nat → Int) × (Nat → Int)
  | 0, A, F => (1, A, F)
  | n + 1, A, F => if A 5 = 9999 then (0, A, F) else mNi W V n (mPass W V (mKeep A) F).1 (mPass W V (mKeep A) F).2
theorem mNi_ok {T : Nat → Int} {W V : wF} {nt c : Int} (hW : wOK T 100000 nt W) (hV : vOK T 100000 nt V) (hc : 80 ≤ c) (hc9 : c ≤ 90000) : ∀ (n : Nat) (A F : Nat → Int), gd c nt A → 0 ≤ A 3 → A 3 ≤ 30 → 0 ≤ F 26 → gd c nt (mNi W V n A F).2.1 ∧ 0 ≤ (mNi W V n A F).2.1 3 ∧ (mNi W V n A F).2.1 3 ≤ 30 ∧ fS F (mNi W V n A F).2.2 ∧ ((mNi W V n A F).1 = 0 ∨ (mNi W V n A F).1 = 1) ∧ (A 5 + n ≤ 9999 → (mNi W V n A F).1 = 1) := by
  intro n
  induction n with
  | zero => intro A F g h3 h30 h26; exact ⟨g, h3, h30, ⟨fun _ _ _ _ _ _ _ _ => rfl, h26⟩, Or.inr rfl, fun _ => rfl⟩
  | succ n ih =>
    intro A F g h3 h30 h26
    simp only [mNi]
    split
    · exact ⟨g, h3, h30, ⟨fun _ _ _ _ _ _ _ _ => rfl, h26⟩, Or.inl rfl, fun h => by omega⟩
    · rename_i c9
      have g2 := gd_mono (gd_keep g h3 h30) hc9
      have k5 : mKeep A 5 = A 5 := mKeep_o A h3 h30 (by omega)
      have a5 := g.2.2.2.2.2.1
      have k3 := mKeep_3r A h3 h30
      have e3 := mPass_o hW hV g2 F (i := 3) (by omega)
      have e5 := mPass_5 hW hV g2 F
      have g3 := gd_pass hW hV g2 (by omega) F
      obtain ⟨q1, q2, q3, q4, q5, q6⟩ := ih (mPass W V (mKeep A) F).1 (mPass W V (mKeep A) F).2 (gd_mono g3 hc) (by omega) (by omega) (fS_pass _ _).2
      exact ⟨q1, q2, q3, fS_tr (fS_pass _ _) q4, q5, fun h => q6 (by omega)⟩
set_option maxHeartbeats 4000000 in
set_option maxRecDepth 100000 in
theorem lp_arePassed {d N : Nat} (hd : 9 ≤ d) (hn60 : N ≤ 60) (σ : gS) {W V : wF} {nt : Int} (hW : wOK (σ.2.1 387) 100000 nt W) (hV : vOK (σ.2.1 387) 100000 nt V) : ∀ (n : Nat) (A F : Nat → Int) (k : Nat) (σ1 : gS), gd 90000 nt A → 0 ≤ A 3 → A 3 ≤ 30 → inR (F 23) → eqS σ σ1 → k ≤ N → (N : Int) - (k : Int) < (n : Int) → sE g_tt mX7_arePassed d (fun r σ' => r = some (.int (iZ ((mNi W V (N - k) A F).1))) ∧ ∃ σ2, σ' = ms σ2 (mNi W V (N - k) A F).2.1 (mNi W V (N - k) A F).2.2 ∧ eqS σ σ2) 7 [some (.ref 384), some (.int (iZ (N : Int))), some (.int (iZ (k : Int)))] [] (ms σ1 A F) := by
  intro n
  induction n with
  | zero =>
    intro A F k σ1 g h3 h30 h23 hE1 hk hn
    exact absurd hn (by omega)
  | succ n ih =>
    intro A F k σ1 g h3 h30 h23 hE1 hk hn
    have g2 := gd_keep g h3 h30
    have k5 : mKeep A 5 = A 5 := mKeep_o A h3 h30 (by omega)
    have a5 := g.2.2.2.2.2.1
    have k3 := mKeep_3r A h3 h30
    have e3 := mPass_o hW hV g2 F (i := 3) (by omega)
    refine q_iload_n dX7_arePassed_7 rfl rfl ?_
    refine q_iload_n dX7_arePassed_8 rfl rfl ?_
    refine z_icmp_ge (tgt := 40) dX7_arePassed_9 (by decide) (by unfold inR at *; omega) (by unfold inR at *; omega) (fun c_1 => ?_) (fun c_1 => ?_)
    · refine z_iconst dX7_arePassed_40 ?_
      exact s_zret dX7_arePassed_41 rfl (by omega) ⟨by rw [show N - k = 0 by omega, mNi], σ1, by rw [show N - k = 0 by omega, mNi], hE1⟩
    · refine q_aload_n dX7_arePassed_12 rfl rfl ?_
      refine sg7 (kf := 0) (v := .ref 385) dX7_arePassed_13 flX7_7 (show kd 384 = 7 from rfl) (by decide) rfl ?_
      refine z_iconst dX7_arePassed_16 ?_
      refine s_iald (n := 1583) (x := A 5) dX7_arePassed_17 (show kd 385 = 100 + 1583 from rfl) (by omega) (by omega) (by decide) rfl ?_
      refine z_sipush dX7_arePassed_18 (by decide +kernel) ?_
      refine z_icmp_ne (tgt := 26) dX7_arePassed_21 (by decide) (by unfold inR at *; omega) (by unfold inR at *; omega) (fun c_2 => ?_) (fun c_2 => ?_)
      · refine q_aload_n dX7_arePassed_26 rfl rfl ?_
        refine s_callV (ci := 7) (a := 384) (As := []) (S := []) dX7_arePassed_27 okX7_keep mlX7_337 rfl (by omega) rfl (Nat.le_of_ble_eq_true rfl) (show kd 384 = 7 from rfl) (by decide) rfl (m_keep (d := d - 1) σ1 A F h3 h30) (fun v_ σ_ hq => ?_)
        obtain ⟨rfl, e9⟩ := hq
        have e9 := e9.symm
        subst e9
        show sE g_tt _ _ _ 30 [some (.ref 384), some (.int (iZ (N : Int))), some (.int (iZ (k : Int)))] [] (ms σ1 (mKeep A) F)
        refine q_aload_n dX7_arePassed_30 rfl rfl ?_
        refine s_callV (ci := 7) (a := 384) (As := []) (S := []) dX7_arePassed_31 okX7_pass mlX7_340 rfl (by omega) rfl (Nat.le_of_ble_eq_true rfl) (show kd 384 = 7 from rfl) (by decide) rfl (m_pass (d := d - 1) (by omega) σ1 (mKeep A) F (by rw [hE1.2.1 387 (by decide) (by decide)]; exact hW) (by rw [hE1.2.1 387 (by decide) (by decide)]; exact hV) g2 h23) (fun v_ σ_ hq => ?_)
        obtain ⟨rfl, σ2, e9, hE2⟩ := hq
        subst e9
        show sE g_tt _ _ _ 34 [some (.ref 384), some (.int (iZ (N : Int))), some (.int (iZ (k : Int)))] [] (ms σ2 ((mPass W V (mKeep A) F).1) ((mPass W V (mKeep A) F).2))
        refine z_iinc dX7_arePassed_34 rfl (by decide) ?_
        show sE g_tt _ _ _ 37 [some (.ref 384), some (.int (iZ (N : Int))), some (.int (iZ ((k : Int) + 1)))] [] (ms σ2 ((mPass W V (mKeep A) F).1) ((mPass W V (mKeep A) F).2))
        refine q_goto (tgt := 7) dX7_arePassed_37 (by decide) ?_
        have e : mNi W V (N - k) A F = mNi W V (N - (k + 1)) (mPass W V (mKeep A) F).1 (mPass W V (mKeep A) F).2 := by rw [show N - k = (N - (k + 1)) + 1 by omega, mNi, if_neg c_2]
        rw [e]
        exact ih (mPass W V (mKeep A) F).1 (mPass W V (mKeep A) F).2 (k + 1) σ2 (gd_mono (gd_pass hW hV g2 (by omega) F) (by decide)) (by omega) (by omega) (by rw [(fS_pass (mKeep A) F).1 23 (by decide) (by decide) (by decide) (by decide) (by decide) (by decide) (by decide)]; exact h23) (eqS_tr hE1 hE2) (by omega) (by omega)
      · refine z_iconst dX7_arePassed_24 ?_
        exact s_zret dX7_arePassed_25 rfl (by omega) ⟨by rw [show N - k = (N - (k + 1)) + 1 by omega, mNi, if_pos c_2], σ1, by rw [show N - k = (N - (k + 1)) + 1 by omega, mNi, if_pos c_2], hE1⟩
set_option maxHeartbeats 4000000 in
set_option maxRecDepth 100000 in
theorem m_arePassed {d N : Nat} (hd : 9 ≤ d) (hn60 : N ≤ 60) (σ : gS) (A F : Nat → Int) {W V : wF} {nt : Int} (hW : wOK (σ.2.1 387) 100000 nt W) (hV : vOK (σ.2.1 387) 100000 nt V) (g : gd 90000 nt A) (h3 : 0 ≤ A 3) (h30 : A 3 ≤ 30) (h23 : inR (F 23)) : sC mX7_arePassed d [.ref 384, .int (iZ (N : Int))] (ms σ A F) (fun r σ' => r = some (.int (iZ ((mNi W V N A (va_up F 24 0)).1))) ∧ ∃ σ2, σ' = ms σ2 (mNi W V N A (va_up F 24 0)).2.1 (mNi W V N A (va_up F 24 0)).2.2 ∧ eqS σ σ2) := by
  refine sC_of rfl (Nat.le_of_ble_eq_true rfl) ?_
  show sE g_tt _ _ _ 0 [some (.ref 384), some (.int (iZ (N : Int))), none] [] (ms σ A F)
  refine q_aload_n dX7_arePassed_0 rfl rfl ?_
  refine z_iconst dX7_arePassed_1 ?_
  refine mp (kf := 24) dX7_arePassed_2 flX7_310 (by decide) ?_
  refine z_iconst dX7_arePassed_5 ?_
  refine q_istore_n dX7_arePassed_6 rfl (by decide) ?_
  show sE g_tt _ _ _ 7 [some (.ref 384), some (.int (iZ (N : Int))), some (.int (iZ 0))] [] (ms σ A (va_up F 24 0))
  exact lp_arePassed (N := N) hd hn60 σ hW hV 61 A (va_up F 24 0) 0 σ g h3 h30 h23 (eqS_rf σ) (by omega) (by omega)
set_option maxHeartbeats 4000000 in
set_option maxRecDepth 100000 in
theorem m_night {d : Nat} (hd : 10 ≤ d) {n : Int} (hn : inR n) (σ : gS) (A F : Nat → Int) {W V : wF} {nt : Int} (hW : wOK (σ.2.1 387) 100000 nt W) (hV : vOK (σ.2.1 387) 100000 nt V) (g : gd 90000 nt A) (h3 : 0 ≤ A 3) (h30 : A 3 ≤ 30) (h23 : inR (F 23)) (h26 : 0 ≤ F 26) : sC mX7_night d [.ref 384, .int (iZ n)] (ms σ A F) (fun r σ' => r = some (.int (iZ (if 1 ≤ n ∧ n ≤ 60 ∧ A 5 + n ≤ 9999 then (mNi W V n.toNat A (va_up F 24 0)).2.2 24 else -1))) ∧ ∃ σ2, σ' = ms σ2 (if 1 ≤ n ∧ n ≤ 60 ∧ A 5 + n ≤ 9999 then (mNi W V n.toNat A (va_up F 24 0)).2.1 else A) (if 1 ≤ n ∧ n ≤ 60 ∧ A 5 + n ≤ 9999 then (mNi W V n.toNat A (va_up F 24 0)).2.2 else F) ∧ eqS σ σ2) := by
  have a5 := g.2.2.2.2.2.1
  have ok9 := mNi_ok hW hV (by decide) (by decide) n.toNat A (va_up F 24 0) g h3 h30 h26
  refine sC_of rfl (Nat.le_of_ble_eq_true rfl) ?_
  show sE g_tt _ _ _ 0 [some (.ref 384), some (.int (iZ n))] [] (ms σ A F)
  refine q_iload_n dX7_night_0 rfl rfl ?_
  refine z_iconst dX7_night_1 ?_
  refine z_bipush dX7_night_2 (by decide +kernel) ?_
  refine s_callS (As := [.int (iZ n), .int (iZ 1), .int (iZ 60)]) (S := []) dX7_night_4 okX7_isIn mlX7_66 rfl (by omega) rfl (Nat.le_of_ble_eq_true rfl) (m_isIn (d := d - 1) (v := n) (a := 1) (b := 60) (by unfold inR at *; omega) (by unfold inR at *; omega) (by unfold inR at *; omega) (ms σ A F)) (fun v_ σ_ hq => ?_)
  obtain ⟨rfl, e9⟩ := hq
  have e9 := e9.symm
  subst e9
  show sE g_tt _ _ _ 7 [some (.ref 384), some (.int (iZ n))] [.int (iZ (if 1 ≤ n ∧ n ≤ 60 then 1 else 0))] (ms σ A F)
  refine z_if_eq (tgt := 39) dX7_night_7 (by decide) inR_01 (fun c_1 => ?_) (fun c_1 => ?_)
  · have c_1 := if01_0 c_1
    refine z_iconst dX7_night_39 ?_
    exact s_iretZ dX7_night_40 rfl ⟨by rw [if_neg (by omega)], σ, by rw [if_neg (by omega), if_neg (by omega)], eqS_rf σ⟩
  · have c_1 := if01_1 c_1
    refine q_aload_n dX7_night_10 rfl rfl ?_
    refine sg7 (kf := 0) (v := .ref 385) dX7_night_11 flX7_7 (show kd 384 = 7 from rfl) (by decide) rfl ?_
    refine z_iconst dX7_night_14 ?_
    refine s_iald (n := 1583) (x := A 5) dX7_night_15 (show kd 385 = 100 + 1583 from rfl) (by omega) (by omega) (by decide) rfl ?_
    refine q_iload_n dX7_night_16 rfl rfl ?_
    refine z_iadd dX7_night_17 ?_
    refine z_sipush dX7_night_18 (by decide +kernel) ?_
    refine z_icmp_gt (tgt := 39) dX7_night_21 (by decide) (by unfold inR at *; omega) (by unfold inR at *; omega) (fun c_2 => ?_) (fun c_2 => ?_)
    · refine z_iconst dX7_night_39 ?_
      exact s_iretZ dX7_night_40 rfl ⟨by rw [if_neg (by omega)], σ, by rw [if_neg (by omega), if_neg (by omega)], eqS_rf σ⟩
    · refine q_aload_n dX7_night_24 rfl rfl ?_
      refine q_iload_n dX7_night_25 rfl rfl ?_
      refine z_top (y := ((n.toNat : Nat) : Int)) (by omega) ?_
      refine s_callV (ci := 7) (a := 384) (As := [.int (iZ ((n.toNat : Nat) : Int))]) (S := []) dX7_night_26 okX7_arePassed mlX7_343 rfl (by omega) rfl (Nat.le_of_ble_eq_true rfl) (show kd 384 = 7 from rfl) (by decide) rfl (m_arePassed (d := d - 1) (N := n.toNat) (by omega) (by omega) σ A F hW hV g h3 h30 h23) (fun v_ σ_ hq => ?_)
      obtain ⟨rfl, σ2, e9, hE2⟩ := hq
      subst e9
      show sE g_tt _ _ _ 29 [some (.ref 384), some (.int (iZ n))] [.int (iZ ((mNi W V n.toNat A (va_up F 24 0)).1))] (ms σ2 ((mNi W V n.toNat A (va_up F 24 0)).2.1) ((mNi W V n.toNat A (va_up F 24 0)).2.2))
      refine z_if_eq (tgt := 39) dX7_night_29 (by decide) (by rcases ok9.2.2.2.2.1 with e | e <;> rw [e] <;> unfold inR <;> decide) (fun c_3 => ?_) (fun c_3 => ?_)
      · refine z_iconst dX7_night_39 ?_
        exact s_iretZ dX7_night_40 rfl ⟨by exfalso; have := (ok9.2.2.2.2.2) (by omega); omega, σ2, by exfalso; have := (ok9.2.2.2.2.2) (by omega); omega, hE2⟩
      · refine q_aload_n dX7_night_32 rfl rfl ?_
        refine sg7 (kf := 24) (v := .int (iZ (((mNi W V n.toNat A (va_up F 24 0)).2.2) 24))) dX7_night_33 flX7_310 (show kd 384 = 7 from rfl) (by decide) rfl ?_
        refine q_goto (tgt := 40) dX7_night_36 (by decide) ?_
        exact s_iretZ dX7_night_40 rfl ⟨by rw [if_pos (by omega)], σ2, by rw [if_pos (by omega), if_pos (by omega)], hE2⟩
/-- what a draw x of years does (house j) -/
noncomputable def mHap (W V : wF) (x : Int) (j : Nat) (A F : Nat → Int) : (Nat → Int) × (Nat → Int) :=
  if x.tmod 6 = 0 ∨ x.tmod 6 = 1 then (if A (11 + j) + (1 + x.tmod 3) ≤ 99 then va_up A (11 + j) (A (11 + j) + (1 + x.tmod 3)) else A, F)
  else if x.tmod 6 = 2 then (if wA W A j + 2 ≤ A (11 + j) then mThank A F j else (A, F))
  else if x.tmod 6 = 3 then ((mS W A F).2.1, (mS W A F).2.2)
  else if A 5 < 9999 then mPass W V A F else (A, F)
def mHj (x : Int) : Nat := ((x.tdiv 6).tmod 8).toNat
theorem mHj_lt {x : Int} (h : 0 ≤ x) : mHj x < 8 := by
  have h1 : 0 ≤ x.tdiv 6 := Int.tdiv_nonneg h (by decide)
  have := tmod_ran h1 (show (0 : Int) < 8 by decide)
  unfold mHj
  omega
theorem mHap_ok {T : Nat → Int} {W V : wF} {nt : Int} (hW : wOK T 100000 nt W) (hV : vOK T 100000 nt V) {x : Int} (hx : 0 ≤ x) {j : Nat} (hj : j < 8) {A F : Nat → Int} {c : Int} (g : gd c nt A) (hc : 80 ≤ c) (hc9 : c ≤ 90000) (h26 : 0 ≤ F 26) : gd (c + 3) nt (mHap W V x j A F).1 ∧ fS F (mHap W V x j A F).2 ∧ (mHap W V x j A F).1 3 = A 3 := by
  have t3 := tmod_ran hx (show (0 : Int) < 3 by decide)
  have kr := kd_ran g hj
  have rf : fS F F := ⟨fun _ _ _ _ _ _ _ _ => rfl, h26⟩
  unfold mHap
  split
  · refine ⟨?_, rf, ?_⟩
    · show gd (c + 3) nt (if _ then _ else A)
      split
      · exact gd_kind g hj (by omega) (by omega)
      · exact gd_mono g (by omega)
    · show (if _ then _ else A) 3 = A 3
      split
      · exact va_up_ne _ _ (by omega)
      · rfl
  · split
    · split
      · have w : 0 ≤ wA W A j := wOK_0 hW A (gd_mono g (by omega)) j hj
        exact ⟨gd_mono (gd_thank g F hj (by omega)) (by omega), ⟨fun k a b d _ _ _ _ => mThank_F _ _ _ a b d, by rw [mThank_26]; exact Int.natCast_nonneg _⟩, mThank_lo A F hj g.2.2.2.2.1.1 g.2.2.2.2.1.2 (by decide) (by decide) (by decide)⟩
      · exact ⟨gd_mono g (by omega), rf, rfl⟩
    · split
      · have g1 := gd_mono g (show c ≤ 100000 by omega)
        have q := mS_ok (F := F) (Int.le_refl _) hW g1
        exact ⟨gd_mono (gd_rest hW q.1 q.2.1).1 (by omega), fS_mS _ _, mS_lo hW g1 (by omega)⟩
      · split
        · have g1 := gd_mono g (show c ≤ 90000 by omega)
          exact ⟨gd_mono (gd_pass hW hV g1 (by assumption) F) (by omega), fS_pass _ _, mPass_o hW hV g1 F (by omega)⟩
        · exact ⟨gd_mono g (by omega), rf, rfl⟩
/-- n draws of years -/
noncomputable def mYr (W V : wF) : Nat → (Nat → Int) → (Nat → Int) → (Nat → Int) × (Nat → Int)
  | 0, A, F => (A, F)
  | n + 1, A, F => mYr W V n (mHap W V (A 6) (mHj (A 6)) (va_up A 6 (mNew (A 6))) F).1 (mHap W V (A 6) (mHj (A 6)) (va_up A 6 (mNew (A 6))) F).2
set_option maxHeartbeats 4000000 in
set_option maxRecDepth 100000 in
theorem m_happens {d j : Nat} (hd : 9 ≤ d) {x : Int} (hx : 0 ≤ x) (hx4 : x ≤ 40000) (hj : j < 8) (ej : (x.tdiv 6).tmod 8 = (j : Int)) (σ : gS) (A F : Nat → Int) {W V : wF} {nt : Int} (hW : wOK (σ.2.1 387) 100000 nt W) (hV : vOK (σ.2.1 387) 100000 nt V) (g : gd 90000 nt A) (h23 : inR (F 23)) (h26 : 0 ≤ F 26) : sC mX7_happens d [.ref 384, .int (iZ x)] (ms σ A F) (fun r σ' => r = none ∧ ∃ σ2, σ' = ms σ2 (mHap W V x j A F).1 (mHap W V x j A F).2 ∧ eqS σ σ2) := by
  have ok := okA_gd (by decide) ⟨g, h23, h26⟩
  have ww := hW A (A 2) (gd_mono g (by decide)) g.2.2.2.2.2.2.2.2.2.1 g.2.2.2.2.2.2.2.2.2.2 j hj
  have kr := kd_ran g hj
  have a5 := g.2.2.2.2.2.1
  have t3 := tmod_ran hx (show (0 : Int) < 3 by decide)
  have t6 := tmod_ran hx (show (0 : Int) < 6 by decide)
  have sl := (mS_ok (F := F) (Int.le_refl _) hW (gd_mono g (by decide))).2.2
  have dr := inR_tdiv (x := x) (y := 6) (by unfold inR; omega) (by decide)
  refine sC_of rfl (Nat.le_of_ble_eq_true rfl) ?_
  show sE g_tt _ _ _ 0 [some (.ref 384), some (.int (iZ x)), none] [] (ms σ A F)
  refine q_iload_n dX7_happens_0 rfl rfl ?_
  refine z_bipush dX7_happens_1 (by decide +kernel) ?_
  refine z_idiv dX7_happens_3 (by unfold inR at *; omega) (by unfold inR at *; omega) (by decide) ?_
  refine z_bipush dX7_happens_4 (by decide +kernel) ?_
  refine z_irem dX7_happens_6 (by unfold inR at *; omega) (by unfold inR at *; omega) (by decide) ?_
  refine z_top (y := (j : Int)) ej ?_
  refine q_istore_n dX7_happens_7 rfl (by decide) ?_
  show sE g_tt _ _ _ 8 [some (.ref 384), some (.int (iZ x)), some (.int (iZ (j : Int)))] [] (ms σ A F)
  refine q_iload_n dX7_happens_8 rfl rfl ?_
  refine z_bipush dX7_happens_9 (by decide +kernel) ?_
  refine z_irem dX7_happens_11 (by unfold inR at *; omega) (by unfold inR at *; omega) (by decide) ?_
  by_cases s_1 : x.tmod 6 = 0
  · refine z_top s_1 ?_
    refine q_tableIn (tgt := 44) (off := 32) dX7_happens_12 (by decide +kernel) (by decide +kernel) (by decide +kernel) (by decide) ?_
    refine q_aload_n dX7_happens_44 rfl rfl ?_
    refine q_iload_n dX7_happens_45 rfl rfl ?_
    refine z_iconst dX7_happens_46 ?_
    refine q_iload_n dX7_happens_47 rfl rfl ?_
    refine z_iconst dX7_happens_48 ?_
    refine z_irem dX7_happens_49 (by unfold inR at *; omega) (by unfold inR at *; omega) (by decide) ?_
    refine z_iadd dX7_happens_50 ?_
    refine s_callV (ci := 7) (a := 384) (As := [.int (iZ (j : Int)), .int (iZ (1 + (x.tmod 3)))]) (S := []) dX7_happens_51 okX7_canGood mlX7_334 rfl (by omega) rfl (Nat.le_of_ble_eq_true rfl) (show kd 384 = 7 from rfl) (by decide) rfl (m_canGood (d := d - 1) (by omega) (h := (j : Int)) (n := 1 + x.tmod 3) (by unfold inR; omega) σ A F (fun q => by show inR (A (11 + j) + (1 + x.tmod 3)); unfold inR; omega)) (fun v_ σ_ hq => ?_)
    obtain ⟨rfl, e9⟩ := hq
    have e9 := e9.symm
    subst e9
    show sE g_tt _ _ _ 54 [some (.ref 384), some (.int (iZ x)), some (.int (iZ (j : Int)))] [.int (iZ (if (0 ≤ (j : Int) ∧ (j : Int) < 8) ∧ A (11 + j) + (1 + x.tmod 3) ≤ 99 then 1 else 0))] (ms σ A F)
    refine z_if_eq (tgt := 117) dX7_happens_54 (by decide) inR_01 (fun c_2 => ?_) (fun c_2 => ?_)
    · have c_2 := if01_0 c_2
      exact s_vret dX7_happens_117 rfl ⟨rfl, σ, by unfold mHap; (repeat (first | rw [if_pos (by omega)] | rw [if_neg (by omega)])); (try rfl), eqS_rf σ⟩
    · have c_2 := if01_1 c_2
      refine q_aload_n dX7_happens_57 rfl rfl ?_
      refine sg7 (kf := 0) (v := .ref 385) dX7_happens_58 flX7_7 (show kd 384 = 7 from rfl) (by decide) rfl ?_
      refine z_bipush dX7_happens_61 (by decide +kernel) ?_
      refine q_iload_n dX7_happens_63 rfl rfl ?_
      refine z_iadd dX7_happens_64 ?_
      refine q_dup2 dX7_happens_65 rfl rfl ?_
      refine s_iald (n := 1583) (x := A (11 + j)) dX7_happens_66 (show kd 385 = 100 + 1583 from rfl) (by omega) (by omega) (by decide) rfl ?_
      refine z_iconst dX7_happens_67 ?_
      refine q_iload_n dX7_happens_68 rfl rfl ?_
      refine z_iconst dX7_happens_69 ?_
      refine z_irem dX7_happens_70 (by unfold inR at *; omega) (by unfold inR at *; omega) (by decide) ?_
      refine z_iadd dX7_happens_71 ?_
      refine z_iadd dX7_happens_72 ?_
      refine ma_st dX7_happens_73 (by omega) (by omega) ?_
      refine q_goto (tgt := 117) dX7_happens_74 (by decide) ?_
      exact s_vret dX7_happens_117 rfl ⟨rfl, σ, by unfold mHap; (repeat (first | rw [if_pos (by omega)] | rw [if_neg (by omega)])); (try rfl), eqS_rf σ⟩
  by_cases s_3 : x.tmod 6 = 1
  · refine z_top s_3 ?_
    refine q_tableIn (tgt := 44) (off := 32) dX7_happens_12 (by decide +kernel) (by decide +kernel) (by decide +kernel) (by decide) ?_
    refine q_aload_n dX7_happens_44 rfl rfl ?_
    refine q_iload_n dX7_happens_45 rfl rfl ?_
    refine z_iconst dX7_happens_46 ?_
    refine q_iload_n dX7_happens_47 rfl rfl ?_
    refine z_iconst dX7_happens_48 ?_
    refine z_irem dX7_happens_49 (by unfold inR at *; omega) (by unfold inR at *; omega) (by decide) ?_
    refine z_iadd dX7_happens_50 ?_
    refine s_callV (ci := 7) (a := 384) (As := [.int (iZ (j : Int)), .int (iZ (1 + (x.tmod 3)))]) (S := []) dX7_happens_51 okX7_canGood mlX7_334 rfl (by omega) rfl (Nat.le_of_ble_eq_true rfl) (show kd 384 = 7 from rfl) (by decide) rfl (m_canGood (d := d - 1) (by omega) (h := (j : Int)) (n := 1 + x.tmod 3) (by unfold inR; omega) σ A F (fun q => by show inR (A (11 + j) + (1 + x.tmod 3)); unfold inR; omega)) (fun v_ σ_ hq => ?_)
    obtain ⟨rfl, e9⟩ := hq
    have e9 := e9.symm
    subst e9
    show sE g_tt _ _ _ 54 [some (.ref 384), some (.int (iZ x)), some (.int (iZ (j : Int)))] [.int (iZ (if (0 ≤ (j : Int) ∧ (j : Int) < 8) ∧ A (11 + j) + (1 + x.tmod 3) ≤ 99 then 1 else 0))] (ms σ A F)
    refine z_if_eq (tgt := 117) dX7_happens_54 (by decide) inR_01 (fun c_4 => ?_) (fun c_4 => ?_)
    · have c_4 := if01_0 c_4
      exact s_vret dX7_happens_117 rfl ⟨rfl, σ, by unfold mHap; (repeat (first | rw [if_pos (by omega)] | rw [if_neg (by omega)])); (try rfl), eqS_rf σ⟩
    · have c_4 := if01_1 c_4
      refine q_aload_n dX7_happens_57 rfl rfl ?_
      refine sg7 (kf := 0) (v := .ref 385) dX7_happens_58 flX7_7 (show kd 384 = 7 from rfl) (by decide) rfl ?_
      refine z_bipush dX7_happens_61 (by decide +kernel) ?_
      refine q_iload_n dX7_happens_63 rfl rfl ?_
      refine z_iadd dX7_happens_64 ?_
      refine q_dup2 dX7_happens_65 rfl rfl ?_
      refine s_iald (n := 1583) (x := A (11 + j)) dX7_happens_66 (show kd 385 = 100 + 1583 from rfl) (by omega) (by omega) (by decide) rfl ?_
      refine z_iconst dX7_happens_67 ?_
      refine q_iload_n dX7_happens_68 rfl rfl ?_
      refine z_iconst dX7_happens_69 ?_
      refine z_irem dX7_happens_70 (by unfold inR at *; omega) (by unfold inR at *; omega) (by decide) ?_
      refine z_iadd dX7_happens_71 ?_
      refine z_iadd dX7_happens_72 ?_
      refine ma_st dX7_happens_73 (by omega) (by omega) ?_
      refine q_goto (tgt := 117) dX7_happens_74 (by decide) ?_
      exact s_vret dX7_happens_117 rfl ⟨rfl, σ, by unfold mHap; (repeat (first | rw [if_pos (by omega)] | rw [if_neg (by omega)])); (try rfl), eqS_rf σ⟩
  by_cases s_5 : x.tmod 6 = 2
  · refine z_top s_5 ?_
    refine q_tableIn (tgt := 77) (off := 65) dX7_happens_12 (by decide +kernel) (by decide +kernel) (by decide +kernel) (by decide) ?_
    refine q_aload_n dX7_happens_77 rfl rfl ?_
    refine q_iload_n dX7_happens_78 rfl rfl ?_
    refine s_callV (ci := 7) (a := 384) (As := [.int (iZ (j : Int))]) (S := []) dX7_happens_79 okX7_canThank mlX7_316 rfl (by omega) rfl (Nat.le_of_ble_eq_true rfl) (show kd 384 = 7 from rfl) (by decide) rfl (m_canThank (d := d - 1) (by omega) hj σ A F ok.1 ok.2.1 ok.2.2.1 ok.2.2.2.1 ww.1 ww.2.1 ww.2.2) (fun v_ σ_ hq => ?_)
    obtain ⟨rfl, σ1, e9, hE1⟩ := hq
    subst e9
    show sE g_tt _ _ _ 82 [some (.ref 384), some (.int (iZ x)), some (.int (iZ (j : Int)))] [.int (iZ (if wA W A j + 2 ≤ A (11 + j) then 1 else 0))] (ms σ1 A F)
    refine z_if_eq (tgt := 117) dX7_happens_82 (by decide) inR_01 (fun c_6 => ?_) (fun c_6 => ?_)
    · have c_6 := if01_0 c_6
      exact s_vret dX7_happens_117 rfl ⟨rfl, σ1, by unfold mHap; (repeat (first | rw [if_pos (by omega)] | rw [if_neg (by omega)])); (try rfl), hE1⟩
    · have c_6 := if01_1 c_6
      refine q_aload_n dX7_happens_85 rfl rfl ?_
      refine q_iload_n dX7_happens_86 rfl rfl ?_
      refine s_callV (ci := 7) (a := 384) (As := [.int (iZ (j : Int))]) (S := []) dX7_happens_87 okX7_thankNow mlX7_322 rfl (by omega) rfl (Nat.le_of_ble_eq_true rfl) (show kd 384 = 7 from rfl) (by decide) rfl (m_thankNow (d := d - 1) (h := j) (by omega) hj σ1 A F ok.1 ok.2.1 ok.2.2.1 ok.2.2.2.2.1 ok.2.2.2.2.2.1 ok.2.2.2.2.2.2.1 ok.2.2.2.2.2.2.2) (fun v_ σ_ hq => ?_)
      obtain ⟨rfl, e9⟩ := hq
      have e9 := e9.symm
      subst e9
      show sE g_tt _ _ _ 90 [some (.ref 384), some (.int (iZ x)), some (.int (iZ (j : Int)))] [] (ms σ1 ((mThank A F j).1) ((mThank A F j).2))
      refine q_goto (tgt := 117) dX7_happens_90 (by decide) ?_
      exact s_vret dX7_happens_117 rfl ⟨rfl, σ1, by unfold mHap; (repeat (first | rw [if_pos (by omega)] | rw [if_neg (by omega)])); (try rfl), hE1⟩
  by_cases s_7 : x.tmod 6 = 3
  · refine z_top s_7 ?_
    refine q_tableIn (tgt := 93) (off := 81) dX7_happens_12 (by decide +kernel) (by decide +kernel) (by decide +kernel) (by decide) ?_
    refine q_aload_n dX7_happens_93 rfl rfl ?_
    refine s_callV (ci := 7) (a := 384) (As := []) (S := []) dX7_happens_94 okX7_settleNow mlX7_331 rfl (by omega) rfl (Nat.le_of_ble_eq_true rfl) (show kd 384 = 7 from rfl) (by decide) rfl (m_settle (d := d - 1) (by omega) σ A F (Int.le_refl _) hW (gd_mono g (by decide)) h23) (fun v_ σ_ hq => ?_)
    obtain ⟨rfl, σ1, e9, hE1⟩ := hq
    subst e9
    show sE g_tt _ _ _ 97 [some (.ref 384), some (.int (iZ x)), some (.int (iZ (j : Int)))] [.int (iZ ((mS W A F).1.length : Int))] (ms σ1 ((mS W A F).2.1) ((mS W A F).2.2))
    refine z_if_ge (tgt := 117) dX7_happens_97 (by decide) (by unfold inR at *; omega) (fun c_8 => ?_) (fun c_8 => ?_)
    · exact s_vret dX7_happens_117 rfl ⟨rfl, σ1, by unfold mHap; (repeat (first | rw [if_pos (by omega)] | rw [if_neg (by omega)])); (try rfl), hE1⟩
    · exfalso
      omega
  refine q_tableOut (tgt := 101) dX7_happens_12 (by rw [iZ_toInt (by unfold inR at *; omega)]; omega) (by decide) ?_
  refine q_aload_n dX7_happens_101 rfl rfl ?_
  refine sg7 (kf := 0) (v := .ref 385) dX7_happens_102 flX7_7 (show kd 384 = 7 from rfl) (by decide) rfl ?_
  refine z_iconst dX7_happens_105 ?_
  refine s_iald (n := 1583) (x := A 5) dX7_happens_106 (show kd 385 = 100 + 1583 from rfl) (by omega) (by omega) (by decide) rfl ?_
  refine z_sipush dX7_happens_107 (by decide +kernel) ?_
  refine z_icmp_ge (tgt := 117) dX7_happens_110 (by decide) (by unfold inR at *; omega) (by unfold inR at *; omega) (fun c_9 => ?_) (fun c_9 => ?_)
  · exact s_vret dX7_happens_117 rfl ⟨rfl, σ, by unfold mHap; (repeat (first | rw [if_pos (by omega)] | rw [if_neg (by omega)])); (try rfl), eqS_rf σ⟩
  · refine q_aload_n dX7_happens_113 rfl rfl ?_
    refine s_callV (ci := 7) (a := 384) (As := []) (S := []) dX7_happens_114 okX7_pass mlX7_340 rfl (by omega) rfl (Nat.le_of_ble_eq_true rfl) (show kd 384 = 7 from rfl) (by decide) rfl (m_pass (d := d - 1) (by omega) σ A F hW hV g h23) (fun v_ σ_ hq => ?_)
    obtain ⟨rfl, σ1, e9, hE1⟩ := hq
    subst e9
    show sE g_tt _ _ _ 117 [some (.ref 384), some (.int (iZ x)), some (.int (iZ (j : Int)))] [] (ms σ1 ((mPass W V A F).1) ((mPass W V A F).2))
    exact s_vret dX7_happens_117 rfl ⟨rfl, σ1, by unfold mHap; (repeat (first | rw [if_pos (by omega)] | rw [if_neg (by omega)])); (try rfl), hE1⟩
