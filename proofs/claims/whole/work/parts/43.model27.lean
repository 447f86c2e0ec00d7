/-! ===== odds ===== -/
set_option maxHeartbeats 4000000 in
set_option maxRecDepth 100000 in
theorem lp_part {d a b : Nat} (hb : 0 < b) (ha5 : a ≤ 512) (hb5 : b ≤ 512) {u : Int} (hu : u = 0 ∨ u = 1) (σ : gS) : ∀ (q : Nat) (p : Nat) (l5 : Option Value), p ≤ 512 ∧ q ≤ 512 → Nat.gcd p q = Nat.gcd a b → sE g_tt mX7_part d (fun r σ' => r = some (.int (iZ (if u = 0 then ((a / Nat.gcd a b : Nat) : Int) else ((b / Nat.gcd a b : Nat) : Int)))) ∧ σ' = σ) 5 [some (.int (iZ (a : Int))), some (.int (iZ (b : Int))), some (.int (iZ u)), some (.int (iZ (p : Int))), some (.int (iZ (q : Int))), l5] [] σ := by
  intro q
  induction q using Nat.strongRecOn with
  | ind q ih =>
  intro p l5 hpq hg
  have hp0 : q = 0 → 0 < p := fun e => by
    subst e
    rw [Nat.gcd_zero_right] at hg
    rw [hg]
    exact Nat.gcd_pos_of_pos_right a hb
  refine q_iload dX7_part_5 rfl ?_
  refine z_if_eq (tgt := 26) dX7_part_7 (by decide) (by unfold inR at *; omega) (fun c_1 => ?_) (fun c_1 => ?_)
  · refine q_iload_n dX7_part_26 rfl rfl ?_
    refine z_if_eq (tgt := 34) dX7_part_27 (by decide) (by unfold inR at *; omega) (fun c_2 => ?_) (fun c_2 => ?_)
    · refine q_iload_n dX7_part_34 rfl rfl ?_
      refine q_iload_n dX7_part_35 rfl rfl ?_
      refine z_idiv dX7_part_36 (by unfold inR at *; omega) (by unfold inR at *; omega) (by omega) ?_
      exact s_iretZ dX7_part_37 rfl ⟨by rw [show Nat.gcd a b = p by rw [← hg, show q = 0 by omega, Nat.gcd_zero_right]]; (repeat (first | rw [if_pos (by omega)] | rw [if_neg (by omega)])); rfl, rfl⟩
    · refine q_iload_n dX7_part_30 rfl rfl ?_
      refine q_goto (tgt := 35) dX7_part_31 (by decide) ?_
      refine q_iload_n dX7_part_35 rfl rfl ?_
      refine z_idiv dX7_part_36 (by unfold inR at *; omega) (by unfold inR at *; omega) (by omega) ?_
      exact s_iretZ dX7_part_37 rfl ⟨by rw [show Nat.gcd a b = p by rw [← hg, show q = 0 by omega, Nat.gcd_zero_right]]; (repeat (first | rw [if_pos (by omega)] | rw [if_neg (by omega)])); rfl, rfl⟩
  · refine q_iload_n dX7_part_10 rfl rfl ?_
    refine q_iload dX7_part_11 rfl ?_
    refine z_irem dX7_part_13 (by unfold inR at *; omega) (by unfold inR at *; omega) (by omega) ?_
    refine z_top (y := ((p % q : Nat) : Int)) rfl ?_
    refine q_istore dX7_part_14 (by decide) ?_
    show sE g_tt _ _ _ 16 [some (.int (iZ (a : Int))), some (.int (iZ (b : Int))), some (.int (iZ u)), some (.int (iZ (p : Int))), some (.int (iZ (q : Int))), some (.int (iZ ((p % q : Nat) : Int)))] [] σ
    refine q_iload dX7_part_16 rfl ?_
    refine q_istore_n dX7_part_18 rfl (by decide) ?_
    show sE g_tt _ _ _ 19 [some (.int (iZ (a : Int))), some (.int (iZ (b : Int))), some (.int (iZ u)), some (.int (iZ (q : Int))), some (.int (iZ (q : Int))), some (.int (iZ ((p % q : Nat) : Int)))] [] σ
    refine q_iload dX7_part_19 rfl ?_
    refine q_istore dX7_part_21 (by decide) ?_
    show sE g_tt _ _ _ 23 [some (.int (iZ (a : Int))), some (.int (iZ (b : Int))), some (.int (iZ u)), some (.int (iZ (q : Int))), some (.int (iZ ((p % q : Nat) : Int))), some (.int (iZ ((p % q : Nat) : Int)))] [] σ
    refine q_goto (tgt := 5) dX7_part_23 (by decide) ?_
    exact ih (p % q) (Nat.mod_lt p (by omega)) q _ (by have := Nat.mod_lt p (show 0 < q by omega); omega) (by rw [← hg, Nat.gcd_comm q (p % q), ← Nat.gcd_rec q p, Nat.gcd_comm])
set_option maxHeartbeats 4000000 in
set_option maxRecDepth 100000 in
theorem m_part {d a b : Nat} (hb : 0 < b) (ha5 : a ≤ 512) (hb5 : b ≤ 512) {u : Int} (hu : u = 0 ∨ u = 1) (σ : gS) : sC mX7_part d [.int (iZ (a : Int)), .int (iZ (b : Int)), .int (iZ u)] σ (fun r σ' => r = some (.int (iZ (if u = 0 then ((a / Nat.gcd a b : Nat) : Int) else ((b / Nat.gcd a b : Nat) : Int)))) ∧ σ' = σ) := by
  refine sC_of rfl (Nat.le_of_ble_eq_true rfl) ?_
  show sE g_tt _ _ _ 0 [some (.int (iZ (a : Int))), some (.int (iZ (b : Int))), some (.int (iZ u)), none, none, none] [] σ
  refine q_iload_n dX7_part_0 rfl rfl ?_
  refine q_istore_n dX7_part_1 rfl (by decide) ?_
  show sE g_tt _ _ _ 2 [some (.int (iZ (a : Int))), some (.int (iZ (b : Int))), some (.int (iZ u)), some (.int (iZ (a : Int))), none, none] [] σ
  refine q_iload_n dX7_part_2 rfl rfl ?_
  refine q_istore dX7_part_3 (by decide) ?_
  show sE g_tt _ _ _ 5 [some (.int (iZ (a : Int))), some (.int (iZ (b : Int))), some (.int (iZ u)), some (.int (iZ (a : Int))), some (.int (iZ (b : Int))), none] [] σ
  exact lp_part hb ha5 hb5 hu σ b a _ ⟨ha5, hb5⟩ rfl
/-- whether person p is elsewhere by the code c of n houses (1, 0); whether nobody is in the street -/
noncomputable def soB (W : wF) (A : Nat → Int) (p n c : Nat) : Int := if (mDo W 1 c n A).2 (19 + p) = A (19 + p) then 0 else 1
noncomputable def soN (W : wF) (A : Nat → Int) (n c : Nat) : Int := @ite Int (∀ j : Nat, (j : Int) < A 0 → (mDo W 1 c n A).2 (19 + j) = -1) (Classical.propDecidable _) 1 0
theorem soB_01 (W : wF) (A : Nat → Int) (p n c : Nat) : soB W A p n c = 0 ∨ soB W A p n c = 1 := by unfold soB; split; exact Or.inl rfl; exact Or.inr rfl
theorem soN_01 (W : wF) (A : Nat → Int) (n c : Nat) : soN W A n c = 0 ∨ soN W A n c = 1 := by unfold soN; split; exact Or.inr rfl; exact Or.inl rfl
set_option maxHeartbeats 4000000 in
set_option maxRecDepth 100000 in
theorem m_isSo {d p c n : Nat} (hd : 10 ≤ d) (hp5 : p < 5) (hc : c < 512) (hn : n ≤ 3) (σ : gS) (A F : Nat → Int) (h23 : F 23 = 1) (h26 : 0 ≤ F 26) {W : wF} {nt : Int} (hW : wOK (σ.2.1 387) 100000 nt W) (g : gd 98000 nt A) : sC mX7_isSo d [.ref 384, .int (iZ (p : Int)), .int (iZ (c : Int)), .int (iZ (n : Int))] (ms σ A F) (fun r σ' => r = some (.int (iZ (soB W A p n c))) ∧ ∃ σ2 F2, σ' = ms σ2 A F2 ∧ eqX σ σ2 ∧ fS F F2) := by
  refine sC_of rfl (Nat.le_of_ble_eq_true rfl) ?_
  show sE g_tt _ _ _ 0 [some (.ref 384), some (.int (iZ (p : Int))), some (.int (iZ (c : Int))), some (.int (iZ (n : Int))), none, none] [] (ms σ A F)
  refine q_aload_n dX7_isSo_0 rfl rfl ?_
  refine s_callV (ci := 7) (a := 384) (As := []) (S := []) dX7_isSo_1 okX7_setAside mlX7_385 rfl (by omega) rfl (Nat.le_of_ble_eq_true rfl) (show kd 384 = 7 from rfl) (by decide) rfl (m_aside (d := d - 1) σ A F) (fun v_ σ_ hq => ?_)
  obtain ⟨rfl, σ1, e9, hA1⟩ := hq
  subst e9
  have hF1 : fS (va_up F 23 0) (va_up F 23 0) := fS_rf (by show 0 ≤ F 26; exact h26)
  have hz1 : va_up F 23 0 23 = 0 := rfl
  show sE g_tt _ _ _ 4 [some (.ref 384), some (.int (iZ (p : Int))), some (.int (iZ (c : Int))), some (.int (iZ (n : Int))), none, none] [] (ms σ1 A (va_up F 23 0))
  refine q_aload_n dX7_isSo_4 rfl rfl ?_
  refine q_iload_n dX7_isSo_5 rfl rfl ?_
  refine q_iload_n dX7_isSo_6 rfl rfl ?_
  refine z_iconst dX7_isSo_7 ?_
  refine s_callV (ci := 7) (a := 384) (As := [.int (iZ (c : Int)), .int (iZ (n : Int)), .int (iZ 1)]) (S := []) dX7_isSo_8 okX7_areDone mlX7_415 rfl (by omega) rfl (Nat.le_of_ble_eq_true rfl) (show kd 384 = 7 from rfl) (by decide) rfl (m_areDone (d := d - 1) (c := c) (n := n) (by omega) hc hn (b := 1) (by omega) (σ.2.1 387) hW σ1 A (va_up F 23 0) g hz1 (asd_T hA1) hF1.2) (fun v_ σ_ hq => ?_)
  obtain ⟨rfl, σ2, F2, e9, hE2, hf2⟩ := hq
  subst e9
  have hA2 := asd_S hA1 hE2
  have hF2 := fS_tr hF1 hf2
  have dk := mDo_ok hW 1 c n A g
  have e0 := dk.2.1 0 (by omega)
  refine z_top (y := 1) (dk.2.2.2 (by decide)) ?_
  have dp := dk.1.2.1 p hp5
  have ap := g.2.1 p hp5
  have d0 := dk.1.1
  show sE g_tt _ _ _ 11 [some (.ref 384), some (.int (iZ (p : Int))), some (.int (iZ (c : Int))), some (.int (iZ (n : Int))), none, none] [.int (iZ 1)] (ms σ2 ((mDo W 1 c n A).2) F2)
  refine q_istore dX7_isSo_11 (by decide) ?_
  show sE g_tt _ _ _ 13 [some (.ref 384), some (.int (iZ (p : Int))), some (.int (iZ (c : Int))), some (.int (iZ (n : Int))), some (.int (iZ 1)), none] [] (ms σ2 ((mDo W 1 c n A).2) F2)
  refine q_iload_n dX7_isSo_13 rfl rfl ?_
  refine z_iconst dX7_isSo_14 ?_
  refine z_icmp_eq (tgt := 49) dX7_isSo_15 (by decide) (by unfold inR at *; omega) (by unfold inR at *; omega) (fun c_1 => ?_) (fun c_1 => ?_)
  · exfalso
    omega
  · refine q_iload dX7_isSo_18 rfl ?_
    refine q_aload_n dX7_isSo_20 rfl rfl ?_
    refine sg7 (kf := 0) (v := .ref 385) dX7_isSo_21 flX7_7 (show kd 384 = 7 from rfl) (by decide) rfl ?_
    refine z_bipush dX7_isSo_24 (by decide +kernel) ?_
    refine q_iload_n dX7_isSo_26 rfl rfl ?_
    refine z_iadd dX7_isSo_27 ?_
    refine s_iald (n := 1583) (x := ((mDo W 1 c n A).2) (19 + p)) dX7_isSo_28 (show kd 385 = 100 + 1583 from rfl) (by omega) (by omega) (by decide) rfl ?_
    refine q_aload_n dX7_isSo_29 rfl rfl ?_
    refine sg7 (kf := 27) (v := .ref 393) dX7_isSo_30 flX7_47 (show kd 384 = 7 from rfl) (by decide) rfl ?_
    refine z_bipush dX7_isSo_33 (by decide +kernel) ?_
    refine q_iload_n dX7_isSo_35 rfl rfl ?_
    refine z_iadd dX7_isSo_36 ?_
    refine s_iald (n := 24) (x := A (19 + p)) dX7_isSo_37 (show kd 393 = 100 + 24 from rfl) (by omega) (by omega) (by decide) (hA2.2 (19 + p) (by omega) (by omega)) ?_
    refine z_icmp_eq (tgt := 45) dX7_isSo_38 (by decide) (by unfold inR at *; omega) (by unfold inR at *; omega) (fun c_2 => ?_) (fun c_2 => ?_)
    · refine z_iconst dX7_isSo_45 ?_
      refine z_iand (m := 1) (k := 0) dX7_isSo_46 ?_
      refine z_top (y := 0) rfl ?_
      refine q_istore dX7_isSo_47 (by decide) ?_
      show sE g_tt _ _ _ 49 [some (.ref 384), some (.int (iZ (p : Int))), some (.int (iZ (c : Int))), some (.int (iZ (n : Int))), some (.int (iZ 0)), none] [] (ms σ2 ((mDo W 1 c n A).2) F2)
      refine z_iconst dX7_isSo_49 ?_
      refine q_istore dX7_isSo_50 (by decide) ?_
      show sE g_tt _ _ _ 52 [some (.ref 384), some (.int (iZ (p : Int))), some (.int (iZ (c : Int))), some (.int (iZ (n : Int))), some (.int (iZ 0)), some (.int (iZ 0))] [] (ms σ2 ((mDo W 1 c n A).2) F2)
      refine q_iload dX7_isSo_52 rfl ?_
      refine q_aload_n dX7_isSo_54 rfl rfl ?_
      refine sg7 (kf := 0) (v := .ref 385) dX7_isSo_55 flX7_7 (show kd 384 = 7 from rfl) (by decide) rfl ?_
      refine z_iconst dX7_isSo_58 ?_
      refine s_iald (n := 1583) (x := ((mDo W 1 c n A).2) 0) dX7_isSo_59 (show kd 385 = 100 + 1583 from rfl) (by omega) (by omega) (by decide) rfl ?_
      refine z_icmp_ge (tgt := 98) dX7_isSo_60 (by decide) (by unfold inR at *; omega) (by unfold inR at *; omega) (fun c_3 => ?_) (fun c_3 => ?_)
      · refine q_aload_n dX7_isSo_98 rfl rfl ?_
        refine s_callV (ci := 7) (a := 384) (As := []) (S := []) dX7_isSo_99 okX7_putBack mlX7_388 rfl (by omega) rfl (Nat.le_of_ble_eq_true rfl) (show kd 384 = 7 from rfl) (by decide) rfl (m_putB (d := d - 1) (σ := σ) (A := A) σ2 ((mDo W 1 c n A).2) F2 hA2 dk.2.1) (fun v_ σ_ hq => ?_)
        obtain ⟨rfl, e9⟩ := hq
        have e9 := e9.symm
        subst e9
        show sE g_tt _ _ _ 102 [some (.ref 384), some (.int (iZ (p : Int))), some (.int (iZ (c : Int))), some (.int (iZ (n : Int))), some (.int (iZ 0)), some (.int (iZ 0))] [] (ms σ2 A (va_up F2 23 1))
        refine q_iload dX7_isSo_102 rfl ?_
        exact s_zret dX7_isSo_104 rfl (by omega) ⟨by unfold soB; (repeat (first | rw [if_pos (by omega)] | rw [if_neg (by omega)])), σ2, _, rfl, hA2.1, fS_fin h23 hF2⟩
      · refine q_iload_n dX7_isSo_63 rfl rfl ?_
        refine z_iconst dX7_isSo_64 ?_
        refine z_icmp_ne (tgt := 98) dX7_isSo_65 (by decide) (by unfold inR at *; omega) (by unfold inR at *; omega) (fun c_4 => ?_) (fun c_4 => ?_)
        · refine q_aload_n dX7_isSo_98 rfl rfl ?_
          refine s_callV (ci := 7) (a := 384) (As := []) (S := []) dX7_isSo_99 okX7_putBack mlX7_388 rfl (by omega) rfl (Nat.le_of_ble_eq_true rfl) (show kd 384 = 7 from rfl) (by decide) rfl (m_putB (d := d - 1) (σ := σ) (A := A) σ2 ((mDo W 1 c n A).2) F2 hA2 dk.2.1) (fun v_ σ_ hq => ?_)
          obtain ⟨rfl, e9⟩ := hq
          have e9 := e9.symm
          subst e9
          show sE g_tt _ _ _ 102 [some (.ref 384), some (.int (iZ (p : Int))), some (.int (iZ (c : Int))), some (.int (iZ (n : Int))), some (.int (iZ 0)), some (.int (iZ 0))] [] (ms σ2 A (va_up F2 23 1))
          refine q_iload dX7_isSo_102 rfl ?_
          exact s_zret dX7_isSo_104 rfl (by omega) ⟨by unfold soB; (repeat (first | rw [if_pos (by omega)] | rw [if_neg (by omega)])), σ2, _, rfl, hA2.1, fS_fin h23 hF2⟩
        · exfalso
          omega
    · refine z_iconst dX7_isSo_41 ?_
      refine q_goto (tgt := 46) dX7_isSo_42 (by decide) ?_
      refine z_iand (m := 1) (k := 1) dX7_isSo_46 ?_
      refine z_top (y := 1) rfl ?_
      refine q_istore dX7_isSo_47 (by decide) ?_
      show sE g_tt _ _ _ 49 [some (.ref 384), some (.int (iZ (p : Int))), some (.int (iZ (c : Int))), some (.int (iZ (n : Int))), some (.int (iZ 1)), none] [] (ms σ2 ((mDo W 1 c n A).2) F2)
      refine z_iconst dX7_isSo_49 ?_
      refine q_istore dX7_isSo_50 (by decide) ?_
      show sE g_tt _ _ _ 52 [some (.ref 384), some (.int (iZ (p : Int))), some (.int (iZ (c : Int))), some (.int (iZ (n : Int))), some (.int (iZ 1)), some (.int (iZ 0))] [] (ms σ2 ((mDo W 1 c n A).2) F2)
      refine q_iload dX7_isSo_52 rfl ?_
      refine q_aload_n dX7_isSo_54 rfl rfl ?_
      refine sg7 (kf := 0) (v := .ref 385) dX7_isSo_55 flX7_7 (show kd 384 = 7 from rfl) (by decide) rfl ?_
      refine z_iconst dX7_isSo_58 ?_
      refine s_iald (n := 1583) (x := ((mDo W 1 c n A).2) 0) dX7_isSo_59 (show kd 385 = 100 + 1583 from rfl) (by omega) (by omega) (by decide) rfl ?_
      refine z_icmp_ge (tgt := 98) dX7_isSo_60 (by decide) (by unfold inR at *; omega) (by unfold inR at *; omega) (fun c_5 => ?_) (fun c_5 => ?_)
      · refine q_aload_n dX7_isSo_98 rfl rfl ?_
        refine s_callV (ci := 7) (a := 384) (As := []) (S := []) dX7_isSo_99 okX7_putBack mlX7_388 rfl (by omega) rfl (Nat.le_of_ble_eq_true rfl) (show kd 384 = 7 from rfl) (by decide) rfl (m_putB (d := d - 1) (σ := σ) (A := A) σ2 ((mDo W 1 c n A).2) F2 hA2 dk.2.1) (fun v_ σ_ hq => ?_)
        obtain ⟨rfl, e9⟩ := hq
        have e9 := e9.symm
        subst e9
        show sE g_tt _ _ _ 102 [some (.ref 384), some (.int (iZ (p : Int))), some (.int (iZ (c : Int))), some (.int (iZ (n : Int))), some (.int (iZ 1)), some (.int (iZ 0))] [] (ms σ2 A (va_up F2 23 1))
        refine q_iload dX7_isSo_102 rfl ?_
        exact s_zret dX7_isSo_104 rfl (by omega) ⟨by unfold soB; (repeat (first | rw [if_pos (by omega)] | rw [if_neg (by omega)])), σ2, _, rfl, hA2.1, fS_fin h23 hF2⟩
      · refine q_iload_n dX7_isSo_63 rfl rfl ?_
        refine z_iconst dX7_isSo_64 ?_
        refine z_icmp_ne (tgt := 98) dX7_isSo_65 (by decide) (by unfold inR at *; omega) (by unfold inR at *; omega) (fun c_6 => ?_) (fun c_6 => ?_)
        · refine q_aload_n dX7_isSo_98 rfl rfl ?_
          refine s_callV (ci := 7) (a := 384) (As := []) (S := []) dX7_isSo_99 okX7_putBack mlX7_388 rfl (by omega) rfl (Nat.le_of_ble_eq_true rfl) (show kd 384 = 7 from rfl) (by decide) rfl (m_putB (d := d - 1) (σ := σ) (A := A) σ2 ((mDo W 1 c n A).2) F2 hA2 dk.2.1) (fun v_ σ_ hq => ?_)
          obtain ⟨rfl, e9⟩ := hq
          have e9 := e9.symm
          subst e9
          show sE g_tt _ _ _ 102 [some (.ref 384), some (.int (iZ (p : Int))), some (.int (iZ (c : Int))), some (.int (iZ (n : Int))), some (.int (iZ 1)), some (.int (iZ 0))] [] (ms σ2 A (va_up F2 23 1))
          refine q_iload dX7_isSo_102 rfl ?_
          exact s_zret dX7_isSo_104 rfl (by omega) ⟨by unfold soB; (repeat (first | rw [if_pos (by omega)] | rw [if_neg (by omega)])), σ2, _, rfl, hA2.1, fS_fin h23 hF2⟩
        · exfalso
          omega
set_option maxHeartbeats 4000000 in
set_option maxRecDepth 100000 in
theorem lp_isSo {d c n : Nat} {vv : Int} (hd : 1 ≤ d) (σ : gS) (A F : Nat → Int) (h23 : F 23 = 1) (h26 : 0 ≤ F 26) {nt : Int} (g : gd 98000 nt A) (σ2 : gS) (R F2 : Nat → Int) (gR : gd 98000 nt R) (hA2 : asd σ A σ2) (hF2 : fS (va_up F 23 0) F2) (ha : agr A R) (e0 : R 0 = A 0) (hv : ∀ {z : Int}, (z = 0 ∨ z = 1) → (z = 1 ↔ ∀ j, j < (A 0).toNat → R (19 + j) = -1) → z = vv) : ∀ (f : Nat) (k : Nat) (z : Int), (k : Int) ≤ A 0 → (z = 0 ∨ z = 1) → (z = 1 ↔ ∀ j, j < k → R (19 + j) = -1) → A 0 - (k : Int) < (f : Int) → sE g_tt mX7_isSo d (fun r σ' => r = some (.int (iZ (vv))) ∧ ∃ σ2 F2, σ' = ms σ2 A F2 ∧ eqX σ σ2 ∧ fS F F2) 52 [some (.ref 384), some (.int (iZ (-1))), some (.int (iZ (c : Int))), some (.int (iZ (n : Int))), some (.int (iZ z)), some (.int (iZ (k : Int)))] [] (ms σ2 R F2) := by
  intro f
  induction f with
  | zero =>
    intro k z hk hz01 hzi hf
    exact absurd hf (by omega)
  | succ f ih =>
    intro k z hk hz01 hzi hf
    have g0 := g.1
    refine q_iload dX7_isSo_52 rfl ?_
    refine q_aload_n dX7_isSo_54 rfl rfl ?_
    refine sg7 (kf := 0) (v := .ref 385) dX7_isSo_55 flX7_7 (show kd 384 = 7 from rfl) (by decide) rfl ?_
    refine z_iconst dX7_isSo_58 ?_
    refine s_iald (n := 1583) (x := R 0) dX7_isSo_59 (show kd 385 = 100 + 1583 from rfl) (by omega) (by omega) (by decide) rfl ?_
    refine z_icmp_ge (tgt := 98) dX7_isSo_60 (by decide) (by unfold inR at *; omega) (by unfold inR at *; omega) (fun c_1 => ?_) (fun c_1 => ?_)
    · refine q_aload_n dX7_isSo_98 rfl rfl ?_
      refine s_callV (ci := 7) (a := 384) (As := []) (S := []) dX7_isSo_99 okX7_putBack mlX7_388 rfl (by omega) rfl (Nat.le_of_ble_eq_true rfl) (show kd 384 = 7 from rfl) (by decide) rfl (m_putB (d := d - 1) (σ := σ) (A := A) σ2 R F2 hA2 ha) (fun v_ σ_ hq => ?_)
      obtain ⟨rfl, e9⟩ := hq
      have e9 := e9.symm
      subst e9
      show sE g_tt _ _ _ 102 [some (.ref 384), some (.int (iZ (-1))), some (.int (iZ (c : Int))), some (.int (iZ (n : Int))), some (.int (iZ z)), some (.int (iZ (k : Int)))] [] (ms σ2 A (va_up F2 23 1))
      refine q_iload dX7_isSo_102 rfl ?_
      exact s_zret dX7_isSo_104 rfl (by omega) ⟨by rw [hv hz01 (by rwa [show k = (A 0).toNat by omega] at hzi)], σ2, _, rfl, hA2.1, fS_fin h23 hF2⟩
    · refine q_iload_n dX7_isSo_63 rfl rfl ?_
      refine z_iconst dX7_isSo_64 ?_
      refine z_icmp_ne (tgt := 98) dX7_isSo_65 (by decide) (by unfold inR at *; omega) (by unfold inR at *; omega) (fun c_2 => ?_) (fun c_2 => ?_)
      · exfalso
        revert c_2
        decide
      · refine q_iload dX7_isSo_68 rfl ?_
        refine q_aload_n dX7_isSo_70 rfl rfl ?_
        refine sg7 (kf := 0) (v := .ref 385) dX7_isSo_71 flX7_7 (show kd 384 = 7 from rfl) (by decide) rfl ?_
        refine z_bipush dX7_isSo_74 (by decide +kernel) ?_
        refine q_iload dX7_isSo_76 rfl ?_
        refine z_iadd dX7_isSo_78 ?_
        refine s_iald (n := 1583) (x := R (19 + k)) dX7_isSo_79 (show kd 385 = 100 + 1583 from rfl) (by omega) (by omega) (by decide) rfl ?_
        refine z_iconst dX7_isSo_80 ?_
        refine z_icmp_ne (tgt := 88) dX7_isSo_81 (by decide) (gdh gR k (by omega)) (by unfold inR at *; omega) (fun c_3 => ?_) (fun c_3 => ?_)
        · refine z_iconst dX7_isSo_88 ?_
          refine z_top2 (y := ((z.toNat : Nat) : Int)) (by omega) ?_
          refine z_iand (m := z.toNat) (k := 0) dX7_isSo_89 ?_
          refine z_top (y := 0) (by simp) ?_
          refine q_istore dX7_isSo_90 (by decide) ?_
          show sE g_tt _ _ _ 92 [some (.ref 384), some (.int (iZ (-1))), some (.int (iZ (c : Int))), some (.int (iZ (n : Int))), some (.int (iZ 0)), some (.int (iZ (k : Int)))] [] (ms σ2 R F2)
          refine z_iinc dX7_isSo_92 rfl (by decide) ?_
          show sE g_tt _ _ _ 95 [some (.ref 384), some (.int (iZ (-1))), some (.int (iZ (c : Int))), some (.int (iZ (n : Int))), some (.int (iZ 0)), some (.int (iZ ((k : Int) + 1)))] [] (ms σ2 R F2)
          refine q_goto (tgt := 52) dX7_isSo_95 (by decide) ?_
          exact ih (k + 1) 0 (by omega) (Or.inl rfl) ⟨fun e => absurd e (by decide), fun q => absurd (q k (by omega)) c_3⟩ (by omega)
        · refine z_iconst dX7_isSo_84 ?_
          refine q_goto (tgt := 89) dX7_isSo_85 (by decide) ?_
          refine z_top2 (y := ((z.toNat : Nat) : Int)) (by omega) ?_
          refine z_iand (m := z.toNat) (k := 1) dX7_isSo_89 ?_
          refine z_top (y := z) (by rcases hz01 with e | e <;> rw [e] <;> rfl) ?_
          refine q_istore dX7_isSo_90 (by decide) ?_
          show sE g_tt _ _ _ 92 [some (.ref 384), some (.int (iZ (-1))), some (.int (iZ (c : Int))), some (.int (iZ (n : Int))), some (.int (iZ z)), some (.int (iZ (k : Int)))] [] (ms σ2 R F2)
          refine z_iinc dX7_isSo_92 rfl (by decide) ?_
          show sE g_tt _ _ _ 95 [some (.ref 384), some (.int (iZ (-1))), some (.int (iZ (c : Int))), some (.int (iZ (n : Int))), some (.int (iZ z)), some (.int (iZ ((k : Int) + 1)))] [] (ms σ2 R F2)
          refine q_goto (tgt := 52) dX7_isSo_95 (by decide) ?_
          refine ih (k + 1) z (by omega) hz01 ⟨fun e j hj => ?_, fun q => hzi.2 (fun j hj => q j (by omega))⟩ (by omega)
          rcases Nat.lt_or_eq_of_le (Nat.le_of_lt_succ hj) with q | q
          · exact hzi.1 e j q
          · subst q; exact c_3
set_option maxHeartbeats 4000000 in
set_option maxRecDepth 100000 in
theorem m_isSoN {d c n : Nat} (hd : 10 ≤ d) (hc : c < 512) (hn : n ≤ 3) (σ : gS) (A F : Nat → Int) (h23 : F 23 = 1) (h26 : 0 ≤ F 26) {W : wF} {nt : Int} (hW : wOK (σ.2.1 387) 100000 nt W) (g : gd 98000 nt A) : sC mX7_isSo d [.ref 384, .int (iZ (-1)), .int (iZ (c : Int)), .int (iZ (n : Int))] (ms σ A F) (fun r σ' => r = some (.int (iZ (soN W A n c))) ∧ ∃ σ2 F2, σ' = ms σ2 A F2 ∧ eqX σ σ2 ∧ fS F F2) := by
  refine sC_of rfl (Nat.le_of_ble_eq_true rfl) ?_
  show sE g_tt _ _ _ 0 [some (.ref 384), some (.int (iZ (-1))), some (.int (iZ (c : Int))), some (.int (iZ (n : Int))), none, none] [] (ms σ A F)
  refine q_aload_n dX7_isSo_0 rfl rfl ?_
  refine s_callV (ci := 7) (a := 384) (As := []) (S := []) dX7_isSo_1 okX7_setAside mlX7_385 rfl (by omega) rfl (Nat.le_of_ble_eq_true rfl) (show kd 384 = 7 from rfl) (by decide) rfl (m_aside (d := d - 1) σ A F) (fun v_ σ_ hq => ?_)
  obtain ⟨rfl, σ1, e9, hA1⟩ := hq
  subst e9
  have hF1 : fS (va_up F 23 0) (va_up F 23 0) := fS_rf (by show 0 ≤ F 26; exact h26)
  have hz1 : va_up F 23 0 23 = 0 := rfl
  show sE g_tt _ _ _ 4 [some (.ref 384), some (.int (iZ (-1))), some (.int (iZ (c : Int))), some (.int (iZ (n : Int))), none, none] [] (ms σ1 A (va_up F 23 0))
  refine q_aload_n dX7_isSo_4 rfl rfl ?_
  refine q_iload_n dX7_isSo_5 rfl rfl ?_
  refine q_iload_n dX7_isSo_6 rfl rfl ?_
  refine z_iconst dX7_isSo_7 ?_
  refine s_callV (ci := 7) (a := 384) (As := [.int (iZ (c : Int)), .int (iZ (n : Int)), .int (iZ 1)]) (S := []) dX7_isSo_8 okX7_areDone mlX7_415 rfl (by omega) rfl (Nat.le_of_ble_eq_true rfl) (show kd 384 = 7 from rfl) (by decide) rfl (m_areDone (d := d - 1) (c := c) (n := n) (by omega) hc hn (b := 1) (by omega) (σ.2.1 387) hW σ1 A (va_up F 23 0) g hz1 (asd_T hA1) hF1.2) (fun v_ σ_ hq => ?_)
  obtain ⟨rfl, σ2, F2, e9, hE2, hf2⟩ := hq
  subst e9
  have hA2 := asd_S hA1 hE2
  have hF2 := fS_tr hF1 hf2
  have dk := mDo_ok hW 1 c n A g
  have e0 := dk.2.1 0 (by omega)
  refine z_top (y := 1) (dk.2.2.2 (by decide)) ?_
  show sE g_tt _ _ _ 11 [some (.ref 384), some (.int (iZ (-1))), some (.int (iZ (c : Int))), some (.int (iZ (n : Int))), none, none] [.int (iZ 1)] (ms σ2 ((mDo W 1 c n A).2) F2)
  refine q_istore dX7_isSo_11 (by decide) ?_
  show sE g_tt _ _ _ 13 [some (.ref 384), some (.int (iZ (-1))), some (.int (iZ (c : Int))), some (.int (iZ (n : Int))), some (.int (iZ 1)), none] [] (ms σ2 ((mDo W 1 c n A).2) F2)
  refine q_iload_n dX7_isSo_13 rfl rfl ?_
  refine z_iconst dX7_isSo_14 ?_
  refine z_icmp_eq (tgt := 49) dX7_isSo_15 (by decide) (by unfold inR at *; omega) (by unfold inR at *; omega) (fun c_1 => ?_) (fun c_1 => ?_)
  · refine z_iconst dX7_isSo_49 ?_
    refine q_istore dX7_isSo_50 (by decide) ?_
    show sE g_tt _ _ _ 52 [some (.ref 384), some (.int (iZ (-1))), some (.int (iZ (c : Int))), some (.int (iZ (n : Int))), some (.int (iZ 1)), some (.int (iZ 0))] [] (ms σ2 ((mDo W 1 c n A).2) F2)
    refine lp_isSo (by omega) σ A F h23 h26 g σ2 _ F2 dk.1 hA2 hF2 dk.2.1 e0 (fun {z} h1 h2 => ?_) 6 0 1 (by have := g.1; omega) (Or.inr rfl) ⟨fun e j hj => absurd hj (by omega), fun _ => rfl⟩ (by have := g.1; omega)
    unfold soN
    by_cases q : ∀ j : Nat, (j : Int) < A 0 → (mDo W 1 c n A).2 (19 + j) = -1
    · rw [if_pos q]; exact h2.2 (fun j hj => q j (by omega))
    · rw [if_neg q]
      rcases h1 with q1 | q1
      · exact q1
      · exact absurd (fun j hj => h2.1 q1 j (by omega)) q
  · exfalso
    revert c_1
    decide
/-- how many of the first k -/
def sCnt (e : Nat → Int) : Nat → Int
  | 0 => 0
  | k + 1 => sCnt e k + e k
theorem sCnt_ran {e : Nat → Int} (h : ∀ k, e k = 0 ∨ e k = 1) : ∀ k : Nat, 0 ≤ sCnt e k ∧ sCnt e k ≤ (k : Int) := by
  intro k
  induction k with
  | zero => exact ⟨Int.le_refl _, Int.le_refl _⟩
  | succ k ih => have := h k; rw [sCnt]; omega
/-- a part in lowest terms: the upper (u 0), the lower one -/
def mPt (u : Int) (a b : Nat) : Int := if u = 0 then ((a / Nat.gcd a b : Nat) : Int) else ((b / Nat.gcd a b : Nat) : Int)
set_option maxHeartbeats 4000000 in
set_option maxRecDepth 100000 in
theorem lp_likelyBy {d n N : Nat} {p : Nat} (hp5 : p < 5) (hd : 11 ≤ d) (hn3 : n ≤ 3) (hN : 2 ^ (3 * n) = N) (hN5 : N ≤ 512) (hN0 : 0 < N) {u : Int} (hu : u = 0 ∨ u = 1) (σ : gS) (A F : Nat → Int) (h23 : F 23 = 1) (h26 : 0 ≤ F 26) {W : wF} {nt : Int} (hW : wOK (σ.2.1 387) 100000 nt W) (g : gd 98000 nt A) : ∀ (f : Nat) (c : Nat) (σ1 : gS) (F1 : Nat → Int), c ≤ N → eqX σ σ1 → fS F F1 → (N : Int) - (c : Int) < (f : Int) → sE g_tt mX7_likelyBy d (fun r σ' => r = some (.int (iZ (mPt u (sCnt (soB W A p n) (2 ^ (3 * n))).toNat (2 ^ (3 * n))))) ∧ ∃ σ2 F2, σ' = ms σ2 A F2 ∧ eqX σ σ2 ∧ fS F F2) 6 [some (.ref 384), some (.int (iZ (p : Int))), some (.int (iZ (n : Int))), some (.int (iZ u)), some (.int (iZ (sCnt (soB W A p n) c))), some (.int (iZ (c : Int)))] [] (ms σ1 A F1) := by
  intro f
  induction f with
  | zero =>
    intro c σ1 F1 hc hE1 hF1 hf
    exact absurd hf (by omega)
  | succ f ih =>
    intro c σ1 F1 hc hE1 hF1 hf
    have cr := sCnt_ran (e := soB W A p n) (soB_01 W A p n) c
    refine q_iload dX7_likelyBy_6 rfl ?_
    refine z_iconst dX7_likelyBy_8 ?_
    refine z_iconst dX7_likelyBy_9 ?_
    refine q_iload_n dX7_likelyBy_10 rfl rfl ?_
    refine z_imul dX7_likelyBy_11 ?_
    refine z_top (y := ((3 * n : Nat) : Int)) (by omega) ?_
    refine z_ishl (x := 1) (k := 3 * n) dX7_likelyBy_12 (by omega) ?_
    refine z_top (y := ((2 ^ (3 * n) : Nat) : Int)) (by simp) ?_
    refine z_top (y := (N : Int)) (by rw [hN]) ?_
    refine z_icmp_ge (tgt := 43) dX7_likelyBy_13 (by decide) (by unfold inR at *; omega) (by unfold inR at *; omega) (fun c_1 => ?_) (fun c_1 => ?_)
    · refine q_iload dX7_likelyBy_43 rfl ?_
      refine z_top (y := (((sCnt (soB W A p n) c).toNat : Nat) : Int)) (by omega) ?_
      refine z_iconst dX7_likelyBy_45 ?_
      refine z_iconst dX7_likelyBy_46 ?_
      refine q_iload_n dX7_likelyBy_47 rfl rfl ?_
      refine z_imul dX7_likelyBy_48 ?_
      refine z_top (y := ((3 * n : Nat) : Int)) (by omega) ?_
      refine z_ishl (x := 1) (k := 3 * n) dX7_likelyBy_49 (by omega) ?_
      refine z_top (y := ((2 ^ (3 * n) : Nat) : Int)) (by simp) ?_
      refine z_top (y := (N : Int)) (by rw [hN]) ?_
      refine q_iload_n dX7_likelyBy_50 rfl rfl ?_
      refine s_callS (As := [.int (iZ (((sCnt (soB W A p n) c).toNat : Nat) : Int)), .int (iZ (N : Int)), .int (iZ u)]) (S := []) dX7_likelyBy_51 okX7_part mlX7_429 rfl (by omega) rfl (Nat.le_of_ble_eq_true rfl) (m_part (d := d - 1) (a := (sCnt (soB W A p n) c).toNat) (b := N) (by omega) (by omega) (by omega) hu (ms σ1 A F1)) (fun v_ σ_ hq => ?_)
      obtain ⟨rfl, e9⟩ := hq
      have e9 := e9.symm
      subst e9
      show sE g_tt _ _ _ 54 [some (.ref 384), some (.int (iZ (p : Int))), some (.int (iZ (n : Int))), some (.int (iZ u)), some (.int (iZ (sCnt (soB W A p n) c))), some (.int (iZ (c : Int)))] [.int (iZ (mPt u (sCnt (soB W A p n) c).toNat N))] (ms σ1 A F1)
      exact s_iretZ dX7_likelyBy_54 rfl ⟨by rw [hN, show N = c by omega], σ1, F1, rfl, hE1, hF1⟩
    · refine q_iload dX7_likelyBy_16 rfl ?_
      refine q_aload_n dX7_likelyBy_18 rfl rfl ?_
      refine q_iload_n dX7_likelyBy_19 rfl rfl ?_
      refine q_iload dX7_likelyBy_20 rfl ?_
      refine q_iload_n dX7_likelyBy_22 rfl rfl ?_
      refine s_callV (ci := 7) (a := 384) (As := [.int (iZ (p : Int)), .int (iZ (c : Int)), .int (iZ (n : Int))]) (S := [.int (iZ (sCnt (soB W A p n) c))]) dX7_likelyBy_23 okX7_isSo mlX7_426 rfl (by omega) rfl (Nat.le_of_ble_eq_true rfl) (show kd 384 = 7 from rfl) (by decide) rfl (m_isSo (d := d - 1) (c := c) (n := n) (by omega) hp5 (by omega) (by omega) σ1 A F1 ((fS_23 hF1).trans h23) hF1.2 (by rw [hE1.2.1 387 (by decide)]; exact hW) g) (fun v_ σ_ hq => ?_)
      obtain ⟨rfl, σ2, F2, e9, hE2, hF2⟩ := hq
      subst e9
      have hE3 := eqX_tr hE1 hE2
      have hF3 := fS_tr hF1 hF2
      have o1 := soB_01 W A p n c
      show sE g_tt _ _ _ 26 [some (.ref 384), some (.int (iZ (p : Int))), some (.int (iZ (n : Int))), some (.int (iZ u)), some (.int (iZ (sCnt (soB W A p n) c))), some (.int (iZ (c : Int)))] [.int (iZ (soB W A p n c)), .int (iZ (sCnt (soB W A p n) c))] (ms σ2 A F2)
      refine z_if_eq (tgt := 33) dX7_likelyBy_26 (by decide) (by unfold inR; omega) (fun c_2 => ?_) (fun c_2 => ?_)
      · refine z_iconst dX7_likelyBy_33 ?_
        refine z_iadd dX7_likelyBy_34 ?_
        refine q_istore dX7_likelyBy_35 (by decide) ?_
        show sE g_tt _ _ _ 37 [some (.ref 384), some (.int (iZ (p : Int))), some (.int (iZ (n : Int))), some (.int (iZ u)), some (.int (iZ ((sCnt (soB W A p n) c) + 0))), some (.int (iZ (c : Int)))] [] (ms σ2 A F2)
        refine z_iinc dX7_likelyBy_37 rfl (by decide) ?_
        show sE g_tt _ _ _ 40 [some (.ref 384), some (.int (iZ (p : Int))), some (.int (iZ (n : Int))), some (.int (iZ u)), some (.int (iZ ((sCnt (soB W A p n) c) + 0))), some (.int (iZ ((c : Int) + 1)))] [] (ms σ2 A F2)
        refine q_goto (tgt := 6) dX7_likelyBy_40 (by decide) ?_
        have e1 : sCnt (soB W A p n) (c + 1) = (sCnt (soB W A p n) c) + 0 := by rw [sCnt]; omega
        have k9 := ih (c + 1) σ2 F2 (by omega) hE3 hF3 (by omega)
        rw [e1] at k9
        exact k9
      · refine z_iconst dX7_likelyBy_29 ?_
        refine q_goto (tgt := 34) dX7_likelyBy_30 (by decide) ?_
        refine z_iadd dX7_likelyBy_34 ?_
        refine q_istore dX7_likelyBy_35 (by decide) ?_
        show sE g_tt _ _ _ 37 [some (.ref 384), some (.int (iZ (p : Int))), some (.int (iZ (n : Int))), some (.int (iZ u)), some (.int (iZ ((sCnt (soB W A p n) c) + 1))), some (.int (iZ (c : Int)))] [] (ms σ2 A F2)
        refine z_iinc dX7_likelyBy_37 rfl (by decide) ?_
        show sE g_tt _ _ _ 40 [some (.ref 384), some (.int (iZ (p : Int))), some (.int (iZ (n : Int))), some (.int (iZ u)), some (.int (iZ ((sCnt (soB W A p n) c) + 1))), some (.int (iZ ((c : Int) + 1)))] [] (ms σ2 A F2)
        refine q_goto (tgt := 6) dX7_likelyBy_40 (by decide) ?_
        have e1 : sCnt (soB W A p n) (c + 1) = (sCnt (soB W A p n) c) + 1 := by rw [sCnt]; omega
        have k9 := ih (c + 1) σ2 F2 (by omega) hE3 hF3 (by omega)
        rw [e1] at k9
        exact k9
set_option maxHeartbeats 4000000 in
set_option maxRecDepth 100000 in
theorem m_likelyBy {d n : Nat} {p : Nat} (hp5 : p < 5) (hd : 11 ≤ d) (hn3 : n ≤ 3) {u : Int} (hu : u = 0 ∨ u = 1) (σ : gS) (A F : Nat → Int) (h23 : F 23 = 1) (h26 : 0 ≤ F 26) {W : wF} {nt : Int} (hW : wOK (σ.2.1 387) 100000 nt W) (g : gd 98000 nt A) : sC mX7_likelyBy d [.ref 384, .int (iZ ((p : Int))), .int (iZ (n : Int)), .int (iZ u)] (ms σ A F) (fun r σ' => r = some (.int (iZ (mPt u (sCnt (soB W A p n) (2 ^ (3 * n))).toNat (2 ^ (3 * n))))) ∧ ∃ σ2 F2, σ' = ms σ2 A F2 ∧ eqX σ σ2 ∧ fS F F2) := by
  refine sC_of rfl (Nat.le_of_ble_eq_true rfl) ?_
  show sE g_tt _ _ _ 0 [some (.ref 384), some (.int (iZ (p : Int))), some (.int (iZ (n : Int))), some (.int (iZ u)), none, none] [] (ms σ A F)
  refine z_iconst dX7_likelyBy_0 ?_
  refine q_istore dX7_likelyBy_1 (by decide) ?_
  show sE g_tt _ _ _ 3 [some (.ref 384), some (.int (iZ (p : Int))), some (.int (iZ (n : Int))), some (.int (iZ u)), some (.int (iZ 0)), none] [] (ms σ A F)
  refine z_iconst dX7_likelyBy_3 ?_
  refine q_istore dX7_likelyBy_4 (by decide) ?_
  show sE g_tt _ _ _ 6 [some (.ref 384), some (.int (iZ (p : Int))), some (.int (iZ (n : Int))), some (.int (iZ u)), some (.int (iZ 0)), some (.int (iZ 0))] [] (ms σ A F)
  have hN5 : 2 ^ (3 * n) ≤ 512 := Nat.le_trans (Nat.pow_le_pow_right (by decide) (show 3 * n ≤ 9 by omega)) (by decide)
  exact lp_likelyBy hp5 hd hn3 rfl hN5 (Nat.two_pow_pos _) hu σ A F h23 h26 hW g (2 ^ (3 * n) + 1) 0 σ F (Nat.zero_le _) (eqX_rf σ) (fS_rf h26) (by omega)
set_option maxHeartbeats 4000000 in
set_option maxRecDepth 100000 in
theorem lp_offBy {d n N : Nat}  (hd : 11 ≤ d) (hn3 : n ≤ 3) (hN : 2 ^ (3 * n) = N) (hN5 : N ≤ 512) (hN0 : 0 < N) {u : Int} (hu : u = 0 ∨ u = 1) (σ : gS) (A F : Nat → Int) (h23 : F 23 = 1) (h26 : 0 ≤ F 26) {W : wF} {nt : Int} (hW : wOK (σ.2.1 387) 100000 nt W) (g : gd 98000 nt A) : ∀ (f : Nat) (c : Nat) (σ1 : gS) (F1 : Nat → Int), c ≤ N → eqX σ σ1 → fS F F1 → (N : Int) - (c : Int) < (f : Int) → sE g_tt mX7_likelyBy d (fun r σ' => r = some (.int (iZ (mPt u (sCnt (soN W A n) (2 ^ (3 * n))).toNat (2 ^ (3 * n))))) ∧ ∃ σ2 F2, σ' = ms σ2 A F2 ∧ eqX σ σ2 ∧ fS F F2) 6 [some (.ref 384), some (.int (iZ (-1))), some (.int (iZ (n : Int))), some (.int (iZ u)), some (.int (iZ (sCnt (soN W A n) c))), some (.int (iZ (c : Int)))] [] (ms σ1 A F1) := by
  intro f
  induction f with
  | zero =>
    intro c σ1 F1 hc hE1 hF1 hf
    exact absurd hf (by omega)
  | succ f ih =>
    intro c σ1 F1 hc hE1 hF1 hf
    have cr := sCnt_ran (e := soN W A n) (soN_01 W A n) c
    refine q_iload dX7_likelyBy_6 rfl ?_
    refine z_iconst dX7_likelyBy_8 ?_
    refine z_iconst dX7_likelyBy_9 ?_
    refine q_iload_n dX7_likelyBy_10 rfl rfl ?_
    refine z_imul dX7_likelyBy_11 ?_
    refine z_top (y := ((3 * n : Nat) : Int)) (by omega) ?_
    refine z_ishl (x := 1) (k := 3 * n) dX7_likelyBy_12 (by omega) ?_
    refine z_top (y := ((2 ^ (3 * n) : Nat) : Int)) (by simp) ?_
    refine z_top (y := (N : Int)) (by rw [hN]) ?_
    refine z_icmp_ge (tgt := 43) dX7_likelyBy_13 (by decide) (by unfold inR at *; omega) (by unfold inR at *; omega) (fun c_1 => ?_) (fun c_1 => ?_)
    · refine q_iload dX7_likelyBy_43 rfl ?_
      refine z_top (y := (((sCnt (soN W A n) c).toNat : Nat) : Int)) (by omega) ?_
      refine z_iconst dX7_likelyBy_45 ?_
      refine z_iconst dX7_likelyBy_46 ?_
      refine q_iload_n dX7_likelyBy_47 rfl rfl ?_
      refine z_imul dX7_likelyBy_48 ?_
      refine z_top (y := ((3 * n : Nat) : Int)) (by omega) ?_
      refine z_ishl (x := 1) (k := 3 * n) dX7_likelyBy_49 (by omega) ?_
      refine z_top (y := ((2 ^ (3 * n) : Nat) : Int)) (by simp) ?_
      refine z_top (y := (N : Int)) (by rw [hN]) ?_
      refine q_iload_n dX7_likelyBy_50 rfl rfl ?_
      refine s_callS (As := [.int (iZ (((sCnt (soN W A n) c).toNat : Nat) : Int)), .int (iZ (N : Int)), .int (iZ u)]) (S := []) dX7_likelyBy_51 okX7_part mlX7_429 rfl (by omega) rfl (Nat.le_of_ble_eq_true rfl) (m_part (d := d - 1) (a := (sCnt (soN W A n) c).toNat) (b := N) (by omega) (by omega) (by omega) hu (ms σ1 A F1)) (fun v_ σ_ hq => ?_)
      obtain ⟨rfl, e9⟩ := hq
      have e9 := e9.symm
      subst e9
      show sE g_tt _ _ _ 54 [some (.ref 384), some (.int (iZ (-1))), some (.int (iZ (n : Int))), some (.int (iZ u)), some (.int (iZ (sCnt (soN W A n) c))), some (.int (iZ (c : Int)))] [.int (iZ (mPt u (sCnt (soN W A n) c).toNat N))] (ms σ1 A F1)
      exact s_iretZ dX7_likelyBy_54 rfl ⟨by rw [hN, show N = c by omega], σ1, F1, rfl, hE1, hF1⟩
    · refine q_iload dX7_likelyBy_16 rfl ?_
      refine q_aload_n dX7_likelyBy_18 rfl rfl ?_
      refine q_iload_n dX7_likelyBy_19 rfl rfl ?_
      refine q_iload dX7_likelyBy_20 rfl ?_
      refine q_iload_n dX7_likelyBy_22 rfl rfl ?_
      refine s_callV (ci := 7) (a := 384) (As := [.int (iZ (-1)), .int (iZ (c : Int)), .int (iZ (n : Int))]) (S := [.int (iZ (sCnt (soN W A n) c))]) dX7_likelyBy_23 okX7_isSo mlX7_426 rfl (by omega) rfl (Nat.le_of_ble_eq_true rfl) (show kd 384 = 7 from rfl) (by decide) rfl (m_isSoN (d := d - 1) (c := c) (n := n) (by omega) (by omega) (by omega) σ1 A F1 ((fS_23 hF1).trans h23) hF1.2 (by rw [hE1.2.1 387 (by decide)]; exact hW) g) (fun v_ σ_ hq => ?_)
      obtain ⟨rfl, σ2, F2, e9, hE2, hF2⟩ := hq
      subst e9
      have hE3 := eqX_tr hE1 hE2
      have hF3 := fS_tr hF1 hF2
      have o1 := soN_01 W A n c
      show sE g_tt _ _ _ 26 [some (.ref 384), some (.int (iZ (-1))), some (.int (iZ (n : Int))), some (.int (iZ u)), some (.int (iZ (sCnt (soN W A n) c))), some (.int (iZ (c : Int)))] [.int (iZ (soN W A n c)), .int (iZ (sCnt (soN W A n) c))] (ms σ2 A F2)
      refine z_if_eq (tgt := 33) dX7_likelyBy_26 (by decide) (by unfold inR; omega) (fun c_2 => ?_) (fun c_2 => ?_)
      · refine z_iconst dX7_likelyBy_33 ?_
        refine z_iadd dX7_likelyBy_34 ?_
        refine q_istore dX7_likelyBy_35 (by decide) ?_
        show sE g_tt _ _ _ 37 [some (.ref 384), some (.int (iZ (-1))), some (.int (iZ (n : Int))), some (.int (iZ u)), some (.int (iZ ((sCnt (soN W A n) c) + 0))), some (.int (iZ (c : Int)))] [] (ms σ2 A F2)
        refine z_iinc dX7_likelyBy_37 rfl (by decide) ?_
        show sE g_tt _ _ _ 40 [some (.ref 384), some (.int (iZ (-1))), some (.int (iZ (n : Int))), some (.int (iZ u)), some (.int (iZ ((sCnt (soN W A n) c) + 0))), some (.int (iZ ((c : Int) + 1)))] [] (ms σ2 A F2)
        refine q_goto (tgt := 6) dX7_likelyBy_40 (by decide) ?_
        have e1 : sCnt (soN W A n) (c + 1) = (sCnt (soN W A n) c) + 0 := by rw [sCnt]; omega
        have k9 := ih (c + 1) σ2 F2 (by omega) hE3 hF3 (by omega)
        rw [e1] at k9
        exact k9
      · refine z_iconst dX7_likelyBy_29 ?_
        refine q_goto (tgt := 34) dX7_likelyBy_30 (by decide) ?_
        refine z_iadd dX7_likelyBy_34 ?_
        refine q_istore dX7_likelyBy_35 (by decide) ?_
        show sE g_tt _ _ _ 37 [some (.ref 384), some (.int (iZ (-1))), some (.int (iZ (n : Int))), some (.int (iZ u)), some (.int (iZ ((sCnt (soN W A n) c) + 1))), some (.int (iZ (c : Int)))] [] (ms σ2 A F2)
        refine z_iinc dX7_likelyBy_37 rfl (by decide) ?_
        show sE g_tt _ _ _ 40 [some (.ref 384), some (.int (iZ (-1))), some (.int (iZ (n : Int))), some (.int (iZ u)), some (.int (iZ ((sCnt (soN W A n) c) + 1))), some (.int (iZ ((c : Int) + 1)))] [] (ms σ2 A F2)
        refine q_goto (tgt := 6) dX7_likelyBy_40 (by decide) ?_
        have e1 : sCnt (soN W A n) (c + 1) = (sCnt (soN W A n) c) + 1 := by rw [sCnt]; omega
        have k9 := ih (c + 1) σ2 F2 (by omega) hE3 hF3 (by omega)
        rw [e1] at k9
        exact k9
set_option maxHeartbeats 4000000 in
set_option maxRecDepth 100000 in
theorem m_offBy {d n : Nat}  (hd : 11 ≤ d) (hn3 : n ≤ 3) {u : Int} (hu : u = 0 ∨ u = 1) (σ : gS) (A F : Nat → Int) (h23 : F 23 = 1) (h26 : 0 ≤ F 26) {W : wF} {nt : Int} (hW : wOK (σ.2.1 387) 100000 nt W) (g : gd 98000 nt A) : sC mX7_likelyBy d [.ref 384, .int (iZ ((-1))), .int (iZ (n : Int)), .int (iZ u)] (ms σ A F) (fun r σ' => r = some (.int (iZ (mPt u (sCnt (soN W A n) (2 ^ (3 * n))).toNat (2 ^ (3 * n))))) ∧ ∃ σ2 F2, σ' = ms σ2 A F2 ∧ eqX σ σ2 ∧ fS F F2) := by
  refine sC_of rfl (Nat.le_of_ble_eq_true rfl) ?_
  show sE g_tt _ _ _ 0 [some (.ref 384), some (.int (iZ (-1))), some (.int (iZ (n : Int))), some (.int (iZ u)), none, none] [] (ms σ A F)
  refine z_iconst dX7_likelyBy_0 ?_
  refine q_istore dX7_likelyBy_1 (by decide) ?_
  show sE g_tt _ _ _ 3 [some (.ref 384), some (.int (iZ (-1))), some (.int (iZ (n : Int))), some (.int (iZ u)), some (.int (iZ 0)), none] [] (ms σ A F)
  refine z_iconst dX7_likelyBy_3 ?_
  refine q_istore dX7_likelyBy_4 (by decide) ?_
  show sE g_tt _ _ _ 6 [some (.ref 384), some (.int (iZ (-1))), some (.int (iZ (n : Int))), some (.int (iZ u)), some (.int (iZ 0)), some (.int (iZ 0))] [] (ms σ A F)
  have hN5 : 2 ^ (3 * n) ≤ 512 := Nat.le_trans (Nat.pow_le_pow_right (by decide) (show 3 * n ≤ 9 by omega)) (by decide)
  exact lp_offBy hd hn3 rfl hN5 (Nat.two_pow_pos _) hu σ A F h23 h26 hW g (2 ^ (3 * n) + 1) 0 σ F (Nat.zero_le _) (eqX_rf σ) (fS_rf h26) (by omega)
set_option maxHeartbeats 4000000 in
set_option maxRecDepth 100000 in
theorem m_likely {d p n : Nat} (hd : 12 ≤ d) (hn1 : 1 ≤ n) (hn3 : n ≤ 3) {u : Int} (hu : u = 0 ∨ u = 1) (σ : gS) (A F : Nat → Int) (h23 : F 23 = 1) (h26 : 0 ≤ F 26) {W : wF} {nt : Int} (hW : wOK (σ.2.1 387) 100000 nt W) (g : gd 98000 nt A) (hp : (p : Int) < A 0) : sC mX7_likely d [.ref 384, .int (iZ (p : Int)), .int (iZ (n : Int)), .int (iZ u)] (ms σ A F) (fun r σ' => r = some (.int (iZ (mPt u (sCnt (soB W A p n) (2 ^ (3 * n))).toNat (2 ^ (3 * n))))) ∧ ∃ σ2 F2, σ' = ms σ2 A F2 ∧ eqX σ σ2 ∧ fS F F2) := by
  have g0 := g.1
  refine sC_of rfl (Nat.le_of_ble_eq_true rfl) ?_
  show sE g_tt _ _ _ 0 [some (.ref 384), some (.int (iZ (p : Int))), some (.int (iZ (n : Int))), some (.int (iZ u))] [] (ms σ A F)
  refine q_aload_n dX7_likely_0 rfl rfl ?_
  refine q_iload_n dX7_likely_1 rfl rfl ?_
  refine s_callV (ci := 7) (a := 384) (As := [.int (iZ (p : Int))]) (S := []) dX7_likely_2 okX7_isPerson mlX7_367 rfl (by omega) rfl (Nat.le_of_ble_eq_true rfl) (show kd 384 = 7 from rfl) (by decide) rfl (m_isPerson (d := d - 1) (by omega) (p := (p : Int)) (by unfold inR; omega) σ A F g.1.1 g.1.2) (fun v_ σ_ hq => ?_)
  obtain ⟨rfl, e9⟩ := hq
  have e9 := e9.symm
  subst e9
  show sE g_tt _ _ _ 5 [some (.ref 384), some (.int (iZ (p : Int))), some (.int (iZ (n : Int))), some (.int (iZ u))] [.int (iZ (if 0 ≤ (p : Int) ∧ (p : Int) < A 0 then 1 else 0))] (ms σ A F)
  refine z_if_eq (tgt := 27) dX7_likely_5 (by decide) inR_01 (fun c_1 => ?_) (fun c_1 => ?_)
  · have c_1 := if01_0 c_1
    exfalso
    omega
  · have c_1 := if01_1 c_1
    refine q_iload_n dX7_likely_8 rfl rfl ?_
    refine z_iconst dX7_likely_9 ?_
    refine z_iconst dX7_likely_10 ?_
    refine s_callS (As := [.int (iZ (n : Int)), .int (iZ 1), .int (iZ 3)]) (S := []) dX7_likely_11 okX7_isIn mlX7_66 rfl (by omega) rfl (Nat.le_of_ble_eq_true rfl) (m_isIn (d := d - 1) (v := (n : Int)) (a := 1) (b := 3) (by unfold inR at *; omega) (by unfold inR at *; omega) (by unfold inR at *; omega) (ms σ A F)) (fun v_ σ_ hq => ?_)
    obtain ⟨rfl, e9⟩ := hq
    have e9 := e9.symm
    subst e9
    show sE g_tt _ _ _ 14 [some (.ref 384), some (.int (iZ (p : Int))), some (.int (iZ (n : Int))), some (.int (iZ u))] [.int (iZ (if 1 ≤ (n : Int) ∧ (n : Int) ≤ 3 then 1 else 0))] (ms σ A F)
    refine z_if_eq (tgt := 27) dX7_likely_14 (by decide) inR_01 (fun c_2 => ?_) (fun c_2 => ?_)
    · have c_2 := if01_0 c_2
      exfalso
      omega
    · have c_2 := if01_1 c_2
      refine q_aload_n dX7_likely_17 rfl rfl ?_
      refine q_iload_n dX7_likely_18 rfl rfl ?_
      refine q_iload_n dX7_likely_19 rfl rfl ?_
      refine q_iload_n dX7_likely_20 rfl rfl ?_
      refine s_callV (ci := 7) (a := 384) (As := [.int (iZ (p : Int)), .int (iZ (n : Int)), .int (iZ u)]) (S := []) dX7_likely_21 okX7_likelyBy mlX7_433 rfl (by omega) rfl (Nat.le_of_ble_eq_true rfl) (show kd 384 = 7 from rfl) (by decide) rfl (m_likelyBy (d := d - 1) (by omega) (by omega) (by omega) hu σ A F h23 h26 hW g) (fun v_ σ_ hq => ?_)
      obtain ⟨rfl, σ2, F2, e9, hE2, hF2⟩ := hq
      subst e9
      show sE g_tt _ _ _ 24 [some (.ref 384), some (.int (iZ (p : Int))), some (.int (iZ (n : Int))), some (.int (iZ u))] [.int (iZ (mPt u (sCnt (soB W A p n) (2 ^ (3 * n))).toNat (2 ^ (3 * n))))] (ms σ2 A F2)
      refine q_goto (tgt := 28) dX7_likely_24 (by decide) ?_
      exact s_iretZ dX7_likely_28 rfl ⟨rfl, σ2, F2, rfl, hE2, hF2⟩
set_option maxHeartbeats 4000000 in
set_option maxRecDepth 100000 in
theorem m_likely0 {d : Nat} (hd : 2 ≤ d) {p n u : Int} (hp : inR p) (hn : inR n) (σ : gS) (A F : Nat → Int) (h0 : 0 ≤ A 0) (h5 : A 0 ≤ 5) (hno : ¬ ((0 ≤ p ∧ p < A 0) ∧ 1 ≤ n ∧ n ≤ 3)) : sC mX7_likely d [.ref 384, .int (iZ p), .int (iZ n), .int (iZ u)] (ms σ A F) (fun r σ' => r = some (.int (iZ (-1))) ∧ σ' = ms σ A F) := by
  refine sC_of rfl (Nat.le_of_ble_eq_true rfl) ?_
  show sE g_tt _ _ _ 0 [some (.ref 384), some (.int (iZ p)), some (.int (iZ n)), some (.int (iZ u))] [] (ms σ A F)
  refine q_aload_n dX7_likely_0 rfl rfl ?_
  refine q_iload_n dX7_likely_1 rfl rfl ?_
  refine s_callV (ci := 7) (a := 384) (As := [.int (iZ p)]) (S := []) dX7_likely_2 okX7_isPerson mlX7_367 rfl (by omega) rfl (Nat.le_of_ble_eq_true rfl) (show kd 384 = 7 from rfl) (by decide) rfl (m_isPerson (d := d - 1) (by omega) (p := p) (by unfold inR at *; omega) σ A F (by omega) (by omega)) (fun v_ σ_ hq => ?_)
  obtain ⟨rfl, e9⟩ := hq
  have e9 := e9.symm
  subst e9
  show sE g_tt _ _ _ 5 [some (.ref 384), some (.int (iZ p)), some (.int (iZ n)), some (.int (iZ u))] [.int (iZ (if 0 ≤ p ∧ p < A 0 then 1 else 0))] (ms σ A F)
  refine z_if_eq (tgt := 27) dX7_likely_5 (by decide) inR_01 (fun c_1 => ?_) (fun c_1 => ?_)
  · have c_1 := if01_0 c_1
    refine z_iconst dX7_likely_27 ?_
    exact s_iretZ dX7_likely_28 rfl ⟨rfl, rfl⟩
  · have c_1 := if01_1 c_1
    refine q_iload_n dX7_likely_8 rfl rfl ?_
    refine z_iconst dX7_likely_9 ?_
    refine z_iconst dX7_likely_10 ?_
    refine s_callS (As := [.int (iZ n), .int (iZ 1), .int (iZ 3)]) (S := []) dX7_likely_11 okX7_isIn mlX7_66 rfl (by omega) rfl (Nat.le_of_ble_eq_true rfl) (m_isIn (d := d - 1) (v := n) (a := 1) (b := 3) (by unfold inR at *; omega) (by unfold inR at *; omega) (by unfold inR at *; omega) (ms σ A F)) (fun v_ σ_ hq => ?_)
    obtain ⟨rfl, e9⟩ := hq
    have e9 := e9.symm
    subst e9
    show sE g_tt _ _ _ 14 [some (.ref 384), some (.int (iZ p)), some (.int (iZ n)), some (.int (iZ u))] [.int (iZ (if 1 ≤ n ∧ n ≤ 3 then 1 else 0))] (ms σ A F)
    refine z_if_eq (tgt := 27) dX7_likely_14 (by decide) inR_01 (fun c_2 => ?_) (fun c_2 => ?_)
    · have c_2 := if01_0 c_2
      refine z_iconst dX7_likely_27 ?_
      exact s_iretZ dX7_likely_28 rfl ⟨rfl, rfl⟩
    · have c_2 := if01_1 c_2
      exfalso
      omega
set_option maxHeartbeats 4000000 in
set_option maxRecDepth 100000 in
theorem m_off {d n : Nat} (hd : 12 ≤ d) (hn1 : 1 ≤ n) (hn3 : n ≤ 3) {u : Int} (hu : u = 0 ∨ u = 1) (σ : gS) (A F : Nat → Int) (h23 : F 23 = 1) (h26 : 0 ≤ F 26) {W : wF} {nt : Int} (hW : wOK (σ.2.1 387) 100000 nt W) (g : gd 98000 nt A) : sC mX7_off d [.ref 384, .int (iZ (n : Int)), .int (iZ u)] (ms σ A F) (fun r σ' => r = some (.int (iZ (mPt u (sCnt (soN W A n) (2 ^ (3 * n))).toNat (2 ^ (3 * n))))) ∧ ∃ σ2 F2, σ' = ms σ2 A F2 ∧ eqX σ σ2 ∧ fS F F2) := by
  refine sC_of rfl (Nat.le_of_ble_eq_true rfl) ?_
  show sE g_tt _ _ _ 0 [some (.ref 384), some (.int (iZ (n : Int))), some (.int (iZ u))] [] (ms σ A F)
  refine q_iload_n dX7_off_0 rfl rfl ?_
  refine z_iconst dX7_off_1 ?_
  refine z_iconst dX7_off_2 ?_
  refine s_callS (As := [.int (iZ (n : Int)), .int (iZ 1), .int (iZ 3)]) (S := []) dX7_off_3 okX7_isIn mlX7_66 rfl (by omega) rfl (Nat.le_of_ble_eq_true rfl) (m_isIn (d := d - 1) (v := (n : Int)) (a := 1) (b := 3) (by unfold inR at *; omega) (by unfold inR at *; omega) (by unfold inR at *; omega) (ms σ A F)) (fun v_ σ_ hq => ?_)
  obtain ⟨rfl, e9⟩ := hq
  have e9 := e9.symm
  subst e9
  show sE g_tt _ _ _ 6 [some (.ref 384), some (.int (iZ (n : Int))), some (.int (iZ u))] [.int (iZ (if 1 ≤ (n : Int) ∧ (n : Int) ≤ 3 then 1 else 0))] (ms σ A F)
  refine z_if_eq (tgt := 19) dX7_off_6 (by decide) inR_01 (fun c_1 => ?_) (fun c_1 => ?_)
  · have c_1 := if01_0 c_1
    exfalso
    omega
  · have c_1 := if01_1 c_1
    refine q_aload_n dX7_off_9 rfl rfl ?_
    refine z_iconst dX7_off_10 ?_
    refine q_iload_n dX7_off_11 rfl rfl ?_
    refine q_iload_n dX7_off_12 rfl rfl ?_
    refine s_callV (ci := 7) (a := 384) (As := [.int (iZ (-1)), .int (iZ (n : Int)), .int (iZ u)]) (S := []) dX7_off_13 okX7_likelyBy mlX7_433 rfl (by omega) rfl (Nat.le_of_ble_eq_true rfl) (show kd 384 = 7 from rfl) (by decide) rfl (m_offBy (d := d - 1) (by omega) (by omega) hu σ A F h23 h26 hW g) (fun v_ σ_ hq => ?_)
    obtain ⟨rfl, σ2, F2, e9, hE2, hF2⟩ := hq
    subst e9
    show sE g_tt _ _ _ 16 [some (.ref 384), some (.int (iZ (n : Int))), some (.int (iZ u))] [.int (iZ (mPt u (sCnt (soN W A n) (2 ^ (3 * n))).toNat (2 ^ (3 * n))))] (ms σ2 A F2)
    refine q_goto (tgt := 20) dX7_off_16 (by decide) ?_
    exact s_iretZ dX7_off_20 rfl ⟨rfl, σ2, F2, rfl, hE2, hF2⟩
set_option maxHeartbeats 4000000 in
set_option maxRecDepth 100000 in
theorem m_off0 {d : Nat} (hd : 2 ≤ d) {n u : Int} (hn : inR n) (σ : gS) (A F : Nat → Int) (hno : ¬ (1 ≤ n ∧ n ≤ 3)) : sC mX7_off d [.ref 384, .int (iZ n), .int (iZ u)] (ms σ A F) (fun r σ' => r = some (.int (iZ (-1))) ∧ σ' = ms σ A F) := by
  refine sC_of rfl (Nat.le_of_ble_eq_true rfl) ?_
  show sE g_tt _ _ _ 0 [some (.ref 384), some (.int (iZ n)), some (.int (iZ u))] [] (ms σ A F)
  refine q_iload_n dX7_off_0 rfl rfl ?_
  refine z_iconst dX7_off_1 ?_
  refine z_iconst dX7_off_2 ?_
  refine s_callS (As := [.int (iZ n), .int (iZ 1), .int (iZ 3)]) (S := []) dX7_off_3 okX7_isIn mlX7_66 rfl (by omega) rfl (Nat.le_of_ble_eq_true rfl) (m_isIn (d := d - 1) (v := n) (a := 1) (b := 3) (by unfold inR at *; omega) (by unfold inR at *; omega) (by unfold inR at *; omega) (ms σ A F)) (fun v_ σ_ hq => ?_)
  obtain ⟨rfl, e9⟩ := hq
  have e9 := e9.symm
  subst e9
  show sE g_tt _ _ _ 6 [some (.ref 384), some (.int (iZ n)), some (.int (iZ u))] [.int (iZ (if 1 ≤ n ∧ n ≤ 3 then 1 else 0))] (ms σ A F)
  refine z_if_eq (tgt := 19) dX7_off_6 (by decide) inR_01 (fun c_1 => ?_) (fun c_1 => ?_)
  · have c_1 := if01_0 c_1
    refine z_iconst dX7_off_19 ?_
    exact s_iretZ dX7_off_20 rfl ⟨rfl, rfl⟩
  · have c_1 := if01_1 c_1
    exfalso
    omega
