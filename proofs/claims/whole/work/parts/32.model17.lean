/-- a line of the book -/
def mEnt (A : Nat → Int) (i : Nat) (n : Int) : Int := if n = 0 then (A (1553 + i)).tdiv 45 else if n = 1 then ((A (1553 + i)).tdiv 9).tmod 5 else (A (1553 + i)).tmod 9 - 1
/-- lines of person q (-1: of anybody) among the first n -/
def mLn (A : Nat → Int) (q : Int) : Nat → Int
  | 0 => 0
  | n + 1 => mLn A q n + (if q = -1 ∨ ((A (1553 + n)).tdiv 9).tmod 5 = q then 1 else 0)
theorem mLn_ran (A : Nat → Int) (q : Int) : ∀ n, 0 ≤ mLn A q n ∧ mLn A q n ≤ (n : Int) := by
  intro n
  induction n with
  | zero => exact ⟨Int.le_refl _, Int.le_refl _⟩
  | succ n ih => rw [mLn]; split <;> omega
theorem inR_tmod {x y : Int} (h : 0 < y) (h2 : y ≤ 1000000) : inR (x.tmod y) := by
  have a := Int.tmod_lt_of_pos x h
  have b : -y < x.tmod y := by
    have c := Int.tmod_lt_of_pos (-x) h
    rw [Int.neg_tmod] at c
    omega
  unfold inR
  omega
set_option maxHeartbeats 4000000 in
set_option maxRecDepth 100000 in
theorem lp_linesOf {d : Nat} (hd : 1 ≤ d) {q : Int} (hq : inR q) (σ : gS) (A F : Nat → Int) (h0 : 0 ≤ A 10) (h30 : A 10 ≤ 30) (hbk : ∀ i, i < 30 → inR (A (1553 + i))) : ∀ (n : Nat) (k : Nat), (k : Int) ≤ A 10 → A 10 - (k : Int) < (n : Int) → sE g_tt mX7_linesOf d (fun r σ' => r = some (.int (iZ (mLn A q (A 10).toNat))) ∧ σ' = ms σ A F) 4 [some (.ref 384), some (.int (iZ q)), some (.int (iZ (mLn A q k))), some (.int (iZ (k : Int)))] [] (ms σ A F) := by
  intro n
  induction n with
  | zero =>
    intro k hk hn
    exact absurd hn (by omega)
  | succ n ih =>
    intro k hk hn
    refine q_iload_n dX7_linesOf_4 rfl rfl ?_
    refine q_aload_n dX7_linesOf_5 rfl rfl ?_
    refine sg7 (kf := 0) (v := .ref 385) dX7_linesOf_6 flX7_7 (show kd 384 = 7 from rfl) (by decide) rfl ?_
    refine z_bipush dX7_linesOf_9 (by decide +kernel) ?_
    refine s_iald (n := 1583) (x := A 10) dX7_linesOf_11 (show kd 385 = 100 + 1583 from rfl) (by omega) (by omega) (by decide) rfl ?_
    refine z_icmp_ge (tgt := 44) dX7_linesOf_12 (by decide) (by unfold inR at *; omega) (by unfold inR at *; omega) (fun c_1 => ?_) (fun c_1 => ?_)
    · refine q_iload_n dX7_linesOf_44 rfl rfl ?_
      exact s_iretZ dX7_linesOf_45 rfl ⟨by rw [show k = (A 10).toNat by omega], rfl⟩
    · refine q_iload_n dX7_linesOf_15 rfl rfl ?_
      refine q_iload_n dX7_linesOf_16 rfl rfl ?_
      refine z_iconst dX7_linesOf_17 ?_
      refine z_icmp_eq (tgt := 31) dX7_linesOf_18 (by decide) (by unfold inR at *; omega) (by unfold inR at *; omega) (fun c_2 => ?_) (fun c_2 => ?_)
      · refine z_iconst dX7_linesOf_31 ?_
        refine q_goto (tgt := 36) dX7_linesOf_32 (by decide) ?_
        refine z_iadd dX7_linesOf_36 ?_
        refine q_istore_n dX7_linesOf_37 rfl (by decide) ?_
        show sE g_tt _ _ _ 38 [some (.ref 384), some (.int (iZ q)), some (.int (iZ ((mLn A q k) + 1))), some (.int (iZ (k : Int)))] [] (ms σ A F)
        refine z_iinc dX7_linesOf_38 rfl (by decide) ?_
        show sE g_tt _ _ _ 41 [some (.ref 384), some (.int (iZ q)), some (.int (iZ ((mLn A q k) + 1))), some (.int (iZ ((k : Int) + 1)))] [] (ms σ A F)
        refine q_goto (tgt := 4) dX7_linesOf_41 (by decide) ?_
        have k9 := ih (k + 1) (by omega) (by omega)
        rw [show mLn A q (k + 1) = mLn A q k + 1 by rw [mLn, if_pos (by omega)]] at k9
        exact k9
      · refine q_aload_n dX7_linesOf_21 rfl rfl ?_
        refine q_iload_n dX7_linesOf_22 rfl rfl ?_
        refine z_iconst dX7_linesOf_23 ?_
        refine s_callV (ci := 7) (a := 384) (As := [.int (iZ (k : Int)), .int (iZ 1)]) (S := [.int (iZ (mLn A q k))]) dX7_linesOf_24 okX7_entry mlX7_373 rfl (by omega) rfl (Nat.le_of_ble_eq_true rfl) (show kd 384 = 7 from rfl) (by decide) rfl (m_entry (d := d - 1) (i := k) (w := 1) (by omega) (by unfold inR; decide) σ A F hbk) (fun v_ σ_ hq => ?_)
        obtain ⟨rfl, e9⟩ := hq
        have e9 := e9.symm
        subst e9
        show sE g_tt _ _ _ 27 [some (.ref 384), some (.int (iZ q)), some (.int (iZ (mLn A q k))), some (.int (iZ (k : Int)))] [.int (iZ (if (1 : Int) = 0 then (A (1553 + k)).tdiv 45 else if (1 : Int) = 1 then ((A (1553 + k)).tdiv 9).tmod 5 else (A (1553 + k)).tmod 9 - 1)), .int (iZ (mLn A q k))] (ms σ A F)
        refine z_top (y := ((A (1553 + k)).tdiv 9).tmod 5) (by rw [if_neg (by decide), if_pos rfl]) ?_
        refine q_iload_n dX7_linesOf_27 rfl rfl ?_
        refine z_icmp_ne (tgt := 35) dX7_linesOf_28 (by decide) (inR_tmod (by decide) (by decide)) (by unfold inR at *; omega) (fun c_3 => ?_) (fun c_3 => ?_)
        · refine z_iconst dX7_linesOf_35 ?_
          refine z_iadd dX7_linesOf_36 ?_
          refine q_istore_n dX7_linesOf_37 rfl (by decide) ?_
          show sE g_tt _ _ _ 38 [some (.ref 384), some (.int (iZ q)), some (.int (iZ ((mLn A q k) + 0))), some (.int (iZ (k : Int)))] [] (ms σ A F)
          refine z_iinc dX7_linesOf_38 rfl (by decide) ?_
          show sE g_tt _ _ _ 41 [some (.ref 384), some (.int (iZ q)), some (.int (iZ ((mLn A q k) + 0))), some (.int (iZ ((k : Int) + 1)))] [] (ms σ A F)
          refine q_goto (tgt := 4) dX7_linesOf_41 (by decide) ?_
          have k9 := ih (k + 1) (by omega) (by omega)
          rw [show mLn A q (k + 1) = mLn A q k + 0 by rw [mLn, if_neg (by omega)]] at k9
          exact k9
        · refine z_iconst dX7_linesOf_31 ?_
          refine q_goto (tgt := 36) dX7_linesOf_32 (by decide) ?_
          refine z_iadd dX7_linesOf_36 ?_
          refine q_istore_n dX7_linesOf_37 rfl (by decide) ?_
          show sE g_tt _ _ _ 38 [some (.ref 384), some (.int (iZ q)), some (.int (iZ ((mLn A q k) + 1))), some (.int (iZ (k : Int)))] [] (ms σ A F)
          refine z_iinc dX7_linesOf_38 rfl (by decide) ?_
          show sE g_tt _ _ _ 41 [some (.ref 384), some (.int (iZ q)), some (.int (iZ ((mLn A q k) + 1))), some (.int (iZ ((k : Int) + 1)))] [] (ms σ A F)
          refine q_goto (tgt := 4) dX7_linesOf_41 (by decide) ?_
          have k9 := ih (k + 1) (by omega) (by omega)
          rw [show mLn A q (k + 1) = mLn A q k + 1 by rw [mLn, if_pos (by omega)]] at k9
          exact k9
set_option maxHeartbeats 4000000 in
set_option maxRecDepth 100000 in
theorem m_linesOf {d : Nat} (hd : 1 ≤ d) {q : Int} (hq : inR q) (σ : gS) (A F : Nat → Int) (h0 : 0 ≤ A 10) (h30 : A 10 ≤ 30) (hbk : ∀ i, i < 30 → inR (A (1553 + i))) : sC mX7_linesOf d [.ref 384, .int (iZ q)] (ms σ A F) (fun r σ' => r = some (.int (iZ (mLn A q (A 10).toNat))) ∧ σ' = ms σ A F) := by
  refine sC_of rfl (Nat.le_of_ble_eq_true rfl) ?_
  show sE g_tt _ _ _ 0 [some (.ref 384), some (.int (iZ q)), none, none] [] (ms σ A F)
  refine z_iconst dX7_linesOf_0 ?_
  refine q_istore_n dX7_linesOf_1 rfl (by decide) ?_
  show sE g_tt _ _ _ 2 [some (.ref 384), some (.int (iZ q)), some (.int (iZ 0)), none] [] (ms σ A F)
  refine z_iconst dX7_linesOf_2 ?_
  refine q_istore_n dX7_linesOf_3 rfl (by decide) ?_
  show sE g_tt _ _ _ 4 [some (.ref 384), some (.int (iZ q)), some (.int (iZ 0)), some (.int (iZ 0))] [] (ms σ A F)
  exact lp_linesOf hd hq σ A F h0 h30 hbk 31 0 (by omega) (by omega)
set_option maxHeartbeats 4000000 in
set_option maxRecDepth 100000 in
theorem m_ledger {d : Nat} (hd : 2 ≤ d) {q : Int} (hq : inR q) (σ : gS) (A F : Nat → Int) {nt : Int} (g : gd 100000 nt A) (hbk : ∀ i, i < 30 → inR (A (1553 + i))) : sC mX7_ledger d [.ref 384, .int (iZ q)] (ms σ A F) (fun r σ' => r = some (.int (iZ (if q = -1 ∨ (0 ≤ q ∧ q < A 0) then mLn A q (A 10).toNat else -2))) ∧ σ' = ms σ A F) := by
  have g10 := g.2.2.2.2.1
  have g0 := g.1
  refine sC_of rfl (Nat.le_of_ble_eq_true rfl) ?_
  show sE g_tt _ _ _ 0 [some (.ref 384), some (.int (iZ q))] [] (ms σ A F)
  refine q_iload_n dX7_ledger_0 rfl rfl ?_
  refine z_iconst dX7_ledger_1 ?_
  refine z_icmp_eq (tgt := 13) dX7_ledger_2 (by decide) (by unfold inR at *; omega) (by unfold inR at *; omega) (fun c_1 => ?_) (fun c_1 => ?_)
  · refine q_aload_n dX7_ledger_13 rfl rfl ?_
    refine q_iload_n dX7_ledger_14 rfl rfl ?_
    refine s_callV (ci := 7) (a := 384) (As := [.int (iZ q)]) (S := []) dX7_ledger_15 okX7_linesOf mlX7_376 rfl (by omega) rfl (Nat.le_of_ble_eq_true rfl) (show kd 384 = 7 from rfl) (by decide) rfl (m_linesOf (d := d - 1) (q := q) (by omega) (by unfold inR at *; omega) σ A F g10.1 g10.2 hbk) (fun v_ σ_ hq => ?_)
    obtain ⟨rfl, e9⟩ := hq
    have e9 := e9.symm
    subst e9
    show sE g_tt _ _ _ 18 [some (.ref 384), some (.int (iZ q))] [.int (iZ (mLn A q (A 10).toNat))] (ms σ A F)
    refine q_goto (tgt := 23) dX7_ledger_18 (by decide) ?_
    exact s_iretZ dX7_ledger_23 rfl ⟨by first | (congr 3; (repeat (first | rw [if_pos (by omega)] | rw [if_neg (by omega)])); done) | (exfalso; omega), by (first | rfl | ((repeat (first | rw [if_pos (by omega)] | rw [if_neg (by omega)])); (try rfl)))⟩
  · refine q_aload_n dX7_ledger_5 rfl rfl ?_
    refine q_iload_n dX7_ledger_6 rfl rfl ?_
    refine s_callV (ci := 7) (a := 384) (As := [.int (iZ q)]) (S := []) dX7_ledger_7 okX7_isPerson mlX7_367 rfl (by omega) rfl (Nat.le_of_ble_eq_true rfl) (show kd 384 = 7 from rfl) (by decide) rfl (m_isPerson (d := d - 1) (by omega) (p := q) (by unfold inR at *; omega) σ A F (by omega) (by omega)) (fun v_ σ_ hq => ?_)
    obtain ⟨rfl, e9⟩ := hq
    have e9 := e9.symm
    subst e9
    show sE g_tt _ _ _ 10 [some (.ref 384), some (.int (iZ q))] [.int (iZ (if 0 ≤ q ∧ q < A 0 then 1 else 0))] (ms σ A F)
    refine z_if_eq (tgt := 21) dX7_ledger_10 (by decide) inR_01 (fun c_2 => ?_) (fun c_2 => ?_)
    · have c_2 := if01_0 c_2
      refine z_bipush dX7_ledger_21 (by decide +kernel) ?_
      exact s_iretZ dX7_ledger_23 rfl ⟨by first | (congr 3; (repeat (first | rw [if_pos (by omega)] | rw [if_neg (by omega)])); done) | (exfalso; omega), by (first | rfl | ((repeat (first | rw [if_pos (by omega)] | rw [if_neg (by omega)])); (try rfl)))⟩
    · have c_2 := if01_1 c_2
      refine q_aload_n dX7_ledger_13 rfl rfl ?_
      refine q_iload_n dX7_ledger_14 rfl rfl ?_
      refine s_callV (ci := 7) (a := 384) (As := [.int (iZ q)]) (S := []) dX7_ledger_15 okX7_linesOf mlX7_376 rfl (by omega) rfl (Nat.le_of_ble_eq_true rfl) (show kd 384 = 7 from rfl) (by decide) rfl (m_linesOf (d := d - 1) (q := q) (by omega) (by unfold inR at *; omega) σ A F g10.1 g10.2 hbk) (fun v_ σ_ hq => ?_)
      obtain ⟨rfl, e9⟩ := hq
      have e9 := e9.symm
      subst e9
      show sE g_tt _ _ _ 18 [some (.ref 384), some (.int (iZ q))] [.int (iZ (mLn A q (A 10).toNat))] (ms σ A F)
      refine q_goto (tgt := 23) dX7_ledger_18 (by decide) ?_
      exact s_iretZ dX7_ledger_23 rfl ⟨by first | (congr 3; (repeat (first | rw [if_pos (by omega)] | rw [if_neg (by omega)])); done) | (exfalso; omega), by (first | rfl | ((repeat (first | rw [if_pos (by omega)] | rw [if_neg (by omega)])); (try rfl)))⟩
set_option maxHeartbeats 4000000 in
set_option maxRecDepth 100000 in
theorem lp_travelled {d : Nat} (hd : 2 ≤ d) (σ : gS) (A F : Nat → Int) {nt : Int} (g : gd 100000 nt A) (hbk : ∀ i, i < 30 → inR (A (1553 + i))) : ∀ (n : Nat) (k : Nat), (k : Int) ≤ A 0 → A 0 - (k : Int) < (n : Int) → sE g_tt mX7_travelled d (fun r σ' => r = some (.int (iZ (mArg (fun p => mLn A (p : Int) (A 10).toNat) ((A 0).toNat)))) ∧ σ' = ms σ A F) 4 [some (.ref 384), some (.int (iZ (mArg (fun p => mLn A (p : Int) (A 10).toNat) k))), some (.int (iZ (k : Int)))] [] (ms σ A F) := by
  intro n
  induction n with
  | zero =>
    intro k hk hn
    exact absurd hn (by omega)
  | succ n ih =>
    intro k hk hn
    have g0 := g.1
    have g10 := g.2.2.2.2.1
    rcases mArg_spec (fun p => mLn A (p : Int) (A 10).toNat) k with e | ⟨b, hb, e⟩
    · rw [e]
      refine q_iload_n dX7_travelled_4 rfl rfl ?_
      refine q_aload_n dX7_travelled_5 rfl rfl ?_
      refine sg7 (kf := 0) (v := .ref 385) dX7_travelled_6 flX7_7 (show kd 384 = 7 from rfl) (by decide) rfl ?_
      refine z_iconst dX7_travelled_9 ?_
      refine s_iald (n := 1583) (x := A 0) dX7_travelled_10 (show kd 385 = 100 + 1583 from rfl) (by omega) (by omega) (by decide) rfl ?_
      refine z_icmp_ge (tgt := 44) dX7_travelled_11 (by decide) (by unfold inR at *; omega) (by unfold inR at *; omega) (fun c_1 => ?_) (fun c_1 => ?_)
      · refine q_iload_n dX7_travelled_44 rfl rfl ?_
        exact s_iretZ dX7_travelled_45 rfl ⟨by rw [← show k = (A 0).toNat by omega]; exact congrArg (fun x => some (Value.int (iZ x))) e.symm, rfl⟩
      · refine q_aload_n dX7_travelled_14 rfl rfl ?_
        refine q_iload_n dX7_travelled_15 rfl rfl ?_
        refine s_callV (ci := 7) (a := 384) (As := [.int (iZ (k : Int))]) (S := []) dX7_travelled_16 okX7_linesOf mlX7_376 rfl (by omega) rfl (Nat.le_of_ble_eq_true rfl) (show kd 384 = 7 from rfl) (by decide) rfl (m_linesOf (d := d - 1) (q := (k : Int)) (by omega) (by unfold inR at *; omega) σ A F g10.1 g10.2 hbk) (fun v_ σ_ hq => ?_)
        obtain ⟨rfl, e9⟩ := hq
        have e9 := e9.symm
        subst e9
        show sE g_tt _ _ _ 19 [some (.ref 384), some (.int (iZ (-1))), some (.int (iZ (k : Int)))] [.int (iZ (mLn A (k : Int) (A 10).toNat))] (ms σ A F)
        refine q_iload_n dX7_travelled_19 rfl rfl ?_
        refine z_iconst dX7_travelled_20 ?_
        refine z_icmp_ne (tgt := 28) dX7_travelled_21 (by decide) (by unfold inR at *; omega) (by unfold inR at *; omega) (fun c_2 => ?_) (fun c_2 => ?_)
        · exfalso
          revert c_2
          decide
        · refine z_iconst dX7_travelled_24 ?_
          refine q_goto (tgt := 33) dX7_travelled_25 (by decide) ?_
          refine z_icmp_le (tgt := 38) dX7_travelled_33 (by decide) (by have := mLn_ran A (k : Int) (A 10).toNat; have := g.2.2.2.2.1; unfold inR; omega) (by unfold inR at *; omega) (fun c_3 => ?_) (fun c_3 => ?_)
          · refine z_iinc dX7_travelled_38 rfl (by decide) ?_
            show sE g_tt _ _ _ 41 [some (.ref 384), some (.int (iZ (-1))), some (.int (iZ ((k : Int) + 1)))] [] (ms σ A F)
            refine q_goto (tgt := 4) dX7_travelled_41 (by decide) ?_
            have k9 := ih (k + 1) (by omega) (by omega)
            rw [mArg_0n (f := fun p => mLn A (p : Int) (A 10).toNat) e (by show ¬ 0 < (fun p => mLn A (p : Int) (A 10).toNat) k; simp only []; omega)] at k9
            exact k9
          · refine q_iload_n dX7_travelled_36 rfl rfl ?_
            refine q_istore_n dX7_travelled_37 rfl (by decide) ?_
            show sE g_tt _ _ _ 38 [some (.ref 384), some (.int (iZ (k : Int))), some (.int (iZ (k : Int)))] [] (ms σ A F)
            refine z_iinc dX7_travelled_38 rfl (by decide) ?_
            show sE g_tt _ _ _ 41 [some (.ref 384), some (.int (iZ (k : Int))), some (.int (iZ ((k : Int) + 1)))] [] (ms σ A F)
            refine q_goto (tgt := 4) dX7_travelled_41 (by decide) ?_
            have k9 := ih (k + 1) (by omega) (by omega)
            rw [mArg_0y (f := fun p => mLn A (p : Int) (A 10).toNat) e (by show 0 < (fun p => mLn A (p : Int) (A 10).toNat) k; simp only []; omega)] at k9
            exact k9
    · rw [e]
      refine q_iload_n dX7_travelled_4 rfl rfl ?_
      refine q_aload_n dX7_travelled_5 rfl rfl ?_
      refine sg7 (kf := 0) (v := .ref 385) dX7_travelled_6 flX7_7 (show kd 384 = 7 from rfl) (by decide) rfl ?_
      refine z_iconst dX7_travelled_9 ?_
      refine s_iald (n := 1583) (x := A 0) dX7_travelled_10 (show kd 385 = 100 + 1583 from rfl) (by omega) (by omega) (by decide) rfl ?_
      refine z_icmp_ge (tgt := 44) dX7_travelled_11 (by decide) (by unfold inR at *; omega) (by unfold inR at *; omega) (fun c_1 => ?_) (fun c_1 => ?_)
      · refine q_iload_n dX7_travelled_44 rfl rfl ?_
        exact s_iretZ dX7_travelled_45 rfl ⟨by rw [← show k = (A 0).toNat by omega]; exact congrArg (fun x => some (Value.int (iZ x))) e.symm, rfl⟩
      · refine q_aload_n dX7_travelled_14 rfl rfl ?_
        refine q_iload_n dX7_travelled_15 rfl rfl ?_
        refine s_callV (ci := 7) (a := 384) (As := [.int (iZ (k : Int))]) (S := []) dX7_travelled_16 okX7_linesOf mlX7_376 rfl (by omega) rfl (Nat.le_of_ble_eq_true rfl) (show kd 384 = 7 from rfl) (by decide) rfl (m_linesOf (d := d - 1) (q := (k : Int)) (by omega) (by unfold inR at *; omega) σ A F g10.1 g10.2 hbk) (fun v_ σ_ hq => ?_)
        obtain ⟨rfl, e9⟩ := hq
        have e9 := e9.symm
        subst e9
        show sE g_tt _ _ _ 19 [some (.ref 384), some (.int (iZ (b : Int))), some (.int (iZ (k : Int)))] [.int (iZ (mLn A (k : Int) (A 10).toNat))] (ms σ A F)
        refine q_iload_n dX7_travelled_19 rfl rfl ?_
        refine z_iconst dX7_travelled_20 ?_
        refine z_icmp_ne (tgt := 28) dX7_travelled_21 (by decide) (by unfold inR at *; omega) (by unfold inR at *; omega) (fun c_2 => ?_) (fun c_2 => ?_)
        · refine q_aload_n dX7_travelled_28 rfl rfl ?_
          refine q_iload_n dX7_travelled_29 rfl rfl ?_
          refine s_callV (ci := 7) (a := 384) (As := [.int (iZ (b : Int))]) (S := [.int (iZ (mLn A (k : Int) (A 10).toNat))]) dX7_travelled_30 okX7_linesOf mlX7_376 rfl (by omega) rfl (Nat.le_of_ble_eq_true rfl) (show kd 384 = 7 from rfl) (by decide) rfl (m_linesOf (d := d - 1) (q := (b : Int)) (by omega) (by unfold inR at *; omega) σ A F g10.1 g10.2 hbk) (fun v_ σ_ hq => ?_)
          obtain ⟨rfl, e9⟩ := hq
          have e9 := e9.symm
          subst e9
          show sE g_tt _ _ _ 33 [some (.ref 384), some (.int (iZ (b : Int))), some (.int (iZ (k : Int)))] [.int (iZ (mLn A (b : Int) (A 10).toNat)), .int (iZ (mLn A (k : Int) (A 10).toNat))] (ms σ A F)
          refine z_icmp_le (tgt := 38) dX7_travelled_33 (by decide) (by have := mLn_ran A (k : Int) (A 10).toNat; have := g.2.2.2.2.1; unfold inR; omega) (by have := mLn_ran A (b : Int) (A 10).toNat; have := g.2.2.2.2.1; unfold inR; omega) (fun c_3 => ?_) (fun c_3 => ?_)
          · refine z_iinc dX7_travelled_38 rfl (by decide) ?_
            show sE g_tt _ _ _ 41 [some (.ref 384), some (.int (iZ (b : Int))), some (.int (iZ ((k : Int) + 1)))] [] (ms σ A F)
            refine q_goto (tgt := 4) dX7_travelled_41 (by decide) ?_
            have k9 := ih (k + 1) (by omega) (by omega)
            rw [mArg_bn (f := fun p => mLn A (p : Int) (A 10).toNat) e (by show ¬ (fun p => mLn A (p : Int) (A 10).toNat) b < (fun p => mLn A (p : Int) (A 10).toNat) k; simp only []; omega)] at k9
            exact k9
          · refine q_iload_n dX7_travelled_36 rfl rfl ?_
            refine q_istore_n dX7_travelled_37 rfl (by decide) ?_
            show sE g_tt _ _ _ 38 [some (.ref 384), some (.int (iZ (k : Int))), some (.int (iZ (k : Int)))] [] (ms σ A F)
            refine z_iinc dX7_travelled_38 rfl (by decide) ?_
            show sE g_tt _ _ _ 41 [some (.ref 384), some (.int (iZ (k : Int))), some (.int (iZ ((k : Int) + 1)))] [] (ms σ A F)
            refine q_goto (tgt := 4) dX7_travelled_41 (by decide) ?_
            have k9 := ih (k + 1) (by omega) (by omega)
            rw [mArg_by (f := fun p => mLn A (p : Int) (A 10).toNat) e (by show (fun p => mLn A (p : Int) (A 10).toNat) b < (fun p => mLn A (p : Int) (A 10).toNat) k; simp only []; omega)] at k9
            exact k9
        · refine z_iconst dX7_travelled_24 ?_
          refine q_goto (tgt := 33) dX7_travelled_25 (by decide) ?_
          refine z_icmp_le (tgt := 38) dX7_travelled_33 (by decide) (by have := mLn_ran A (k : Int) (A 10).toNat; have := g.2.2.2.2.1; unfold inR; omega) (by unfold inR at *; omega) (fun c_4 => ?_) (fun c_4 => ?_)
          · refine z_iinc dX7_travelled_38 rfl (by decide) ?_
            show sE g_tt _ _ _ 41 [some (.ref 384), some (.int (iZ (b : Int))), some (.int (iZ ((k : Int) + 1)))] [] (ms σ A F)
            refine q_goto (tgt := 4) dX7_travelled_41 (by decide) ?_
            have k9 := ih (k + 1) (by omega) (by omega)
            rw [mArg_bn (f := fun p => mLn A (p : Int) (A 10).toNat) e (by show ¬ (fun p => mLn A (p : Int) (A 10).toNat) b < (fun p => mLn A (p : Int) (A 10).toNat) k; simp only []; omega)] at k9
            exact k9
          · refine q_iload_n dX7_travelled_36 rfl rfl ?_
            refine q_istore_n dX7_travelled_37 rfl (by decide) ?_
            show sE g_tt _ _ _ 38 [some (.ref 384), some (.int (iZ (k : Int))), some (.int (iZ (k : Int)))] [] (ms σ A F)
            refine z_iinc dX7_travelled_38 rfl (by decide) ?_
            show sE g_tt _ _ _ 41 [some (.ref 384), some (.int (iZ (k : Int))), some (.int (iZ ((k : Int) + 1)))] [] (ms σ A F)
            refine q_goto (tgt := 4) dX7_travelled_41 (by decide) ?_
            have k9 := ih (k + 1) (by omega) (by omega)
            rw [mArg_by (f := fun p => mLn A (p : Int) (A 10).toNat) e (by show (fun p => mLn A (p : Int) (A 10).toNat) b < (fun p => mLn A (p : Int) (A 10).toNat) k; simp only []; omega)] at k9
            exact k9
set_option maxHeartbeats 4000000 in
set_option maxRecDepth 100000 in
theorem m_travelled {d : Nat} (hd : 2 ≤ d) (σ : gS) (A F : Nat → Int) {nt : Int} (g : gd 100000 nt A) (hbk : ∀ i, i < 30 → inR (A (1553 + i))) : sC mX7_travelled d [.ref 384] (ms σ A F) (fun r σ' => r = some (.int (iZ (mArg (fun p => mLn A (p : Int) (A 10).toNat) ((A 0).toNat)))) ∧ σ' = ms σ A F) := by
  refine sC_of rfl (Nat.le_of_ble_eq_true rfl) ?_
  show sE g_tt _ _ _ 0 [some (.ref 384), none, none] [] (ms σ A F)
  refine z_iconst dX7_travelled_0 ?_
  refine q_istore_n dX7_travelled_1 rfl (by decide) ?_
  show sE g_tt _ _ _ 2 [some (.ref 384), some (.int (iZ (-1))), none] [] (ms σ A F)
  refine z_iconst dX7_travelled_2 ?_
  refine q_istore_n dX7_travelled_3 rfl (by decide) ?_
  show sE g_tt _ _ _ 4 [some (.ref 384), some (.int (iZ (-1))), some (.int (iZ 0))] [] (ms σ A F)
  exact lp_travelled hd σ A F g hbk 9 0 (by have := g.1; omega) (by have := g.1; omega)
set_option maxHeartbeats 4000000 in
set_option maxRecDepth 100000 in
theorem m_book {d : Nat} (hd : 1 ≤ d) {i n : Int} (hi : inR i) (hn : inR n) (σ : gS) (A F : Nat → Int) {nt : Int} (g : gd 100000 nt A) (hbk : ∀ i, i < 30 → inR (A (1553 + i))) : sC mX7_book d [.ref 384, .int (iZ i), .int (iZ n)] (ms σ A F) (fun r σ' => r = some (.int (iZ (if i = -1 then A 10 else if (0 ≤ i ∧ i ≤ A 10 - 1) ∧ 0 ≤ n ∧ n ≤ 2 then mEnt A i.toNat n else -2))) ∧ σ' = ms σ A F) := by
  have g10 := g.2.2.2.2.1
  refine sC_of rfl (Nat.le_of_ble_eq_true rfl) ?_
  show sE g_tt _ _ _ 0 [some (.ref 384), some (.int (iZ i)), some (.int (iZ n))] [] (ms σ A F)
  refine q_iload_n dX7_book_0 rfl rfl ?_
  refine z_iconst dX7_book_1 ?_
  refine z_icmp_ne (tgt := 13) dX7_book_2 (by decide) (by unfold inR at *; omega) (by unfold inR at *; omega) (fun c_1 => ?_) (fun c_1 => ?_)
  · refine q_iload_n dX7_book_13 rfl rfl ?_
    refine z_iconst dX7_book_14 ?_
    refine q_aload_n dX7_book_15 rfl rfl ?_
    refine sg7 (kf := 0) (v := .ref 385) dX7_book_16 flX7_7 (show kd 384 = 7 from rfl) (by decide) rfl ?_
    refine z_bipush dX7_book_19 (by decide +kernel) ?_
    refine s_iald (n := 1583) (x := A 10) dX7_book_21 (show kd 385 = 100 + 1583 from rfl) (by omega) (by omega) (by decide) rfl ?_
    refine z_iconst dX7_book_22 ?_
    refine z_isub dX7_book_23 ?_
    refine s_callS (As := [.int (iZ i), .int (iZ 0), .int (iZ ((A 10) - 1))]) (S := []) dX7_book_24 okX7_isIn mlX7_66 rfl (by omega) rfl (Nat.le_of_ble_eq_true rfl) (m_isIn (d := d - 1) (v := i) (a := 0) (b := (A 10) - 1) (by unfold inR at *; omega) (by unfold inR at *; omega) (by unfold inR at *; omega) (ms σ A F)) (fun v_ σ_ hq => ?_)
    obtain ⟨rfl, e9⟩ := hq
    have e9 := e9.symm
    subst e9
    show sE g_tt _ _ _ 27 [some (.ref 384), some (.int (iZ i)), some (.int (iZ n))] [.int (iZ (if 0 ≤ i ∧ i ≤ (A 10) - 1 then 1 else 0))] (ms σ A F)
    refine z_if_eq (tgt := 48) dX7_book_27 (by decide) inR_01 (fun c_2 => ?_) (fun c_2 => ?_)
    · have c_2 := if01_0 c_2
      refine z_bipush dX7_book_48 (by decide +kernel) ?_
      exact s_iretZ dX7_book_50 rfl ⟨by congr 3; (first | rw [if_pos (by omega)] | rw [if_neg (by omega)]); (try (first | rw [if_pos (by omega)] | rw [if_neg (by omega)])), rfl⟩
    · have c_2 := if01_1 c_2
      refine q_iload_n dX7_book_30 rfl rfl ?_
      refine z_iconst dX7_book_31 ?_
      refine z_iconst dX7_book_32 ?_
      refine s_callS (As := [.int (iZ n), .int (iZ 0), .int (iZ 2)]) (S := []) dX7_book_33 okX7_isIn mlX7_66 rfl (by omega) rfl (Nat.le_of_ble_eq_true rfl) (m_isIn (d := d - 1) (v := n) (a := 0) (b := 2) (by unfold inR at *; omega) (by unfold inR at *; omega) (by unfold inR at *; omega) (ms σ A F)) (fun v_ σ_ hq => ?_)
      obtain ⟨rfl, e9⟩ := hq
      have e9 := e9.symm
      subst e9
      show sE g_tt _ _ _ 36 [some (.ref 384), some (.int (iZ i)), some (.int (iZ n))] [.int (iZ (if 0 ≤ n ∧ n ≤ 2 then 1 else 0))] (ms σ A F)
      refine z_if_eq (tgt := 48) dX7_book_36 (by decide) inR_01 (fun c_3 => ?_) (fun c_3 => ?_)
      · have c_3 := if01_0 c_3
        refine z_bipush dX7_book_48 (by decide +kernel) ?_
        exact s_iretZ dX7_book_50 rfl ⟨by congr 3; (first | rw [if_pos (by omega)] | rw [if_neg (by omega)]); (try (first | rw [if_pos (by omega)] | rw [if_neg (by omega)])), rfl⟩
      · have c_3 := if01_1 c_3
        refine q_aload_n dX7_book_39 rfl rfl ?_
        refine q_iload_n dX7_book_40 rfl rfl ?_
        refine z_top (y := ((i.toNat : Nat) : Int)) (by omega) ?_
        refine q_iload_n dX7_book_41 rfl rfl ?_
        refine s_callV (ci := 7) (a := 384) (As := [.int (iZ ((i.toNat : Nat) : Int)), .int (iZ n)]) (S := []) dX7_book_42 okX7_entry mlX7_373 rfl (by omega) rfl (Nat.le_of_ble_eq_true rfl) (show kd 384 = 7 from rfl) (by decide) rfl (m_entry (d := d - 1) (i := i.toNat) (w := n) (by omega) hn σ A F hbk) (fun v_ σ_ hq => ?_)
        obtain ⟨rfl, e9⟩ := hq
        have e9 := e9.symm
        subst e9
        show sE g_tt _ _ _ 45 [some (.ref 384), some (.int (iZ i)), some (.int (iZ n))] [.int (iZ (mEnt A i.toNat n))] (ms σ A F)
        refine q_goto (tgt := 50) dX7_book_45 (by decide) ?_
        exact s_iretZ dX7_book_50 rfl ⟨by congr 3; (first | rw [if_pos (by omega)] | rw [if_neg (by omega)]); (try (first | rw [if_pos (by omega)] | rw [if_neg (by omega)])), rfl⟩
  · refine q_aload_n dX7_book_5 rfl rfl ?_
    refine sg7 (kf := 0) (v := .ref 385) dX7_book_6 flX7_7 (show kd 384 = 7 from rfl) (by decide) rfl ?_
    refine z_bipush dX7_book_9 (by decide +kernel) ?_
    refine s_iald (n := 1583) (x := A 10) dX7_book_11 (show kd 385 = 100 + 1583 from rfl) (by omega) (by omega) (by decide) rfl ?_
    exact s_iretZ dX7_book_12 rfl ⟨by congr 3; (first | rw [if_pos (by omega)] | rw [if_neg (by omega)]); (try (first | rw [if_pos (by omega)] | rw [if_neg (by omega)])), rfl⟩
/-- the first house (from k on, f of them) where twice the sum so far is at least all -/
def mMid (A : Nat → Int) (al : Int) : Nat → Nat → Int
  | 0, _ => -1
  | f + 1, k => if al ≤ 2 * mSum A (k + 1) then (k : Int) else mMid A al f (k + 1)
theorem mSum_ran {c nt : Int} {A : Nat → Int} (g : gd c nt A) : ∀ n, n ≤ 8 → 0 ≤ mSum A n ∧ mSum A n ≤ mSum A 8 := by
  have k := g.2.2.1
  have a : ∀ n, n ≤ 8 → 0 ≤ mSum A n := by
    intro n
    induction n with
    | zero => intro _; exact Int.le_refl _
    | succ n ih => intro h; have := ih (by omega); have := k n (by omega); rw [mSum]; omega
  have b : ∀ m n, n + m = 8 → mSum A n ≤ mSum A 8 := by
    intro m
    induction m with
    | zero => intro n h; rw [show n = 8 by omega]; exact Int.le_refl _
    | succ m ih => intro n h; have q := ih (n + 1) (by omega); have := k n (by omega); rw [mSum] at q; omega
  exact fun n h => ⟨a n h, b (8 - n) n (by omega)⟩
set_option maxHeartbeats 4000000 in
set_option maxRecDepth 100000 in
theorem lp_middle {d : Nat} (σ : gS) (A F : Nat → Int) {nt : Int} (g : gd 100000 nt A) (ha : 0 < mSum A 8) : ∀ (n : Nat) (k : Nat), k ≤ 8 → 8 - (k : Int) < (n : Int) → sE g_tt mX7_middle d (fun r σ' => r = some (.int (iZ (mMid A (mSum A 8) (8 - k) k))) ∧ σ' = ms σ A F) 9 [some (.ref 384), some (.int (iZ (mSum A 8))), some (.int (iZ (mSum A k))), some (.int (iZ (k : Int)))] [] (ms σ A F) := by
  intro n
  induction n with
  | zero =>
    intro k hk hn
    exact absurd hn (by omega)
  | succ n ih =>
    intro k hk hn
    refine q_iload_n dX7_middle_9 rfl rfl ?_
    refine z_bipush dX7_middle_10 (by decide +kernel) ?_
    refine z_icmp_ge (tgt := 46) dX7_middle_12 (by decide) (by unfold inR at *; omega) (by unfold inR at *; omega) (fun c_1 => ?_) (fun c_1 => ?_)
    · refine z_iconst dX7_middle_46 ?_
      exact s_iretZ dX7_middle_47 rfl ⟨by rw [show 8 - k = 0 by omega, mMid], rfl⟩
    · refine q_iload_n dX7_middle_15 rfl rfl ?_
      refine z_if_le (tgt := 46) dX7_middle_16 (by decide) (by have := mSum_ran g 8 (by omega); have := g.2.2.2.1; unfold inR; omega) (fun c_2 => ?_) (fun c_2 => ?_)
      · refine z_iconst dX7_middle_46 ?_
        exact s_iretZ dX7_middle_47 rfl ⟨by rw [show 8 - k = 0 by omega, mMid], rfl⟩
      · refine q_iload_n dX7_middle_19 rfl rfl ?_
        refine q_aload_n dX7_middle_20 rfl rfl ?_
        refine sg7 (kf := 0) (v := .ref 385) dX7_middle_21 flX7_7 (show kd 384 = 7 from rfl) (by decide) rfl ?_
        refine z_bipush dX7_middle_24 (by decide +kernel) ?_
        refine q_iload_n dX7_middle_26 rfl rfl ?_
        refine z_iadd dX7_middle_27 ?_
        refine s_iald (n := 1583) (x := A (11 + k)) dX7_middle_28 (show kd 385 = 100 + 1583 from rfl) (by omega) (by omega) (by decide) rfl ?_
        refine z_iadd dX7_middle_29 ?_
        refine q_istore_n dX7_middle_30 rfl (by decide) ?_
        show sE g_tt _ _ _ 31 [some (.ref 384), some (.int (iZ (mSum A 8))), some (.int (iZ ((mSum A k) + (A (11 + k))))), some (.int (iZ (k : Int)))] [] (ms σ A F)
        refine z_iconst dX7_middle_31 ?_
        refine q_iload_n dX7_middle_32 rfl rfl ?_
        refine z_imul dX7_middle_33 ?_
        refine q_iload_n dX7_middle_34 rfl rfl ?_
        refine z_icmp_lt (tgt := 40) dX7_middle_35 (by decide) (by have q : mSum A (k + 1) = mSum A k + A (11 + k) := rfl; have := mSum_ran g (k + 1) (by omega); have := g.2.2.2.1; unfold inR; omega) (by have := mSum_ran g 8 (by omega); have := g.2.2.2.1; unfold inR; omega) (fun c_3 => ?_) (fun c_3 => ?_)
        · refine z_iinc dX7_middle_40 rfl (by decide) ?_
          show sE g_tt _ _ _ 43 [some (.ref 384), some (.int (iZ (mSum A 8))), some (.int (iZ ((mSum A k) + (A (11 + k))))), some (.int (iZ ((k : Int) + 1)))] [] (ms σ A F)
          refine q_goto (tgt := 9) dX7_middle_43 (by decide) ?_
          have e : mMid A (mSum A 8) (8 - k) k = mMid A (mSum A 8) (8 - (k + 1)) (k + 1) := by rw [show 8 - k = (8 - (k + 1)) + 1 by omega, mMid, if_neg (by have q : mSum A (k + 1) = mSum A k + A (11 + k) := rfl; omega)]
          rw [e]
          exact ih (k + 1) (by omega) (by omega)
        · refine q_iload_n dX7_middle_38 rfl rfl ?_
          exact s_iretZ dX7_middle_39 rfl ⟨by rw [show 8 - k = (8 - (k + 1)) + 1 by omega, mMid, if_pos (by have q : mSum A (k + 1) = mSum A k + A (11 + k) := rfl; omega)], rfl⟩
set_option maxHeartbeats 4000000 in
set_option maxRecDepth 100000 in
theorem m_middle {d : Nat} (hd : 1 ≤ d) (σ : gS) (A F : Nat → Int) {nt : Int} (g : gd 100000 nt A) : sC mX7_middle d [.ref 384] (ms σ A F) (fun r σ' => r = some (.int (iZ (if 0 < mSum A 8 then mMid A (mSum A 8) 8 0 else -1))) ∧ σ' = ms σ A F) := by
  refine sC_of rfl (Nat.le_of_ble_eq_true rfl) ?_
  show sE g_tt _ _ _ 0 [some (.ref 384), none, none, none] [] (ms σ A F)
  refine q_aload_n dX7_middle_0 rfl rfl ?_
  refine s_callV (ci := 7) (a := 384) (As := []) (S := []) dX7_middle_1 okX7_allKind mlX7_370 rfl (by omega) rfl (Nat.le_of_ble_eq_true rfl) (show kd 384 = 7 from rfl) (by decide) rfl (m_allKind (d := d - 1) σ A F) (fun v_ σ_ hq => ?_)
  obtain ⟨rfl, e9⟩ := hq
  have e9 := e9.symm
  subst e9
  show sE g_tt _ _ _ 4 [some (.ref 384), none, none, none] [.int (iZ (mSum A 8))] (ms σ A F)
  refine q_istore_n dX7_middle_4 rfl (by decide) ?_
  show sE g_tt _ _ _ 5 [some (.ref 384), some (.int (iZ (mSum A 8))), none, none] [] (ms σ A F)
  refine z_iconst dX7_middle_5 ?_
  refine q_istore_n dX7_middle_6 rfl (by decide) ?_
  show sE g_tt _ _ _ 7 [some (.ref 384), some (.int (iZ (mSum A 8))), some (.int (iZ 0)), none] [] (ms σ A F)
  refine z_iconst dX7_middle_7 ?_
  refine q_istore_n dX7_middle_8 rfl (by decide) ?_
  show sE g_tt _ _ _ 9 [some (.ref 384), some (.int (iZ (mSum A 8))), some (.int (iZ 0)), some (.int (iZ 0))] [] (ms σ A F)
  by_cases ha : 0 < mSum A 8
  · rw [if_pos ha]
    exact lp_middle σ A F g ha 9 0 (by omega) (by omega)
  · rw [if_neg ha]
    refine q_iload_n dX7_middle_9 rfl rfl ?_
    refine z_bipush dX7_middle_10 (by decide +kernel) ?_
    refine z_icmp_ge (tgt := 46) dX7_middle_12 (by decide) (by unfold inR at *; omega) (by unfold inR at *; omega) (fun c_1 => ?_) (fun c_1 => ?_)
    · exfalso
      revert c_1
      decide
    · refine q_iload_n dX7_middle_15 rfl rfl ?_
      refine z_if_le (tgt := 46) dX7_middle_16 (by decide) (by have := mSum_ran g 8 (by omega); have := g.2.2.2.1; unfold inR; omega) (fun c_2 => ?_) (fun c_2 => ?_)
      · refine z_iconst dX7_middle_46 ?_
        exact s_iretZ dX7_middle_47 rfl ⟨rfl, rfl⟩
      · exfalso
        omega
