/-- the sum of clause cl of text tx can be reckoned, and is w -/
def clOK (A nm T : Nat → Int) (tx cl : Nat) (w : Int) : Prop := ∃ i0 je : Nat, T (681 * tx + 1 + 3 * cl + 1) = (i0 : Int) ∧ T (681 * tx + 1 + 3 * cl + 2) = (je : Int) ∧ i0 ≤ je ∧ 681 * tx + 73 + 2 * je ≤ 2724 ∧ mil w ∧ ∀ J R : Nat → Int, mSafe A nm T (681 * tx + 73) (je - i0) i0 (J, R, 0, 0) ∧ (mRun A nm T (681 * tx + 73) (je - i0) i0 (J, R, 0, 0)).1 0 = w
def mCut (v : Int) : Int := if v < 0 then 0 else if 9 < v then 9 else v
/-- what the clauses from k on say (f of them): the first of sort s, or wo -/
def mSayF (T : Nat → Int) (tx : Nat) (s wo : Int) (val : Nat → Int) : Nat → Nat → Int
  | 0, _ => wo
  | f + 1, k => if T (681 * tx + 1 + 3 * k) = s then mCut (val k) else mSayF T tx s wo val f (k + 1)
/-- rows of scratch aside (named 390, values 391, truths 392) the same -/
def eqS (σ σ1 : gS) : Prop := σ1.1 = σ.1 ∧ (∀ a, a ≠ 390 → a ≠ 392 → σ1.2.1 a = σ.2.1 a) ∧ (∀ a, a ≠ 391 → σ1.2.2.1 a = σ.2.2.1 a) ∧ σ1.2.2.2 = σ.2.2.2
theorem eqS_rf (σ : gS) : eqS σ σ := ⟨rfl, fun _ _ _ => rfl, fun _ _ => rfl, rfl⟩
theorem eqS_tr {σ σ1 σ2 : gS} (h : eqS σ σ1) (h2 : eqS σ1 σ2) : eqS σ σ2 := ⟨h2.1.trans h.1, fun a q1 q2 => (h2.2.1 a q1 q2).trans (h.2.1 a q1 q2), fun a q => (h2.2.2.1 a q).trans (h.2.2.1 a q), h2.2.2.2.trans h.2.2.2⟩
theorem eqS_ev (σ : gS) (J R : Nat → Int) : eqS σ (ev σ J R) := ⟨rfl, fun a _ q => va_up_ne _ _ q, fun a q => va_up_ne _ _ q, rfl⟩
def mKo (A : Nat → Int) (h : Int) : Int := if 0 ≤ h ∧ h < 8 then A (11 + h).toNat else 0
/-- the names of house h -/
def mNm (A : Nat → Int) (h : Nat) (v : Nat) : Int := match v with
  | 0 => A 5
  | 1 => A 7
  | 2 => (h : Int)
  | 3 => A (11 + h)
  | 4 => ((mBits (mPeo A h (A 0).toNat + 1) (mPeo A h (A 0).toNat) : Nat) : Int)
  | 5 => mKo A ((h : Int) - 1)
  | 6 => mKo A ((h : Int) + 1)
  | _ => A 9
set_option maxHeartbeats 4000000 in
set_option maxRecDepth 100000 in
theorem m_summedUp {d tx cl : Nat} (hd : 2 ≤ d) (htx : tx < 4) (hcl : cl < 24) {w : Int} (σ : gS) (A F : Nat → Int) (hkA : ∀ h : Int, 0 ≤ h ∧ h < 8 → inR (A (11 + h).toNat)) (hc : clOK A (σ.2.1 390) (σ.2.1 387) tx cl w) : sC mX7_summedUp d [.ref 384, .int (iZ (tx : Int)), .int (iZ (cl : Int))] (ms σ A F) (fun r σ' => r = some (.long (lZ w)) ∧ ∃ J' R', σ' = ms (ev σ J' R') A F) := by
  obtain ⟨i0, je, hi0, hje, hij, hcj, -, hall⟩ := hc
  refine sC_of rfl (Nat.le_of_ble_eq_true rfl) ?_
  show sE g_tt _ _ _ 0 [some (.ref 384), some (.int (iZ (tx : Int))), some (.int (iZ (cl : Int))), none, none, none, none, none, none, none] [] (ms σ A F)
  refine z_sipush dX7_summedUp_0 (by decide +kernel) ?_
  refine q_iload_n dX7_summedUp_3 rfl rfl ?_
  refine z_imul dX7_summedUp_4 ?_
  refine z_iconst dX7_summedUp_5 ?_
  refine z_iadd dX7_summedUp_6 ?_
  refine z_iconst dX7_summedUp_7 ?_
  refine q_iload_n dX7_summedUp_8 rfl rfl ?_
  refine z_imul dX7_summedUp_9 ?_
  refine z_iadd dX7_summedUp_10 ?_
  refine q_istore_n dX7_summedUp_11 rfl (by decide) ?_
  show sE g_tt _ _ _ 12 [some (.ref 384), some (.int (iZ (tx : Int))), some (.int (iZ (cl : Int))), some (.int (iZ (((681 * (tx : Int)) + 1) + (3 * (cl : Int))))), none, none, none, none, none, none] [] (ms σ A F)
  refine z_sipush dX7_summedUp_12 (by decide +kernel) ?_
  refine q_iload_n dX7_summedUp_15 rfl rfl ?_
  refine z_imul dX7_summedUp_16 ?_
  refine z_bipush dX7_summedUp_17 (by decide +kernel) ?_
  refine z_iadd dX7_summedUp_19 ?_
  refine q_istore dX7_summedUp_20 (by decide) ?_
  show sE g_tt _ _ _ 22 [some (.ref 384), some (.int (iZ (tx : Int))), some (.int (iZ (cl : Int))), some (.int (iZ (((681 * (tx : Int)) + 1) + (3 * (cl : Int))))), some (.int (iZ ((681 * (tx : Int)) + 73))), none, none, none, none, none] [] (ms σ A F)
  refine z_iconst dX7_summedUp_22 ?_
  refine q_istore dX7_summedUp_23 (by decide) ?_
  show sE g_tt _ _ _ 25 [some (.ref 384), some (.int (iZ (tx : Int))), some (.int (iZ (cl : Int))), some (.int (iZ (((681 * (tx : Int)) + 1) + (3 * (cl : Int))))), some (.int (iZ ((681 * (tx : Int)) + 73))), some (.int (iZ 0)), none, none, none, none] [] (ms σ A F)
  refine z_iconst dX7_summedUp_25 ?_
  refine q_istore dX7_summedUp_26 (by decide) ?_
  show sE g_tt _ _ _ 28 [some (.ref 384), some (.int (iZ (tx : Int))), some (.int (iZ (cl : Int))), some (.int (iZ (((681 * (tx : Int)) + 1) + (3 * (cl : Int))))), some (.int (iZ ((681 * (tx : Int)) + 73))), some (.int (iZ 0)), some (.int (iZ 0)), none, none, none] [] (ms σ A F)
  refine q_aload_n dX7_summedUp_28 rfl rfl ?_
  refine sg7 (kf := 2) (v := .ref 387) dX7_summedUp_29 flX7_16 (show kd 384 = 7 from rfl) (by decide) rfl ?_
  refine q_iload_n dX7_summedUp_32 rfl rfl ?_
  refine z_iconst dX7_summedUp_33 ?_
  refine z_iadd dX7_summedUp_34 ?_
  refine s_iald (n := 2724) (x := (i0 : Int)) dX7_summedUp_35 (show kd 387 = 100 + 2724 from rfl) (by omega) (by omega) (by decide) (by show σ.2.1 387 _ = _; rw [← hi0] <;> (congr 1 <;> omega)) ?_
  refine q_istore dX7_summedUp_36 (by decide) ?_
  show sE g_tt _ _ _ 38 [some (.ref 384), some (.int (iZ (tx : Int))), some (.int (iZ (cl : Int))), some (.int (iZ (((681 * (tx : Int)) + 1) + (3 * (cl : Int))))), some (.int (iZ ((681 * (tx : Int)) + 73))), some (.int (iZ 0)), some (.int (iZ 0)), some (.int (iZ (i0 : Int))), none, none] [] (ms σ A F)
  have k9 := lp_summedUp (d := d) (c := 681 * tx + 73) (x := 681 * tx + 1 + 3 * cl) (je := je) hd σ A F (some (.int (iZ (tx : Int)))) (some (.int (iZ (cl : Int)))) (by omega) hje hcj hkA (je + 1) i0 (σ.2.2.1 391) (σ.2.1 392) 0 0 none none hij (hall _ _).1 (by omega)
  rw [(hall _ _).2, ev_id, show ((681 * tx + 1 + 3 * cl : Nat) : Int) = 681 * (tx : Int) + 1 + 3 * (cl : Int) by omega, show ((681 * tx + 73 : Nat) : Int) = 681 * (tx : Int) + 73 by omega] at k9
  exact k9
set_option maxHeartbeats 4000000 in
set_option maxRecDepth 100000 in
theorem lp_says {d tx N : Nat} (hd : 3 ≤ d) {s wo : Int} (val : Nat → Int) (σ : gS) (A F : Nat → Int) (htx : tx < 4) (hN : σ.2.1 387 (681 * tx) = (N : Int)) (hN24 : N ≤ 24) (hso : ∀ k, k < 24 → inR (σ.2.1 387 (681 * tx + 1 + 3 * k))) (hs : inR s) (hkA : ∀ h : Int, 0 ≤ h ∧ h < 8 → inR (A (11 + h).toNat)) (hcl : ∀ k, k < N → σ.2.1 387 (681 * tx + 1 + 3 * k) = s → clOK A (σ.2.1 390) (σ.2.1 387) tx k (val k)) : ∀ (f k : Nat), k ≤ N → (N : Int) - k < (f : Int) → sE g_tt mX7_says d (fun r σ' => r = some (.int (iZ (mSayF (σ.2.1 387) tx s wo val (N - k) k))) ∧ ∃ J' R', σ' = ms (ev σ J' R') A F) 3 [some (.ref 384), some (.int (iZ (tx : Int))), some (.int (iZ s)), some (.int (iZ wo)), some (.int (iZ (k : Int)))] [] (ms σ A F) := by
  intro f
  induction f with
  | zero =>
    intro k hk hn
    exact absurd hn (by omega)
  | succ f ih =>
    intro k hk hn
    obtain ⟨q, hq0⟩ : ∃ q, σ.2.1 387 (681 * tx + 1 + 3 * k) = q := ⟨_, rfl⟩
    have hqr : k < 24 → inR q := fun h => by rw [← hq0]; exact hso k h
    refine q_iload_n dX7_says_3 rfl rfl ?_
    refine z_if_lt (tgt := 63) dX7_says_4 (by decide) (by unfold inR at *; omega) (fun c_1 => ?_) (fun c_1 => ?_)
    · refine q_iload_n dX7_says_63 rfl rfl ?_
      exact s_iretZ dX7_says_64 rfl ⟨by rw [show N - k = 0 by omega]; rfl, σ.2.2.1 391, σ.2.1 392, by rw [ev_id]⟩
    · refine q_iload dX7_says_7 rfl ?_
      refine q_aload_n dX7_says_9 rfl rfl ?_
      refine sg7 (kf := 2) (v := .ref 387) dX7_says_10 flX7_16 (show kd 384 = 7 from rfl) (by decide) rfl ?_
      refine z_sipush dX7_says_13 (by decide +kernel) ?_
      refine q_iload_n dX7_says_16 rfl rfl ?_
      refine z_imul dX7_says_17 ?_
      refine s_iald (n := 2724) (x := (N : Int)) dX7_says_18 (show kd 387 = 100 + 2724 from rfl) (by omega) (by omega) (by decide) (by show σ.2.1 387 _ = _; rw [← hN] <;> (congr 1 <;> omega)) ?_
      refine z_icmp_ge (tgt := 63) dX7_says_19 (by decide) (by unfold inR at *; omega) (by unfold inR at *; omega) (fun c_2 => ?_) (fun c_2 => ?_)
      · refine q_iload_n dX7_says_63 rfl rfl ?_
        exact s_iretZ dX7_says_64 rfl ⟨by rw [show N - k = 0 by omega]; rfl, σ.2.2.1 391, σ.2.1 392, by rw [ev_id]⟩
      · refine q_aload_n dX7_says_22 rfl rfl ?_
        refine sg7 (kf := 2) (v := .ref 387) dX7_says_23 flX7_16 (show kd 384 = 7 from rfl) (by decide) rfl ?_
        refine z_sipush dX7_says_26 (by decide +kernel) ?_
        refine q_iload_n dX7_says_29 rfl rfl ?_
        refine z_imul dX7_says_30 ?_
        refine z_iconst dX7_says_31 ?_
        refine z_iadd dX7_says_32 ?_
        refine z_iconst dX7_says_33 ?_
        refine q_iload dX7_says_34 rfl ?_
        refine z_imul dX7_says_36 ?_
        refine z_iadd dX7_says_37 ?_
        refine s_iald (n := 2724) (x := q) dX7_says_38 (show kd 387 = 100 + 2724 from rfl) (by omega) (by omega) (by decide) (by show σ.2.1 387 _ = _; rw [← hq0] <;> (congr 1 <;> omega)) ?_
        refine q_iload_n dX7_says_39 rfl rfl ?_
        refine z_icmp_ne (tgt := 57) dX7_says_40 (by decide) (by unfold inR at *; omega) (by unfold inR at *; omega) (fun c_3 => ?_) (fun c_3 => ?_)
        · refine z_iinc dX7_says_57 rfl (by decide) ?_
          show sE g_tt _ _ _ 60 [some (.ref 384), some (.int (iZ (tx : Int))), some (.int (iZ s)), some (.int (iZ wo)), some (.int (iZ ((k : Int) + 1)))] [] (ms σ A F)
          refine q_goto (tgt := 3) dX7_says_60 (by decide) ?_
          rw [show N - k = (N - (k + 1)) + 1 by omega, mSayF, if_neg (show ¬ σ.2.1 387 (681 * tx + 1 + 3 * k) = s by rw [hq0]; omega)]
          exact ih (k + 1) (by omega) (by omega)
        · refine q_aload_n dX7_says_43 rfl rfl ?_
          refine q_iload_n dX7_says_44 rfl rfl ?_
          refine q_iload dX7_says_45 rfl ?_
          refine s_callV (ci := 7) (a := 384) (As := [.int (iZ (tx : Int)), .int (iZ (k : Int))]) (S := []) dX7_says_47 okX7_summedUp mlX7_267 rfl (by omega) rfl (Nat.le_of_ble_eq_true rfl) (show kd 384 = 7 from rfl) (by decide) rfl (m_summedUp (d := d - 1) (by omega) htx (show k < 24 by omega) σ A F hkA (hcl k (by omega) (by omega))) (fun v_ σ_ hq => ?_)
          obtain ⟨rfl, J1, R1, e9⟩ := hq
          subst e9
          show sE g_tt _ _ _ 50 [some (.ref 384), some (.int (iZ (tx : Int))), some (.int (iZ s)), some (.int (iZ wo)), some (.int (iZ (k : Int)))] [.long (lZ (val k))] (ms (ev σ J1 R1) A F)
          refine z_iconst dX7_says_50 ?_
          refine z_bipush dX7_says_51 (by decide +kernel) ?_
          refine s_callS (As := [.long (lZ (val k)), .int (iZ 0), .int (iZ 9)]) (S := []) dX7_says_53 okX7_cut mlX7_270 rfl (by omega) rfl (Nat.le_of_ble_eq_true rfl) (m_cut (d := d - 1) (v := val k) (a := 0) (b := 9) (by have := (hcl k (by omega) (by omega)).choose_spec.choose_spec.2.2.2.2.1; unfold mil at this; unfold inL; omega) ⟨by decide, by decide⟩ ⟨by decide, by decide⟩ (ms (ev σ J1 R1) A F)) (fun v_ σ_ hq => ?_)
          obtain ⟨rfl, e9⟩ := hq
          have e9 := e9.symm
          subst e9
          show sE g_tt _ _ _ 56 [some (.ref 384), some (.int (iZ (tx : Int))), some (.int (iZ s)), some (.int (iZ wo)), some (.int (iZ (k : Int)))] [.int (iZ (if val k < 0 then 0 else if 9 < val k then 9 else val k))] (ms (ev σ J1 R1) A F)
          exact s_iretZ dX7_says_56 rfl ⟨by rw [show N - k = (N - (k + 1)) + 1 by omega, mSayF, if_pos (show σ.2.1 387 (681 * tx + 1 + 3 * k) = s by rw [hq0]; omega)]; rfl, J1, R1, rfl⟩
set_option maxHeartbeats 4000000 in
set_option maxRecDepth 100000 in
theorem m_says {d tx N : Nat} (hd : 3 ≤ d) {s wo : Int} (val : Nat → Int) (σ : gS) (A F : Nat → Int) (htx : tx < 4) (hN : σ.2.1 387 (681 * tx) = (N : Int)) (hN24 : N ≤ 24) (hso : ∀ k, k < 24 → inR (σ.2.1 387 (681 * tx + 1 + 3 * k))) (hs : inR s) (hkA : ∀ h : Int, 0 ≤ h ∧ h < 8 → inR (A (11 + h).toNat)) (hcl : ∀ k, k < N → σ.2.1 387 (681 * tx + 1 + 3 * k) = s → clOK A (σ.2.1 390) (σ.2.1 387) tx k (val k)) : sC mX7_says d [.ref 384, .int (iZ (tx : Int)), .int (iZ s), .int (iZ wo)] (ms σ A F) (fun r σ' => r = some (.int (iZ (mSayF (σ.2.1 387) tx s wo val N 0))) ∧ ∃ J' R', σ' = ms (ev σ J' R') A F) := by
  refine sC_of rfl (Nat.le_of_ble_eq_true rfl) ?_
  show sE g_tt _ _ _ 0 [some (.ref 384), some (.int (iZ (tx : Int))), some (.int (iZ s)), some (.int (iZ wo)), none] [] (ms σ A F)
  refine z_iconst dX7_says_0 ?_
  refine q_istore dX7_says_1 (by decide) ?_
  show sE g_tt _ _ _ 3 [some (.ref 384), some (.int (iZ (tx : Int))), some (.int (iZ s)), some (.int (iZ wo)), some (.int (iZ 0))] [] (ms σ A F)
  exact lp_says hd val σ A F htx hN hN24 hso hs hkA hcl (N + 1) 0 (by omega) (by omega)
set_option maxHeartbeats 4000000 in
set_option maxRecDepth 100000 in
theorem m_says0 {d : Nat} {s wo : Int} (σ : gS) (A F : Nat → Int) : sC mX7_says d [.ref 384, .int (iZ (-1)), .int (iZ s), .int (iZ wo)] (ms σ A F) (fun r σ' => r = some (.int (iZ (wo))) ∧ σ' = ms σ A F) := by
  refine sC_of rfl (Nat.le_of_ble_eq_true rfl) ?_
  show sE g_tt _ _ _ 0 [some (.ref 384), some (.int (iZ (-1))), some (.int (iZ s)), some (.int (iZ wo)), none] [] (ms σ A F)
  refine z_iconst dX7_says_0 ?_
  refine q_istore dX7_says_1 (by decide) ?_
  show sE g_tt _ _ _ 3 [some (.ref 384), some (.int (iZ (-1))), some (.int (iZ s)), some (.int (iZ wo)), some (.int (iZ 0))] [] (ms σ A F)
  refine q_iload_n dX7_says_3 rfl rfl ?_
  refine z_if_lt (tgt := 63) dX7_says_4 (by decide) (by unfold inR at *; omega) (fun c_1 => ?_) (fun c_1 => ?_)
  · refine q_iload_n dX7_says_63 rfl rfl ?_
    exact s_iretZ dX7_says_64 rfl ⟨rfl, rfl⟩
  · exact absurd c_1 (by decide)
