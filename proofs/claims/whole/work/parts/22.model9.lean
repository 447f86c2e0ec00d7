theorem mRdy_spec (A W : Nat → Int) : ∀ f h, mRdy A W f h = -1 ∨ ∃ j, h ≤ j ∧ j < h + f ∧ mRdy A W f h = (j : Int) ∧ W j + 2 ≤ A (11 + j) := by
  intro f
  induction f with
  | zero => intro h; exact Or.inl rfl
  | succ f ih =>
    intro h
    simp only [mRdy]
    split
    · rename_i c
      exact Or.inr ⟨h, Nat.le_refl _, by omega, rfl, c⟩
    · rcases ih (h + 1) with e | ⟨j, q1, q2, q3, q4⟩
      · exact Or.inl e
      · exact Or.inr ⟨j, by omega, by omega, q3, q4⟩
/-- what the model's row and fields must be to be walked over -/
def okA (A F : Nat → Int) : Prop := 0 ≤ A 0 ∧ A 0 ≤ 5 ∧ (∀ p, p < 5 → inR (A (19 + p))) ∧ (∀ h : Int, 0 ≤ h ∧ h < 8 → inR (A (11 + h).toNat)) ∧ 0 ≤ A 10 ∧ A 10 ≤ 30 ∧ inR (F 23) ∧ 0 ≤ F 26
/-- an invariant I under which houses can be asked (holds: W) and thanked -/
def invI (T : Nat → Int) (W : (Nat → Int) → Nat → Int) (I : (Nat → Int) → (Nat → Int) → Prop) : Prop :=
  (∀ A F, I A F → okA A F ∧ ∀ h, h < 8 → sayOK A T (A 2) 0 0 h (W A h) ∧ 0 ≤ W A h ∧ W A h ≤ 9) ∧ ∀ A F h, I A F → h < 8 → W A h + 2 ≤ A (11 + h) → I (mThank A F h).1 (mThank A F h).2
/-- settled: how often (n so far), the row and the fields behind it -/
def mSet (W : (Nat → Int) → Nat → Int) : Nat → (Nat → Int) → (Nat → Int) → Nat → Option (Nat × (Nat → Int) × (Nat → Int))
  | 0, _, _, _ => none
  | f + 1, A, F, n => if mRdy A (W A) 8 0 = -1 then some (n, A, F) else mSet W f (mThank A F (mRdy A (W A) 8 0).toNat).1 (mThank A F (mRdy A (W A) 8 0).toNat).2 (n + 1)
set_option maxHeartbeats 4000000 in
set_option maxRecDepth 100000 in
theorem lp_settleNow {d : Nat} (hd : 7 ≤ d) (σ : gS) (W : (Nat → Int) → Nat → Int) (I : (Nat → Int) → (Nat → Int) → Prop) (hI : invI (σ.2.1 387) W I) {m : Nat} {A' F' : Nat → Int} : ∀ (f : Nat) (A F : Nat → Int) (n : Nat) (σ1 : gS), I A F → mSet W f A F n = some (m, A', F') → eqS σ σ1 → sE g_tt mX7_settleNow d (fun r σ' => r = some (.int (iZ (m : Int))) ∧ ∃ σ2, σ' = ms σ2 A' F' ∧ eqS σ σ2) 17 [some (.ref 384), some (.int (iZ (n : Int))), some (.int (iZ (mRdy A (W A) 8 0)))] [] (ms σ1 A F) := by
  intro f
  induction f with
  | zero =>
    intro A F n σ1 hA hs hE1
    simp [mSet] at hs
  | succ f ih =>
    intro A F n σ1 hA hs hE1
    obtain ⟨ok, hw⟩ := hI.1 A F hA
    have e387 := hE1.2.1 387 (by decide) (by decide)
    simp only [mSet] at hs
    rcases mRdy_spec A (W A) 8 0 with e | ⟨j, -, hj8, e, hjw⟩
    · rw [e, if_pos rfl] at hs
      obtain ⟨rfl, rfl, rfl⟩ : n = m ∧ A = A' ∧ F = F' := by
        have q := Option.some.inj hs
        exact ⟨congrArg (·.1) q, congrArg (·.2.1) q, congrArg (·.2.2) q⟩
      rw [e]
      refine q_iload_n dX7_settleNow_17 rfl rfl ?_
      refine z_iconst dX7_settleNow_18 ?_
      refine z_icmp_eq (tgt := 38) dX7_settleNow_19 (by decide) (by unfold inR at *; omega) (by unfold inR at *; omega) (fun c_1 => ?_) (fun c_1 => ?_)
      · refine q_iload_n dX7_settleNow_38 rfl rfl ?_
        exact s_iretZ dX7_settleNow_39 rfl ⟨rfl, σ1, rfl, hE1⟩
      · exact absurd rfl c_1
    · rw [e, if_neg (by omega), show ((j : Int)).toNat = j from rfl] at hs
      have hI2 := hI.2 A F j hA (by omega) hjw
      obtain ⟨ok2, hw2⟩ := hI.1 _ _ hI2
      rw [e]
      refine q_iload_n dX7_settleNow_17 rfl rfl ?_
      refine z_iconst dX7_settleNow_18 ?_
      refine z_icmp_eq (tgt := 38) dX7_settleNow_19 (by decide) (by unfold inR at *; omega) (by unfold inR at *; omega) (fun c_1 => ?_) (fun c_1 => ?_)
      · exfalso
        omega
      · refine q_aload_n dX7_settleNow_22 rfl rfl ?_
        refine q_iload_n dX7_settleNow_23 rfl rfl ?_
        refine s_callV (ci := 7) (a := 384) (As := [.int (iZ (j : Int))]) (S := []) dX7_settleNow_24 okX7_thankNow mlX7_322 rfl (by omega) rfl (Nat.le_of_ble_eq_true rfl) (show kd 384 = 7 from rfl) (by decide) rfl (m_thankNow (d := d - 1) (h := j) (by omega) (show j < 8 by omega) σ1 A F ok.1 ok.2.1 ok.2.2.1 ok.2.2.2.2.1 ok.2.2.2.2.2.1 ok.2.2.2.2.2.2.1 ok.2.2.2.2.2.2.2) (fun v_ σ_ hq => ?_)
        obtain ⟨rfl, e9⟩ := hq
        have e9 := e9.symm
        subst e9
        show sE g_tt _ _ _ 27 [some (.ref 384), some (.int (iZ (n : Int))), some (.int (iZ (j : Int)))] [] (ms σ1 ((mThank A F j).1) ((mThank A F j).2))
        refine z_iinc dX7_settleNow_27 rfl (by decide) ?_
        show sE g_tt _ _ _ 30 [some (.ref 384), some (.int (iZ ((n : Int) + 1))), some (.int (iZ (j : Int)))] [] (ms σ1 ((mThank A F j).1) ((mThank A F j).2))
        refine q_aload_n dX7_settleNow_30 rfl rfl ?_
        refine s_callV (ci := 7) (a := 384) (As := []) (S := []) dX7_settleNow_31 okX7_readyHouse mlX7_319 rfl (by omega) rfl (Nat.le_of_ble_eq_true rfl) (show kd 384 = 7 from rfl) (by decide) rfl (m_readyHouse (d := d - 1) (by omega) σ1 (mThank A F j).1 (mThank A F j).2 ok2.1 ok2.2.1 ok2.2.2.1 ok2.2.2.2.1 (W (mThank A F j).1) (fun h hh => by rw [e387]; exact hw2 h hh)) (fun v_ σ_ hq => ?_)
        obtain ⟨rfl, σ4, e9, hE4⟩ := hq
        subst e9
        show sE g_tt _ _ _ 34 [some (.ref 384), some (.int (iZ ((n : Int) + 1))), some (.int (iZ (j : Int)))] [.int (iZ (mRdy (mThank A F j).1 (W (mThank A F j).1) 8 0))] (ms σ4 ((mThank A F j).1) ((mThank A F j).2))
        refine q_istore_n dX7_settleNow_34 rfl (by decide) ?_
        show sE g_tt _ _ _ 35 [some (.ref 384), some (.int (iZ ((n : Int) + 1))), some (.int (iZ (mRdy (mThank A F j).1 (W (mThank A F j).1) 8 0)))] [] (ms σ4 ((mThank A F j).1) ((mThank A F j).2))
        refine q_goto (tgt := 17) dX7_settleNow_35 (by decide) ?_
        exact ih _ _ (n + 1) σ4 hI2 hs (eqS_tr hE1 hE4)
set_option maxHeartbeats 4000000 in
set_option maxRecDepth 100000 in
theorem m_settleNow {d : Nat} (hd : 7 ≤ d) (σ : gS) (A F : Nat → Int) (W : (Nat → Int) → Nat → Int) (I : (Nat → Int) → (Nat → Int) → Prop) (hI : invI (σ.2.1 387) W I) {f m : Nat} {A' F' : Nat → Int} (hA : I A (va_up (va_up F 26 0) 25 0)) (hs : mSet W f A (va_up (va_up F 26 0) 25 0) 0 = some (m, A', F')) : sC mX7_settleNow d [.ref 384] (ms σ A F) (fun r σ' => r = some (.int (iZ (m : Int))) ∧ ∃ σ2, σ' = ms σ2 A' F' ∧ eqS σ σ2) := by
  obtain ⟨ok, hw⟩ := hI.1 _ _ hA
  refine sC_of rfl (Nat.le_of_ble_eq_true rfl) ?_
  show sE g_tt _ _ _ 0 [some (.ref 384), none, none] [] (ms σ A F)
  refine z_iconst dX7_settleNow_0 ?_
  refine q_istore_n dX7_settleNow_1 rfl (by decide) ?_
  show sE g_tt _ _ _ 2 [some (.ref 384), some (.int (iZ 0)), none] [] (ms σ A F)
  refine q_aload_n dX7_settleNow_2 rfl rfl ?_
  refine z_iconst dX7_settleNow_3 ?_
  refine mp (kf := 26) dX7_settleNow_4 flX7_304 (by decide) ?_
  refine q_aload_n dX7_settleNow_7 rfl rfl ?_
  refine z_iconst dX7_settleNow_8 ?_
  refine mp (kf := 25) dX7_settleNow_9 flX7_307 (by decide) ?_
  refine q_aload_n dX7_settleNow_12 rfl rfl ?_
  refine s_callV (ci := 7) (a := 384) (As := []) (S := []) dX7_settleNow_13 okX7_readyHouse mlX7_319 rfl (by omega) rfl (Nat.le_of_ble_eq_true rfl) (show kd 384 = 7 from rfl) (by decide) rfl (m_readyHouse (d := d - 1) (by omega) σ A (va_up (va_up F 26 0) 25 0) ok.1 ok.2.1 ok.2.2.1 ok.2.2.2.1 (W A) hw) (fun v_ σ_ hq => ?_)
  obtain ⟨rfl, σ4, e9, hE4⟩ := hq
  subst e9
  show sE g_tt _ _ _ 16 [some (.ref 384), some (.int (iZ 0)), none] [.int (iZ (mRdy A (W A) 8 0))] (ms σ4 A (va_up (va_up F 26 0) 25 0))
  refine q_istore_n dX7_settleNow_16 rfl (by decide) ?_
  show sE g_tt _ _ _ 17 [some (.ref 384), some (.int (iZ 0)), some (.int (iZ (mRdy A (W A) 8 0)))] [] (ms σ4 A (va_up (va_up F 26 0) 25 0))
  exact lp_settleNow hd σ W I hI f A _ 0 σ4 hA hs hE4
