set_option maxHeartbeats 4000000 in
set_option maxRecDepth 100000 in
theorem lp_years {d N : Nat} (hd : 10 ≤ d) (hN : N ≤ 40) (l1 : Option Value) (σ : gS) {W V : wF} {nt : Int} (hW : wOK (σ.2.1 387) 100000 nt W) (hV : vOK (σ.2.1 387) 100000 nt V) : ∀ (n : Nat) (A F : Nat → Int) (k : Nat) (σ1 : gS) (c : Int) (l4 : Option Value), gd c nt A → 80 ≤ c → c + 3 * ((N : Int) - (k : Int)) ≤ 90000 → inR (F 23) → 0 ≤ F 26 → eqS σ σ1 → k ≤ N → (N : Int) - (k : Int) < (n : Int) → sE g_tt mX7_years d (fun r σ' => r = some (.int (iZ ((mYr W V (N - k) A F).1 5))) ∧ ∃ σ2, σ' = ms σ2 (mYr W V (N - k) A F).1 (mYr W V (N - k) A F).2 ∧ eqS σ σ2) 43 [some (.ref 384), l1, some (.int (iZ (N : Int))), some (.int (iZ (k : Int))), l4] [] (ms σ1 A F) := by
  intro n
  induction n with
  | zero =>
    intro A F k σ1 c l4 g hc hc9 h23 h26 hE1 hk hn
    exact absurd hn (by omega)
  | succ n ih =>
    intro A F k σ1 c l4 g hc hc9 h23 h26 hE1 hk hn
    have g6 := g.2.2.2.2.2.2.1
    have gB : gd c nt (va_up A 6 (mNew (A 6))) := gd_up g (Or.inl ⟨rfl, mNew_ran g6.1⟩)
    have hok := mHap_ok hW hV (x := A 6) g6.1 (mHj_lt g6.1) gB hc (by omega) h26
    refine q_iload_n dX7_years_43 rfl rfl ?_
    refine q_iload_n dX7_years_44 rfl rfl ?_
    refine z_icmp_ge (tgt := 73) dX7_years_45 (by decide) (by unfold inR at *; omega) (by unfold inR at *; omega) (fun c_1 => ?_) (fun c_1 => ?_)
    · refine q_aload_n dX7_years_73 rfl rfl ?_
      refine sg7 (kf := 0) (v := .ref 385) dX7_years_74 flX7_7 (show kd 384 = 7 from rfl) (by decide) rfl ?_
      refine z_iconst dX7_years_77 ?_
      refine s_iald (n := 1583) (x := A 5) dX7_years_78 (show kd 385 = 100 + 1583 from rfl) (by omega) (by omega) (by decide) rfl ?_
      exact s_iretZ dX7_years_79 rfl ⟨by rw [show N - k = 0 by omega, mYr], σ1, by rw [show N - k = 0 by omega, mYr], hE1⟩
    · refine q_aload_n dX7_years_48 rfl rfl ?_
      refine sg7 (kf := 0) (v := .ref 385) dX7_years_49 flX7_7 (show kd 384 = 7 from rfl) (by decide) rfl ?_
      refine z_bipush dX7_years_52 (by decide +kernel) ?_
      refine s_iald (n := 1583) (x := A 6) dX7_years_54 (show kd 385 = 100 + 1583 from rfl) (by omega) (by omega) (by decide) rfl ?_
      refine q_istore dX7_years_55 (by decide) ?_
      show sE g_tt _ _ _ 57 [some (.ref 384), l1, some (.int (iZ (N : Int))), some (.int (iZ (k : Int))), some (.int (iZ (A 6)))] [] (ms σ1 A F)
      refine q_aload_n dX7_years_57 rfl rfl ?_
      refine s_callV (ci := 7) (a := 384) (As := []) (S := []) dX7_years_58 okX7_anew mlX7_289 rfl (by omega) rfl (Nat.le_of_ble_eq_true rfl) (show kd 384 = 7 from rfl) (by decide) rfl (m_anew (d := d - 1) σ1 A F g6.1 g6.2) (fun v_ σ_ hq => ?_)
      obtain ⟨rfl, e9⟩ := hq
      have e9 := e9.symm
      subst e9
      show sE g_tt _ _ _ 61 [some (.ref 384), l1, some (.int (iZ (N : Int))), some (.int (iZ (k : Int))), some (.int (iZ (A 6)))] [] (ms σ1 (va_up A 6 (mNew (A 6))) F)
      refine q_aload_n dX7_years_61 rfl rfl ?_
      refine q_iload dX7_years_62 rfl ?_
      refine s_callV (ci := 7) (a := 384) (As := [.int (iZ (A 6))]) (S := []) dX7_years_64 okX7_happens mlX7_364 rfl (by omega) rfl (Nat.le_of_ble_eq_true rfl) (show kd 384 = 7 from rfl) (by decide) rfl (m_happens (d := d - 1) (j := mHj (A 6)) (by omega) g6.1 g6.2 (mHj_lt g6.1) (by have := tmod_ran (Int.tdiv_nonneg g6.1 (show (0 : Int) ≤ 6 by decide)) (show (0 : Int) < 8 by decide); unfold mHj; omega) σ1 (va_up A 6 (mNew (A 6))) F (by rw [hE1.2.1 387 (by decide) (by decide)]; exact hW) (by rw [hE1.2.1 387 (by decide) (by decide)]; exact hV) (gd_mono gB (by omega)) h23 h26) (fun v_ σ_ hq => ?_)
      obtain ⟨rfl, σ2, e9, hE2⟩ := hq
      subst e9
      show sE g_tt _ _ _ 67 [some (.ref 384), l1, some (.int (iZ (N : Int))), some (.int (iZ (k : Int))), some (.int (iZ (A 6)))] [] (ms σ2 ((mHap W V (A 6) (mHj (A 6)) (va_up A 6 (mNew (A 6))) F).1) ((mHap W V (A 6) (mHj (A 6)) (va_up A 6 (mNew (A 6))) F).2))
      refine z_iinc dX7_years_67 rfl (by decide) ?_
      show sE g_tt _ _ _ 70 [some (.ref 384), l1, some (.int (iZ (N : Int))), some (.int (iZ ((k : Int) + 1))), some (.int (iZ (A 6)))] [] (ms σ2 ((mHap W V (A 6) (mHj (A 6)) (va_up A 6 (mNew (A 6))) F).1) ((mHap W V (A 6) (mHj (A 6)) (va_up A 6 (mNew (A 6))) F).2))
      refine q_goto (tgt := 43) dX7_years_70 (by decide) ?_
      have e : mYr W V (N - k) A F = mYr W V (N - (k + 1)) (mHap W V (A 6) (mHj (A 6)) (va_up A 6 (mNew (A 6))) F).1 (mHap W V (A 6) (mHj (A 6)) (va_up A 6 (mNew (A 6))) F).2 := by rw [show N - k = (N - (k + 1)) + 1 by omega, mYr]
      rw [e]
      exact ih (mHap W V (A 6) (mHj (A 6)) (va_up A 6 (mNew (A 6))) F).1 (mHap W V (A 6) (mHj (A 6)) (va_up A 6 (mNew (A 6))) F).2 (k + 1) σ2 (c + 3) _ hok.1 (by omega) (by omega) (by rw [hok.2.1.1 23 (by decide) (by decide) (by decide) (by decide) (by decide) (by decide) (by decide)]; exact h23) hok.2.1.2 (eqS_tr hE1 hE2) (by omega) (by omega)
set_option maxHeartbeats 4000000 in
set_option maxRecDepth 100000 in
theorem m_years {d : Nat} (hd : 10 ≤ d) {s n : Int} (hs : inR s) (hn : inR n) (σ : gS) (A F : Nat → Int) {W V : wF} {nt : Int} (hW : wOK (σ.2.1 387) 100000 nt W) (hV : vOK (σ.2.1 387) 100000 nt V) (g : gd 88000 nt A) (h3 : 0 ≤ A 3) (h30 : A 3 ≤ 30) (h23 : inR (F 23)) (h26 : 0 ≤ F 26) : sC mX7_years d [.ref 384, .int (iZ s), .int (iZ n)] (ms σ A F) (fun r σ' => r = some (.int (iZ (if (0 ≤ s ∧ s ≤ 9999) ∧ 1 ≤ n ∧ n ≤ 40 then (mYr W V n.toNat (va_up (mKeep A) 6 (s * 2 + 347)) F).1 5 else -1))) ∧ ∃ σ2, σ' = ms σ2 (if (0 ≤ s ∧ s ≤ 9999) ∧ 1 ≤ n ∧ n ≤ 40 then (mYr W V n.toNat (va_up (mKeep A) 6 (s * 2 + 347)) F).1 else A) (if (0 ≤ s ∧ s ≤ 9999) ∧ 1 ≤ n ∧ n ≤ 40 then (mYr W V n.toNat (va_up (mKeep A) 6 (s * 2 + 347)) F).2 else F) ∧ eqS σ σ2) := by
  refine sC_of rfl (Nat.le_of_ble_eq_true rfl) ?_
  show sE g_tt _ _ _ 0 [some (.ref 384), some (.int (iZ s)), some (.int (iZ n)), none, none] [] (ms σ A F)
  refine q_iload_n dX7_years_0 rfl rfl ?_
  refine z_iconst dX7_years_1 ?_
  refine z_sipush dX7_years_2 (by decide +kernel) ?_
  refine s_callS (As := [.int (iZ s), .int (iZ 0), .int (iZ 9999)]) (S := []) dX7_years_5 okX7_isIn mlX7_66 rfl (by omega) rfl (Nat.le_of_ble_eq_true rfl) (m_isIn (d := d - 1) (v := s) (a := 0) (b := 9999) (by unfold inR at *; omega) (by unfold inR at *; omega) (by unfold inR at *; omega) (ms σ A F)) (fun v_ σ_ hq => ?_)
  obtain ⟨rfl, e9⟩ := hq
  have e9 := e9.symm
  subst e9
  show sE g_tt _ _ _ 8 [some (.ref 384), some (.int (iZ s)), some (.int (iZ n)), none, none] [.int (iZ (if 0 ≤ s ∧ s ≤ 9999 then 1 else 0))] (ms σ A F)
  refine z_if_eq (tgt := 21) dX7_years_8 (by decide) inR_01 (fun c_1 => ?_) (fun c_1 => ?_)
  · have c_1 := if01_0 c_1
    refine z_iconst dX7_years_21 ?_
    exact s_iretZ dX7_years_22 rfl ⟨by rw [if_neg (by omega)], σ, by rw [if_neg (by omega), if_neg (by omega)], eqS_rf σ⟩
  · have c_1 := if01_1 c_1
    refine q_iload_n dX7_years_11 rfl rfl ?_
    refine z_iconst dX7_years_12 ?_
    refine z_bipush dX7_years_13 (by decide +kernel) ?_
    refine s_callS (As := [.int (iZ n), .int (iZ 1), .int (iZ 40)]) (S := []) dX7_years_15 okX7_isIn mlX7_66 rfl (by omega) rfl (Nat.le_of_ble_eq_true rfl) (m_isIn (d := d - 1) (v := n) (a := 1) (b := 40) (by unfold inR at *; omega) (by unfold inR at *; omega) (by unfold inR at *; omega) (ms σ A F)) (fun v_ σ_ hq => ?_)
    obtain ⟨rfl, e9⟩ := hq
    have e9 := e9.symm
    subst e9
    show sE g_tt _ _ _ 18 [some (.ref 384), some (.int (iZ s)), some (.int (iZ n)), none, none] [.int (iZ (if 1 ≤ n ∧ n ≤ 40 then 1 else 0))] (ms σ A F)
    refine z_if_ne (tgt := 23) dX7_years_18 (by decide) inR_01 (fun c_2 => ?_) (fun c_2 => ?_)
    · have c_2 := if01_1 c_2
      refine q_aload_n dX7_years_23 rfl rfl ?_
      refine s_callV (ci := 7) (a := 384) (As := []) (S := []) dX7_years_24 okX7_keep mlX7_337 rfl (by omega) rfl (Nat.le_of_ble_eq_true rfl) (show kd 384 = 7 from rfl) (by decide) rfl (m_keep (d := d - 1) σ A F h3 h30) (fun v_ σ_ hq => ?_)
      obtain ⟨rfl, e9⟩ := hq
      have e9 := e9.symm
      subst e9
      show sE g_tt _ _ _ 27 [some (.ref 384), some (.int (iZ s)), some (.int (iZ n)), none, none] [] (ms σ (mKeep A) F)
      refine q_aload_n dX7_years_27 rfl rfl ?_
      refine sg7 (kf := 0) (v := .ref 385) dX7_years_28 flX7_7 (show kd 384 = 7 from rfl) (by decide) rfl ?_
      refine z_bipush dX7_years_31 (by decide +kernel) ?_
      refine q_iload_n dX7_years_33 rfl rfl ?_
      refine z_iconst dX7_years_34 ?_
      refine z_imul dX7_years_35 ?_
      refine z_sipush dX7_years_36 (by decide +kernel) ?_
      refine z_iadd dX7_years_39 ?_
      refine ma_st dX7_years_40 (by omega) (by omega) ?_
      refine z_iconst dX7_years_41 ?_
      refine q_istore_n dX7_years_42 rfl (by decide) ?_
      show sE g_tt _ _ _ 43 [some (.ref 384), some (.int (iZ s)), some (.int (iZ n)), some (.int (iZ 0)), none] [] (ms σ (va_up (mKeep A) 6 ((s * 2) + 347)) F)
      obtain ⟨N, rfl⟩ : ∃ N : Nat, n = (N : Int) := ⟨n.toNat, by omega⟩
      rw [if_pos (by omega), if_pos (by omega), if_pos (by omega)]
      exact lp_years hd (by omega) _ σ hW hV 41 (va_up (mKeep A) 6 (s * 2 + 347)) F 0 σ 89000 none (gd_up (gd_mono (gd_keep g h3 h30) (by decide)) (Or.inl ⟨rfl, by omega, by omega⟩)) (by decide) (by omega) h23 h26 (eqS_rf σ) (by omega) (by omega)
    · have c_2 := if01_0 c_2
      refine z_iconst dX7_years_21 ?_
      exact s_iretZ dX7_years_22 rfl ⟨by rw [if_neg (by omega)], σ, by rw [if_neg (by omega), if_neg (by omega)], eqS_rf σ⟩
/-- one more person -/
def mPer (A : Nat → Int) (v : Int) : Nat → Int := va_up (va_up (va_up A (24 + A 0).toNat v) (19 + A 0).toNat v) 0 (A 0 + 1)
/-- what a clause of a script may be -/
def clV (s v w : Int) : Prop := (0 ≤ s ∧ s ≤ 7) ∧ (inR v ∧ inR w) ∧ (s = 2 → 0 ≤ v ∧ v ≤ 7) ∧ (s = 3 → (0 ≤ v ∧ v ≤ 40) ∧ 0 ≤ w ∧ w ≤ 7) ∧ (s = 4 → (1 ≤ v ∧ v ≤ 20) ∧ 0 ≤ w ∧ w ≤ 7) ∧ (s = 5 → 0 ≤ v ∧ v ≤ 7) ∧ (s = 7 → 1 ≤ v ∧ v ≤ 60)
/-- a clause done: whether it could be, row and fields -/
noncomputable def mAct (W V : wF) (s v w : Int) (A F : Nat → Int) : Int × (Nat → Int) × (Nat → Int) :=
  if s = 2 then (if A 0 = 5 then 0 else 1, if A 0 = 5 then A else mPer A v, F)
  else if s = 3 then (1, mKind A w.toNat v, F)
  else if s = 4 then (if A (11 + w).toNat + v ≤ 99 then 1 else 0, if A (11 + w).toNat + v ≤ 99 then va_up (mKeep A) (11 + w).toNat (mKeep A (11 + w).toNat + v) else A, F)
  else if s = 5 then (if wA W A v.toNat + 2 ≤ A (11 + v.toNat) then 1 else 0, if wA W A v.toNat + 2 ≤ A (11 + v.toNat) then (mThank (mKeep A) F v.toNat).1 else A, if wA W A v.toNat + 2 ≤ A (11 + v.toNat) then (mThank (mKeep A) F v.toNat).2 else F)
  else if s = 6 then (if rdI W A = -1 then 0 else 1, if rdI W A = -1 then A else (mS W (mKeep A) F).2.1, if rdI W A = -1 then F else (mS W (mKeep A) F).2.2)
  else if s = 7 then mNi W V v.toNat A (va_up F 24 0)
  else (1, A, F)
theorem gd_per {c nt : Int} {A : Nat → Int} (g : gd c nt A) (h : ¬ A 0 = 5) {v : Int} (h0 : 0 ≤ v) (h7 : v ≤ 7) : gd c nt (mPer A v) := by
  obtain ⟨g0, gp, gk, gs, g10, g5, g6, g7, g9, g2⟩ := g
  have e : ∀ j, j ≠ 0 → j < 24 → mPer A v j = if j = (19 + A 0).toNat then v else A j := fun j a b => by
    unfold mPer
    rw [va_up_ne _ _ a]
    show (if j = (19 + A 0).toNat then v else va_up A _ v j) = _
    rw [va_up_ne _ _ (by omega)]
  refine ⟨?_, fun p hp => ?_, fun j hj => ?_, ?_, ?_, ?_, ?_, ?_, ?_, ?_⟩
  · show 0 ≤ A 0 + 1 ∧ A 0 + 1 ≤ 5
    omega
  · rw [e _ (by omega) (by omega)]; split
    · omega
    · exact gp p hp
  · rw [e _ (by omega) (by omega), if_neg (by omega)]; exact gk j hj
  · rw [mSum8] at gs ⊢
    rw [e 11 (by omega) (by omega), if_neg (by omega), e 12 (by omega) (by omega), if_neg (by omega), e 13 (by omega) (by omega), if_neg (by omega), e 14 (by omega) (by omega), if_neg (by omega), e 15 (by omega) (by omega), if_neg (by omega), e 16 (by omega) (by omega), if_neg (by omega), e 17 (by omega) (by omega), if_neg (by omega), e 18 (by omega) (by omega), if_neg (by omega)]
    exact gs
  · rw [e _ (by omega) (by omega), if_neg (by omega)]; exact g10
  · rw [e _ (by omega) (by omega), if_neg (by omega)]; exact g5
  · rw [e _ (by omega) (by omega), if_neg (by omega)]; exact g6
  · rw [e _ (by omega) (by omega), if_neg (by omega)]; exact g7
  · rw [e _ (by omega) (by omega), if_neg (by omega)]; exact g9
  · rw [e _ (by omega) (by omega), if_neg (by omega)]; exact g2
theorem gd_kindT {c nt : Int} {A : Nat → Int} (g : gd c nt A) {h : Nat} (hh : h < 8) {v : Int} (h0 : 0 ≤ v) (h4 : v ≤ 40) : gd (c + 40) nt (mKind A h v) := by
  have k := kd_ran g hh
  exact gd_ext (gd_kind g hh (c' := c + 40) h0 (by omega)) (fun i a _ _ _ _ => mKs_o _ h v (by omega) _)
theorem mAct_ok {T : Nat → Int} {W V : wF} {nt : Int} (hW : wOK T 100000 nt W) (hV : vOK T 100000 nt V) {s v w : Int} (hcl : clV s v w) {A F : Nat → Int} {c : Int} (g : gd c nt A) (hc8 : 80 ≤ c) (hc : c ≤ 90000) (h3 : 0 ≤ A 3) (h30 : A 3 ≤ 30) (h26 : 0 ≤ F 26) : gd (c + 40) nt (mAct W V s v w A F).2.1 ∧ (0 ≤ (mAct W V s v w A F).2.1 3 ∧ (mAct W V s v w A F).2.1 3 ≤ 30) ∧ fS F (mAct W V s v w A F).2.2 ∧ ((mAct W V s v w A F).1 = 0 ∨ (mAct W V s v w A F).1 = 1) := by
  obtain ⟨-, -, c2, c3, c4, c5, c7⟩ := hcl
  have rf : fS F F := ⟨fun _ _ _ _ _ _ _ _ => rfl, h26⟩
  have k3 := mKeep_3r A h3 h30
  have gk := gd_keep g h3 h30
  have same : gd (c + 40) nt A ∧ (0 ≤ A 3 ∧ A 3 ≤ 30) := ⟨gd_mono g (by omega), h3, h30⟩
  unfold mAct
  by_cases e2 : s = 2
  · rw [if_pos e2]
    by_cases q : A 0 = 5
    · simp only [if_pos q]
      exact ⟨same.1, same.2, rf, by simp⟩
    · simp only [if_neg q]
      refine ⟨gd_mono (gd_per g q (c2 e2).1 (c2 e2).2) (by omega), ?_, rf, by simp⟩
      have e : mPer A v 3 = A 3 := by
        have := g.1
        unfold mPer
        rw [va_up_ne _ _ (by omega), va_up_ne _ _ (by omega), va_up_ne _ _ (by omega)]
      rw [e]; exact same.2
  · rw [if_neg e2]
    by_cases e3 : s = 3
    · rw [if_pos e3]
      refine ⟨gd_kindT g (by have := c3 e3; omega) (c3 e3).1.1 (c3 e3).1.2, ?_, rf, by simp⟩
      show 0 ≤ mKind A w.toNat v 3 ∧ mKind A w.toNat v 3 ≤ 30
      unfold mKind
      rw [mKs_o _ _ _ (by omega), va_up_ne _ _ (by omega)]
      exact same.2
    · rw [if_neg e3]
      by_cases e4 : s = 4
      · rw [if_pos e4]
        have q := c4 e4
        by_cases q2 : A (11 + w).toNat + v ≤ 99
        · simp only [if_pos q2]
          rw [show (11 + w).toNat = 11 + w.toNat by omega]
          have k := kd_ran gk (h := w.toNat) (by omega)
          exact ⟨gd_kind gk (by omega) (by omega) (by omega), by rw [va_up_ne _ _ (by omega)]; exact k3, rf, by simp⟩
        · simp only [if_neg q2]
          exact ⟨same.1, same.2, rf, by simp⟩
      · rw [if_neg e4]
        by_cases e5 : s = 5
        · rw [if_pos e5]
          have q := c5 e5
          by_cases q2 : wA W A v.toNat + 2 ≤ A (11 + v.toNat)
          · simp only [if_pos q2]
            have w0 : 0 ≤ wA W A v.toNat := wOK_0 hW A (gd_mono g (by omega)) _ (by omega)
            have l10 := gk.2.2.2.2.1
            exact ⟨gd_mono (gd_thank gk F (by omega) (by rw [mKeep_o A h3 h30 (by omega)]; omega)) (by omega), by rw [mThank_lo _ F (by omega) l10.1 l10.2 (by decide) (by decide) (by decide)]; exact k3, ⟨fun k a b d _ _ _ _ => mThank_F _ _ _ a b d, by rw [mThank_26]; exact Int.natCast_nonneg _⟩, by simp⟩
          · simp only [if_neg q2]
            exact ⟨same.1, same.2, rf, by simp⟩
        · rw [if_neg e5]
          by_cases e6 : s = 6
          · rw [if_pos e6]
            by_cases q2 : rdI W A = -1
            · simp only [if_pos q2]
              exact ⟨same.1, same.2, rf, by simp⟩
            · simp only [if_neg q2]
              have g1 := gd_mono gk (show c ≤ 100000 by omega)
              have q := mS_ok (F := F) (Int.le_refl _) hW g1
              exact ⟨gd_mono (gd_rest hW q.1 q.2.1).1 (by omega), by rw [mS_lo hW g1 (by omega)]; exact k3, fS_mS _ _, by simp⟩
          · rw [if_neg e6]
            by_cases e7 : s = 7
            · rw [if_pos e7]
              have q := mNi_ok hW hV hc8 hc v.toNat A (va_up F 24 0) g h3 h30 h26
              refine ⟨gd_mono q.1 (by omega), ⟨q.2.1, q.2.2.1⟩, ⟨fun k a b d e f g' i => ?_, q.2.2.2.1.2⟩, q.2.2.2.2.1⟩
              rw [q.2.2.2.1.1 k a b d e f g' i, va_up_ne _ _ a]
            · rw [if_neg e7]
              exact ⟨same.1, same.2, rf, by simp⟩
