/-! ===== who did it, odds ===== -/
/-- kindness of the first k houses out of I -/
def imK (I A : Nat → Int) (k : Nat) : Nat → Int := fun i => if 11 ≤ i ∧ i < 11 + k then I i else A i
theorem imK_0 (I A : Nat → Int) : imK I A 0 = A := by
  funext i; unfold imK; rw [if_neg (by omega)]
theorem imK_step (I A : Nat → Int) (k : Nat) : imK I A (k + 1) = va_up (imK I A k) (11 + k) (I (11 + k)) := by
  funext i
  by_cases e : i = 11 + k
  · subst e; rw [va_up_self]; unfold imK; rw [if_pos (by omega)]
  · rw [va_up_ne _ _ e]; unfold imK
    by_cases q : 11 ≤ i ∧ i < 11 + k
    · rw [if_pos q, if_pos (by omega)]
    · rw [if_neg q, if_neg (by omega)]
theorem imK_agr (I A : Nat → Int) : agr A (imK I A 8) := fun i hi => by unfold imK; rw [if_neg (by omega)]
/-- whether kindness out of I comes to that of A by the code c of n houses (1, 0) -/
noncomputable def doneB (W : wF) (I A : Nat → Int) (n c : Nat) : Int := if (mDo W 0 c n (imK I A 8)).1 = 0 then 0 else kE (mDo W 0 c n (imK I A 8)).2 A
theorem doneB_01 (W : wF) (I A : Nat → Int) (n c : Nat) : doneB W I A n c = 0 ∨ doneB W I A n c = 1 := by
  unfold doneB; split; exact Or.inl rfl; exact kE_01 _ _
set_option maxHeartbeats 4000000 in
set_option maxRecDepth 100000 in
theorem lp_isDoneSo {d c n : Nat} {vv b0 : Int} (hd : 1 ≤ d) (σ : gS) (A F : Nat → Int) (h23 : F 23 = 1) (h26 : 0 ≤ F 26) {nt : Int} (g : gd 98000 nt A) (σ2 : gS) (R F2 : Nat → Int) (gR : gd 98000 nt R) (hA2 : asd σ A σ2) (hF2 : fS (va_up F 23 0) F2) (ha : agr A R) (hv : ∀ {z : Int}, (z = 0 ∨ z = 1) → (z = 1 ↔ b0 = 1 ∧ ∀ j, j < 8 → R (11 + j) = A (11 + j)) → z = vv) : ∀ (f : Nat) (k : Nat) (z : Int), k ≤ 8 → (z = 0 ∨ z = 1) → (z = 1 ↔ b0 = 1 ∧ ∀ j, j < k → R (11 + j) = A (11 + j)) → 8 - (k : Int) < (f : Int) → sE g_tt mX7_isDoneSo d (fun r σ' => r = some (.int (iZ (vv))) ∧ ∃ σ2 F2, σ' = ms σ2 A F2 ∧ eqX σ σ2 ∧ fS F F2) 47 [some (.ref 384), some (.int (iZ (c : Int))), some (.int (iZ (n : Int))), some (.int (iZ z)), some (.int (iZ (k : Int)))] [] (ms σ2 R F2) := by
  intro f
  induction f with
  | zero =>
    intro k z hk hz01 hzi hf
    exact absurd hf (by omega)
  | succ f ih =>
    intro k z hk hz01 hzi hf
    refine q_iload dX7_isDoneSo_47 rfl ?_
    refine z_bipush dX7_isDoneSo_49 (by decide +kernel) ?_
    refine z_icmp_ge (tgt := 91) dX7_isDoneSo_51 (by decide) (by unfold inR at *; omega) (by unfold inR at *; omega) (fun c_1 => ?_) (fun c_1 => ?_)
    · refine q_aload_n dX7_isDoneSo_91 rfl rfl ?_
      refine s_callV (ci := 7) (a := 384) (As := []) (S := []) dX7_isDoneSo_92 okX7_putBack mlX7_388 rfl (by omega) rfl (Nat.le_of_ble_eq_true rfl) (show kd 384 = 7 from rfl) (by decide) rfl (m_putB (d := d - 1) (σ := σ) (A := A) σ2 R F2 hA2 ha) (fun v_ σ_ hq => ?_)
      obtain ⟨rfl, e9⟩ := hq
      have e9 := e9.symm
      subst e9
      show sE g_tt _ _ _ 95 [some (.ref 384), some (.int (iZ (c : Int))), some (.int (iZ (n : Int))), some (.int (iZ z)), some (.int (iZ (k : Int)))] [] (ms σ2 A (va_up F2 23 1))
      refine q_iload_n dX7_isDoneSo_95 rfl rfl ?_
      exact s_zret dX7_isDoneSo_96 rfl (by omega) ⟨by rw [hv hz01 (by rwa [show k = 8 by omega] at hzi)], σ2, _, rfl, hA2.1, fS_fin h23 hF2⟩
    · refine q_iload_n dX7_isDoneSo_54 rfl rfl ?_
      refine q_aload_n dX7_isDoneSo_55 rfl rfl ?_
      refine sg7 (kf := 0) (v := .ref 385) dX7_isDoneSo_56 flX7_7 (show kd 384 = 7 from rfl) (by decide) rfl ?_
      refine z_bipush dX7_isDoneSo_59 (by decide +kernel) ?_
      refine q_iload dX7_isDoneSo_61 rfl ?_
      refine z_iadd dX7_isDoneSo_63 ?_
      refine s_iald (n := 1583) (x := R (11 + k)) dX7_isDoneSo_64 (show kd 385 = 100 + 1583 from rfl) (by omega) (by omega) (by decide) rfl ?_
      refine q_aload_n dX7_isDoneSo_65 rfl rfl ?_
      refine sg7 (kf := 27) (v := .ref 393) dX7_isDoneSo_66 flX7_47 (show kd 384 = 7 from rfl) (by decide) rfl ?_
      refine z_bipush dX7_isDoneSo_69 (by decide +kernel) ?_
      refine q_iload dX7_isDoneSo_71 rfl ?_
      refine z_iadd dX7_isDoneSo_73 ?_
      refine s_iald (n := 24) (x := A (11 + k)) dX7_isDoneSo_74 (show kd 393 = 100 + 24 from rfl) (by omega) (by omega) (by decide) (hA2.2 (11 + k) (by omega) (by omega)) ?_
      refine z_icmp_ne (tgt := 82) dX7_isDoneSo_75 (by decide) (gd_in (by decide) gR k (by omega)) (gd_in (by decide) g k (by omega)) (fun c_2 => ?_) (fun c_2 => ?_)
      · refine z_iconst dX7_isDoneSo_82 ?_
        refine z_top2 (y := ((z.toNat : Nat) : Int)) (by omega) ?_
        refine z_iand (m := z.toNat) (k := 0) dX7_isDoneSo_83 ?_
        refine z_top (y := 0) (by simp) ?_
        refine q_istore_n dX7_isDoneSo_84 rfl (by decide) ?_
        show sE g_tt _ _ _ 85 [some (.ref 384), some (.int (iZ (c : Int))), some (.int (iZ (n : Int))), some (.int (iZ 0)), some (.int (iZ (k : Int)))] [] (ms σ2 R F2)
        refine z_iinc dX7_isDoneSo_85 rfl (by decide) ?_
        show sE g_tt _ _ _ 88 [some (.ref 384), some (.int (iZ (c : Int))), some (.int (iZ (n : Int))), some (.int (iZ 0)), some (.int (iZ ((k : Int) + 1)))] [] (ms σ2 R F2)
        refine q_goto (tgt := 47) dX7_isDoneSo_88 (by decide) ?_
        exact ih (k + 1) 0 (by omega) (Or.inl rfl) ⟨fun e => absurd e (by decide), fun q => absurd (q.2 k (by omega)) c_2⟩ (by omega)
      · refine z_iconst dX7_isDoneSo_78 ?_
        refine q_goto (tgt := 83) dX7_isDoneSo_79 (by decide) ?_
        refine z_top2 (y := ((z.toNat : Nat) : Int)) (by omega) ?_
        refine z_iand (m := z.toNat) (k := 1) dX7_isDoneSo_83 ?_
        refine z_top (y := z) (by rcases hz01 with e | e <;> rw [e] <;> rfl) ?_
        refine q_istore_n dX7_isDoneSo_84 rfl (by decide) ?_
        show sE g_tt _ _ _ 85 [some (.ref 384), some (.int (iZ (c : Int))), some (.int (iZ (n : Int))), some (.int (iZ z)), some (.int (iZ (k : Int)))] [] (ms σ2 R F2)
        refine z_iinc dX7_isDoneSo_85 rfl (by decide) ?_
        show sE g_tt _ _ _ 88 [some (.ref 384), some (.int (iZ (c : Int))), some (.int (iZ (n : Int))), some (.int (iZ z)), some (.int (iZ ((k : Int) + 1)))] [] (ms σ2 R F2)
        refine q_goto (tgt := 47) dX7_isDoneSo_88 (by decide) ?_
        refine ih (k + 1) z (by omega) hz01 ⟨fun e => ⟨(hzi.1 e).1, fun j hj => ?_⟩, fun q => hzi.2 ⟨q.1, fun j hj => q.2 j (by omega)⟩⟩ (by omega)
        rcases Nat.lt_or_eq_of_le (Nat.le_of_lt_succ hj) with q | q
        · exact (hzi.1 e).2 j q
        · subst q; exact c_2
set_option maxHeartbeats 4000000 in
set_option maxRecDepth 100000 in
theorem lp_isDoneSo0 {d c n : Nat} (hd : 10 ≤ d) (hc : c < 512) (hn : n ≤ 3) (σ : gS) (A F : Nat → Int) (h23 : F 23 = 1) (h26 : 0 ≤ F 26) {W : wF} {nt : Int} (hW : wOK (σ.2.1 387) 100000 nt W) (g : gd 98000 nt A) (g2 : gd 98000 nt (imK (σ.2.1 386) A 8)) (σ1 : gS) (hA1 : asd σ A σ1) (hF1 : fS (va_up F 23 0) (va_up F 23 0)) (hz1 : va_up F 23 0 23 = 0) : ∀ (f : Nat) (k : Nat), k ≤ 8 → 8 - (k : Int) < (f : Int) → sE g_tt mX7_isDoneSo d (fun r σ' => r = some (.int (iZ (doneB W (σ.2.1 386) A n c))) ∧ ∃ σ2 F2, σ' = ms σ2 A F2 ∧ eqX σ σ2 ∧ fS F F2) 6 [some (.ref 384), some (.int (iZ (c : Int))), some (.int (iZ (n : Int))), some (.int (iZ (k : Int))), none] [] (ms σ1 (imK (σ.2.1 386) A k) (va_up F 23 0)) := by
  intro f
  induction f with
  | zero =>
    intro k hk hf
    exact absurd hf (by omega)
  | succ f ih =>
    intro k hk hf
    refine q_iload_n dX7_isDoneSo_6 rfl rfl ?_
    refine z_bipush dX7_isDoneSo_7 (by decide +kernel) ?_
    refine z_icmp_ge (tgt := 36) dX7_isDoneSo_9 (by decide) (by unfold inR at *; omega) (by unfold inR at *; omega) (fun c_1 => ?_) (fun c_1 => ?_)
    · rw [show imK (σ.2.1 386) A k = (imK (σ.2.1 386) A 8) by rw [show k = 8 by omega]]
      refine q_aload_n dX7_isDoneSo_36 rfl rfl ?_
      refine q_iload_n dX7_isDoneSo_37 rfl rfl ?_
      refine q_iload_n dX7_isDoneSo_38 rfl rfl ?_
      refine z_iconst dX7_isDoneSo_39 ?_
      refine s_callV (ci := 7) (a := 384) (As := [.int (iZ (c : Int)), .int (iZ (n : Int)), .int (iZ 0)]) (S := []) dX7_isDoneSo_40 okX7_areDone mlX7_415 rfl (by omega) rfl (Nat.le_of_ble_eq_true rfl) (show kd 384 = 7 from rfl) (by decide) rfl (m_areDone (d := d - 1) (c := c) (n := n) (by omega) hc hn (b := 0) (by omega) (σ.2.1 387) hW σ1 (imK (σ.2.1 386) A 8) (va_up F 23 0) g2 hz1 (asd_T hA1) hF1.2) (fun v_ σ_ hq => ?_)
      obtain ⟨rfl, σ2, F2, e9, hE2, hf2⟩ := hq
      subst e9
      have hA2 := asd_S hA1 hE2
      have hF2 := fS_tr hF1 hf2
      have dk := mDo_ok hW 0 c n (imK (σ.2.1 386) A 8) g2
      show sE g_tt _ _ _ 43 [some (.ref 384), some (.int (iZ (c : Int))), some (.int (iZ (n : Int))), some (.int (iZ (k : Int))), none] [.int (iZ ((mDo W 0 c n (imK (σ.2.1 386) A 8)).1))] (ms σ2 ((mDo W 0 c n (imK (σ.2.1 386) A 8)).2) F2)
      refine q_istore_n dX7_isDoneSo_43 rfl (by decide) ?_
      show sE g_tt _ _ _ 44 [some (.ref 384), some (.int (iZ (c : Int))), some (.int (iZ (n : Int))), some (.int (iZ ((mDo W 0 c n (imK (σ.2.1 386) A 8)).1))), none] [] (ms σ2 ((mDo W 0 c n (imK (σ.2.1 386) A 8)).2) F2)
      refine z_iconst dX7_isDoneSo_44 ?_
      refine q_istore dX7_isDoneSo_45 (by decide) ?_
      show sE g_tt _ _ _ 47 [some (.ref 384), some (.int (iZ (c : Int))), some (.int (iZ (n : Int))), some (.int (iZ ((mDo W 0 c n (imK (σ.2.1 386) A 8)).1))), some (.int (iZ 0))] [] (ms σ2 ((mDo W 0 c n (imK (σ.2.1 386) A 8)).2) F2)
      refine lp_isDoneSo (b0 := (mDo W 0 c n (imK (σ.2.1 386) A 8)).1) (by omega) σ A F h23 h26 g σ2 _ F2 dk.1 hA2 hF2 (agr_tr (imK_agr _ _) dk.2.1) (fun {z} h1 h2 => ?_) 9 0 _ (by omega) dk.2.2.1 ⟨fun e => ⟨e, fun j hj => absurd hj (by omega)⟩, fun q => q.1⟩ (by omega)
      unfold doneB
      rcases dk.2.2.1 with e | e
      · rw [if_pos e]
        rcases h1 with q | q
        · exact q
        · exact absurd (h2.1 q).1 (by omega)
      · rw [if_neg (by omega)]
        unfold kE
        by_cases q : ∀ j, j < 8 → (mDo W 0 c n (imK (σ.2.1 386) A 8)).2 (11 + j) = A (11 + j)
        · rw [if_pos q]; exact h2.2 ⟨e, q⟩
        · rw [if_neg q]
          rcases h1 with q1 | q1
          · exact q1
          · exact absurd (h2.1 q1).2 q
    · refine q_aload_n dX7_isDoneSo_12 rfl rfl ?_
      refine sg7 (kf := 0) (v := .ref 385) dX7_isDoneSo_13 flX7_7 (show kd 384 = 7 from rfl) (by decide) rfl ?_
      refine z_bipush dX7_isDoneSo_16 (by decide +kernel) ?_
      refine q_iload_n dX7_isDoneSo_18 rfl rfl ?_
      refine z_iadd dX7_isDoneSo_19 ?_
      refine q_aload_n dX7_isDoneSo_20 rfl rfl ?_
      refine sg7 (kf := 1) (v := .ref 386) dX7_isDoneSo_21 flX7_13 (show kd 384 = 7 from rfl) (by decide) rfl ?_
      refine z_bipush dX7_isDoneSo_24 (by decide +kernel) ?_
      refine q_iload_n dX7_isDoneSo_26 rfl rfl ?_
      refine z_iadd dX7_isDoneSo_27 ?_
      refine s_iald (n := 1583) (x := (σ.2.1 386) (11 + k)) dX7_isDoneSo_28 (show kd 386 = 100 + 1583 from rfl) (by omega) (by omega) (by decide) (by show σ1.2.1 386 (11 + k) = _; rw [asd_I hA1]) ?_
      refine ma_st dX7_isDoneSo_29 (by omega) (by omega) ?_
      refine z_iinc dX7_isDoneSo_30 rfl (by decide) ?_
      show sE g_tt _ _ _ 33 [some (.ref 384), some (.int (iZ (c : Int))), some (.int (iZ (n : Int))), some (.int (iZ ((k : Int) + 1))), none] [] (ms σ1 (va_up (imK (σ.2.1 386) A k) (11 + k) ((σ.2.1 386) (11 + k))) (va_up F 23 0))
      refine q_goto (tgt := 6) dX7_isDoneSo_33 (by decide) ?_
      rw [← imK_step]
      exact ih (k + 1) (by omega) (by omega)
set_option maxHeartbeats 4000000 in
set_option maxRecDepth 100000 in
theorem m_isDoneSo {d c n : Nat} (hd : 10 ≤ d) (hc : c < 512) (hn : n ≤ 3) (σ : gS) (A F : Nat → Int) (h23 : F 23 = 1) (h26 : 0 ≤ F 26) {W : wF} {nt : Int} (hW : wOK (σ.2.1 387) 100000 nt W) (g : gd 98000 nt A) (g2 : gd 98000 nt (imK (σ.2.1 386) A 8)) : sC mX7_isDoneSo d [.ref 384, .int (iZ (c : Int)), .int (iZ (n : Int))] (ms σ A F) (fun r σ' => r = some (.int (iZ (doneB W (σ.2.1 386) A n c))) ∧ ∃ σ2 F2, σ' = ms σ2 A F2 ∧ eqX σ σ2 ∧ fS F F2) := by
  refine sC_of rfl (Nat.le_of_ble_eq_true rfl) ?_
  show sE g_tt _ _ _ 0 [some (.ref 384), some (.int (iZ (c : Int))), some (.int (iZ (n : Int))), none, none] [] (ms σ A F)
  refine q_aload_n dX7_isDoneSo_0 rfl rfl ?_
  refine s_callV (ci := 7) (a := 384) (As := []) (S := []) dX7_isDoneSo_1 okX7_setAside mlX7_385 rfl (by omega) rfl (Nat.le_of_ble_eq_true rfl) (show kd 384 = 7 from rfl) (by decide) rfl (m_aside (d := d - 1) σ A F) (fun v_ σ_ hq => ?_)
  obtain ⟨rfl, σ1, e9, hA1⟩ := hq
  subst e9
  have hF1 : fS (va_up F 23 0) (va_up F 23 0) := fS_rf (by show 0 ≤ F 26; exact h26)
  have hz1 : va_up F 23 0 23 = 0 := rfl
  show sE g_tt _ _ _ 4 [some (.ref 384), some (.int (iZ (c : Int))), some (.int (iZ (n : Int))), none, none] [] (ms σ1 A (va_up F 23 0))
  refine z_iconst dX7_isDoneSo_4 ?_
  refine q_istore_n dX7_isDoneSo_5 rfl (by decide) ?_
  show sE g_tt _ _ _ 6 [some (.ref 384), some (.int (iZ (c : Int))), some (.int (iZ (n : Int))), some (.int (iZ 0)), none] [] (ms σ1 A (va_up F 23 0))
  refine sE_eq (show ms σ1 (imK (σ.2.1 386) A 0) (va_up F 23 0) = ms σ1 A (va_up F 23 0) by rw [imK_0]) ?_
  exact lp_isDoneSo0 hd hc hn σ A F h23 h26 hW g g2 σ1 hA1 hF1 hz1 9 0 (by omega) (by omega)
/-- the k-th way: one house, then two -/
noncomputable def dnB (W : wF) (I A : Nat → Int) (k : Nat) : Int := if k < 8 then doneB W I A 1 k else doneB W I A 2 (k - 8)
theorem dnB_01 (W : wF) (I A : Nat → Int) (k : Nat) : dnB W I A k = 0 ∨ dnB W I A k = 1 := by
  unfold dnB; split <;> exact doneB_01 _ _ _ _ _
def dVal (k : Nat) : Int := if k < 8 then (k : Int) else 10 + 10 * (((k - 8) / 8 : Nat) : Int) + (((k - 8) % 8 : Nat) : Int)
/-- in how many of the first k ways, the first of them -/
noncomputable def dCnt (W : wF) (I A : Nat → Int) : Nat → Int
  | 0 => 0
  | k + 1 => dCnt W I A k + dnB W I A k
noncomputable def dFnd (W : wF) (I A : Nat → Int) : Nat → Int
  | 0 => -1
  | k + 1 => if dnB W I A k = 1 ∧ dFnd W I A k = -1 then dVal k else dFnd W I A k
theorem dFnd_ran (W : wF) (I A : Nat → Int) : ∀ k, k ≤ 72 → -1 ≤ dFnd W I A k ∧ dFnd W I A k ≤ 1000 := by
  intro k
  induction k with
  | zero => intro _; show (-1 : Int) ≤ -1 ∧ (-1 : Int) ≤ 1000; omega
  | succ k ih =>
    intro hk
    have i9 := ih (by omega)
    rw [dFnd]
    split
    · unfold dVal; split <;> omega
    · exact i9
set_option maxHeartbeats 4000000 in
set_option maxRecDepth 100000 in
theorem lp_doers {d : Nat} (hd : 11 ≤ d) {u : Int} (hu : u = 0 ∨ u = 1) (σ : gS) (A F : Nat → Int) (h23 : F 23 = 1) (h26 : 0 ≤ F 26) {W : wF} {nt : Int} (hW : wOK (σ.2.1 387) 100000 nt W) (g : gd 98000 nt A) (g2 : gd 98000 nt (imK (σ.2.1 386) A 8)) : ∀ (f : Nat) (k : Nat) (σ1 : gS) (F1 : Nat → Int) (l5 : Option Value), k ≤ 72 → eqX σ σ1 → fS F F1 → 72 - (k : Int) < (f : Int) → sE g_tt mX7_doers d (fun r σ' => r = some (.int (iZ (if u = 0 then dCnt W (σ.2.1 386) A 72 else dFnd W (σ.2.1 386) A 72))) ∧ ∃ σ2 F2, σ' = ms σ2 A F2 ∧ eqX σ σ2 ∧ fS F F2) 7 [some (.ref 384), some (.int (iZ u)), some (.int (iZ (dCnt W (σ.2.1 386) A k))), some (.int (iZ (dFnd W (σ.2.1 386) A k))), some (.int (iZ (k : Int))), l5] [] (ms σ1 A F1) := by
  intro f
  induction f with
  | zero =>
    intro k σ1 F1 l5 hk hE1 hF1 hf
    exact absurd hf (by omega)
  | succ f ih =>
    intro k σ1 F1 l5 hk hE1 hF1 hf
    have fr := dFnd_ran W (σ.2.1 386) A k hk
    refine q_iload dX7_doers_7 rfl ?_
    refine z_bipush dX7_doers_9 (by decide +kernel) ?_
    refine z_icmp_ge (tgt := 111) dX7_doers_11 (by decide) (by unfold inR at *; omega) (by unfold inR at *; omega) (fun c_1 => ?_) (fun c_1 => ?_)
    · refine q_iload_n dX7_doers_111 rfl rfl ?_
      refine z_if_eq (tgt := 119) dX7_doers_112 (by decide) (by unfold inR at *; omega) (fun c_2 => ?_) (fun c_2 => ?_)
      · refine q_iload_n dX7_doers_119 rfl rfl ?_
        exact s_iretZ dX7_doers_120 rfl ⟨(by rw [show (72 : Nat) = k by omega]; (repeat (first | rw [if_pos (by omega)] | rw [if_neg (by omega)]))), σ1, F1, rfl, hE1, hF1⟩
      · refine q_iload_n dX7_doers_115 rfl rfl ?_
        refine q_goto (tgt := 120) dX7_doers_116 (by decide) ?_
        exact s_iretZ dX7_doers_120 rfl ⟨(by rw [show (72 : Nat) = k by omega]; (repeat (first | rw [if_pos (by omega)] | rw [if_neg (by omega)]))), σ1, F1, rfl, hE1, hF1⟩
    · refine q_iload dX7_doers_14 rfl ?_
      refine z_bipush dX7_doers_16 (by decide +kernel) ?_
      refine z_icmp_ge (tgt := 25) dX7_doers_18 (by decide) (by unfold inR at *; omega) (by unfold inR at *; omega) (fun c_3 => ?_) (fun c_3 => ?_)
      · refine z_iconst dX7_doers_25 ?_
        refine q_istore dX7_doers_26 (by decide) ?_
        show sE g_tt _ _ _ 28 [some (.ref 384), some (.int (iZ u)), some (.int (iZ (dCnt W (σ.2.1 386) A k))), some (.int (iZ (dFnd W (σ.2.1 386) A k))), some (.int (iZ (k : Int))), some (.int (iZ 0))] [] (ms σ1 A F1)
        refine q_aload_n dX7_doers_28 rfl rfl ?_
        refine q_iload dX7_doers_29 rfl ?_
        refine z_if_eq (tgt := 39) dX7_doers_31 (by decide) (by unfold inR at *; omega) (fun c_4 => ?_) (fun c_4 => ?_)
        · refine q_iload dX7_doers_39 rfl ?_
          refine z_bipush dX7_doers_41 (by decide +kernel) ?_
          refine z_isub dX7_doers_43 ?_
          refine z_top (y := ((k - 8 : Nat) : Int)) (by omega) ?_
          refine q_iload dX7_doers_44 rfl ?_
          refine z_if_eq (tgt := 53) dX7_doers_46 (by decide) (by unfold inR at *; omega) (fun c_5 => ?_) (fun c_5 => ?_)
          · refine z_iconst dX7_doers_53 ?_
            refine s_callV (ci := 7) (a := 384) (As := [.int (iZ ((k - 8 : Nat) : Int)), .int (iZ 2)]) (S := []) dX7_doers_54 okX7_isDoneSo mlX7_423 rfl (by omega) rfl (Nat.le_of_ble_eq_true rfl) (show kd 384 = 7 from rfl) (by decide) rfl (m_isDoneSo (d := d - 1) (c := (k - 8)) (n := 2) (by omega) (by omega) (by decide) σ1 A F1 ((fS_23 hF1).trans h23) hF1.2 (by rw [hE1.2.1 387 (by decide)]; exact hW) g (by rw [hE1.2.1 386 (by decide)]; exact g2)) (fun v_ σ_ hq => ?_)
            obtain ⟨rfl, σ2, F2, e9, hE2, hF2⟩ := hq
            subst e9
            have hE3 := eqX_tr hE1 hE2
            have hF3 := fS_tr hF1 hF2
            have eB : doneB W (σ1.2.1 386) A 2 (k - 8) = dnB W (σ.2.1 386) A k := by rw [hE1.2.1 386 (by decide)]; unfold dnB; (repeat (first | rw [if_pos (by omega)] | rw [if_neg (by omega)]))
            refine z_top eB ?_
            have o1 := dnB_01 W (σ.2.1 386) A k
            show sE g_tt _ _ _ 57 [some (.ref 384), some (.int (iZ u)), some (.int (iZ (dCnt W (σ.2.1 386) A k))), some (.int (iZ (dFnd W (σ.2.1 386) A k))), some (.int (iZ (k : Int))), some (.int (iZ 0))] [.int (iZ (dnB W (σ.2.1 386) A k))] (ms σ2 A F2)
            refine z_if_ne (tgt := 63) dX7_doers_57 (by decide) (by unfold inR; omega) (fun c_6 => ?_) (fun c_6 => ?_)
            · refine z_iinc dX7_doers_63 rfl (by decide) ?_
              show sE g_tt _ _ _ 66 [some (.ref 384), some (.int (iZ u)), some (.int (iZ (dCnt W (σ.2.1 386) A k + 1))), some (.int (iZ (dFnd W (σ.2.1 386) A k))), some (.int (iZ (k : Int))), some (.int (iZ 0))] [] (ms σ2 A F2)
              refine q_iload_n dX7_doers_66 rfl rfl ?_
              refine z_iconst dX7_doers_67 ?_
              refine z_icmp_ne (tgt := 105) dX7_doers_68 (by decide) (by unfold inR at *; omega) (by unfold inR at *; omega) (fun c_7 => ?_) (fun c_7 => ?_)
              · refine z_iinc dX7_doers_105 rfl (by decide) ?_
                show sE g_tt _ _ _ 108 [some (.ref 384), some (.int (iZ u)), some (.int (iZ (dCnt W (σ.2.1 386) A k + 1))), some (.int (iZ (dFnd W (σ.2.1 386) A k))), some (.int (iZ ((k : Int) + 1))), some (.int (iZ 0))] [] (ms σ2 A F2)
                refine q_goto (tgt := 7) dX7_doers_108 (by decide) ?_
                have e1 : dCnt W (σ.2.1 386) A (k + 1) = dCnt W (σ.2.1 386) A k + 1 := by rw [dCnt]; omega
                have e2 : dFnd W (σ.2.1 386) A (k + 1) = dFnd W (σ.2.1 386) A k := by rw [dFnd, if_neg (by omega)]
                have k9 := ih (k + 1) σ2 F2 (some (.int (iZ 0))) (by omega) hE3 hF3 (by omega)
                rw [e1, e2] at k9
                exact k9
              · refine q_iload dX7_doers_71 rfl ?_
                refine z_if_eq (tgt := 81) dX7_doers_73 (by decide) (by unfold inR at *; omega) (fun c_8 => ?_) (fun c_8 => ?_)
                · refine z_bipush dX7_doers_81 (by decide +kernel) ?_
                  refine z_bipush dX7_doers_83 (by decide +kernel) ?_
                  refine q_iload dX7_doers_85 rfl ?_
                  refine z_bipush dX7_doers_87 (by decide +kernel) ?_
                  refine z_isub dX7_doers_89 ?_
                  refine z_bipush dX7_doers_90 (by decide +kernel) ?_
                  refine z_idiv dX7_doers_92 (by unfold inR at *; omega) (by unfold inR at *; omega) (by decide) ?_
                  refine z_top (y := (((k - 8) / 8 : Nat) : Int)) (by rw [show (k : Int) - 8 = ((k - 8 : Nat) : Int) by omega]; rfl) ?_
                  refine z_imul dX7_doers_93 ?_
                  refine z_iadd dX7_doers_94 ?_
                  refine q_iload dX7_doers_95 rfl ?_
                  refine z_bipush dX7_doers_97 (by decide +kernel) ?_
                  refine z_isub dX7_doers_99 ?_
                  refine z_bipush dX7_doers_100 (by decide +kernel) ?_
                  refine z_irem dX7_doers_102 (by unfold inR at *; omega) (by unfold inR at *; omega) (by decide) ?_
                  refine z_top (y := (((k - 8) % 8 : Nat) : Int)) (by rw [show (k : Int) - 8 = ((k - 8 : Nat) : Int) by omega]; rfl) ?_
                  refine z_iadd dX7_doers_103 ?_
                  refine q_istore_n dX7_doers_104 rfl (by decide) ?_
                  show sE g_tt _ _ _ 105 [some (.ref 384), some (.int (iZ u)), some (.int (iZ (dCnt W (σ.2.1 386) A k + 1))), some (.int (iZ ((10 + (10 * (((k - 8) / 8 : Nat) : Int))) + (((k - 8) % 8 : Nat) : Int)))), some (.int (iZ (k : Int))), some (.int (iZ 0))] [] (ms σ2 A F2)
                  refine z_iinc dX7_doers_105 rfl (by decide) ?_
                  show sE g_tt _ _ _ 108 [some (.ref 384), some (.int (iZ u)), some (.int (iZ (dCnt W (σ.2.1 386) A k + 1))), some (.int (iZ ((10 + (10 * (((k - 8) / 8 : Nat) : Int))) + (((k - 8) % 8 : Nat) : Int)))), some (.int (iZ ((k : Int) + 1))), some (.int (iZ 0))] [] (ms σ2 A F2)
                  refine q_goto (tgt := 7) dX7_doers_108 (by decide) ?_
                  have e1 : dCnt W (σ.2.1 386) A (k + 1) = dCnt W (σ.2.1 386) A k + 1 := by rw [dCnt]; omega
                  have e2 : dFnd W (σ.2.1 386) A (k + 1) = (10 + (10 * (((k - 8) / 8 : Nat) : Int))) + (((k - 8) % 8 : Nat) : Int) := by rw [dFnd, if_pos ⟨by omega, by omega⟩]; unfold dVal; (repeat (first | rw [if_pos (by omega)] | rw [if_neg (by omega)])); (try omega)
                  have k9 := ih (k + 1) σ2 F2 (some (.int (iZ 0))) (by omega) hE3 hF3 (by omega)
                  rw [e1, e2] at k9
                  exact k9
                · exfalso
                  revert c_8
                  decide
            · refine q_goto (tgt := 105) dX7_doers_60 (by decide) ?_
              refine z_iinc dX7_doers_105 rfl (by decide) ?_
              show sE g_tt _ _ _ 108 [some (.ref 384), some (.int (iZ u)), some (.int (iZ (dCnt W (σ.2.1 386) A k))), some (.int (iZ (dFnd W (σ.2.1 386) A k))), some (.int (iZ ((k : Int) + 1))), some (.int (iZ 0))] [] (ms σ2 A F2)
              refine q_goto (tgt := 7) dX7_doers_108 (by decide) ?_
              have e1 : dCnt W (σ.2.1 386) A (k + 1) = dCnt W (σ.2.1 386) A k := by rw [dCnt]; omega
              have e2 : dFnd W (σ.2.1 386) A (k + 1) = dFnd W (σ.2.1 386) A k := by rw [dFnd, if_neg (by omega)]
              have k9 := ih (k + 1) σ2 F2 (some (.int (iZ 0))) (by omega) hE3 hF3 (by omega)
              rw [e1, e2] at k9
              exact k9
          · exfalso
            revert c_5
            decide
        · exfalso
          revert c_4
          decide
      · refine z_iconst dX7_doers_21 ?_
        refine q_goto (tgt := 26) dX7_doers_22 (by decide) ?_
        refine q_istore dX7_doers_26 (by decide) ?_
        show sE g_tt _ _ _ 28 [some (.ref 384), some (.int (iZ u)), some (.int (iZ (dCnt W (σ.2.1 386) A k))), some (.int (iZ (dFnd W (σ.2.1 386) A k))), some (.int (iZ (k : Int))), some (.int (iZ 1))] [] (ms σ1 A F1)
        refine q_aload_n dX7_doers_28 rfl rfl ?_
        refine q_iload dX7_doers_29 rfl ?_
        refine z_if_eq (tgt := 39) dX7_doers_31 (by decide) (by unfold inR at *; omega) (fun c_9 => ?_) (fun c_9 => ?_)
        · exfalso
          revert c_9
          decide
        · refine q_iload dX7_doers_34 rfl ?_
          refine q_goto (tgt := 44) dX7_doers_36 (by decide) ?_
          refine q_iload dX7_doers_44 rfl ?_
          refine z_if_eq (tgt := 53) dX7_doers_46 (by decide) (by unfold inR at *; omega) (fun c_10 => ?_) (fun c_10 => ?_)
          · exfalso
            revert c_10
            decide
          · refine z_iconst dX7_doers_49 ?_
            refine q_goto (tgt := 54) dX7_doers_50 (by decide) ?_
            refine s_callV (ci := 7) (a := 384) (As := [.int (iZ (k : Int)), .int (iZ 1)]) (S := []) dX7_doers_54 okX7_isDoneSo mlX7_423 rfl (by omega) rfl (Nat.le_of_ble_eq_true rfl) (show kd 384 = 7 from rfl) (by decide) rfl (m_isDoneSo (d := d - 1) (c := k) (n := 1) (by omega) (by omega) (by decide) σ1 A F1 ((fS_23 hF1).trans h23) hF1.2 (by rw [hE1.2.1 387 (by decide)]; exact hW) g (by rw [hE1.2.1 386 (by decide)]; exact g2)) (fun v_ σ_ hq => ?_)
            obtain ⟨rfl, σ2, F2, e9, hE2, hF2⟩ := hq
            subst e9
            have hE3 := eqX_tr hE1 hE2
            have hF3 := fS_tr hF1 hF2
            have eB : doneB W (σ1.2.1 386) A 1 k = dnB W (σ.2.1 386) A k := by rw [hE1.2.1 386 (by decide)]; unfold dnB; (repeat (first | rw [if_pos (by omega)] | rw [if_neg (by omega)]))
            refine z_top eB ?_
            have o1 := dnB_01 W (σ.2.1 386) A k
            show sE g_tt _ _ _ 57 [some (.ref 384), some (.int (iZ u)), some (.int (iZ (dCnt W (σ.2.1 386) A k))), some (.int (iZ (dFnd W (σ.2.1 386) A k))), some (.int (iZ (k : Int))), some (.int (iZ 1))] [.int (iZ (dnB W (σ.2.1 386) A k))] (ms σ2 A F2)
            refine z_if_ne (tgt := 63) dX7_doers_57 (by decide) (by unfold inR; omega) (fun c_11 => ?_) (fun c_11 => ?_)
            · refine z_iinc dX7_doers_63 rfl (by decide) ?_
              show sE g_tt _ _ _ 66 [some (.ref 384), some (.int (iZ u)), some (.int (iZ (dCnt W (σ.2.1 386) A k + 1))), some (.int (iZ (dFnd W (σ.2.1 386) A k))), some (.int (iZ (k : Int))), some (.int (iZ 1))] [] (ms σ2 A F2)
              refine q_iload_n dX7_doers_66 rfl rfl ?_
              refine z_iconst dX7_doers_67 ?_
              refine z_icmp_ne (tgt := 105) dX7_doers_68 (by decide) (by unfold inR at *; omega) (by unfold inR at *; omega) (fun c_12 => ?_) (fun c_12 => ?_)
              · refine z_iinc dX7_doers_105 rfl (by decide) ?_
                show sE g_tt _ _ _ 108 [some (.ref 384), some (.int (iZ u)), some (.int (iZ (dCnt W (σ.2.1 386) A k + 1))), some (.int (iZ (dFnd W (σ.2.1 386) A k))), some (.int (iZ ((k : Int) + 1))), some (.int (iZ 1))] [] (ms σ2 A F2)
                refine q_goto (tgt := 7) dX7_doers_108 (by decide) ?_
                have e1 : dCnt W (σ.2.1 386) A (k + 1) = dCnt W (σ.2.1 386) A k + 1 := by rw [dCnt]; omega
                have e2 : dFnd W (σ.2.1 386) A (k + 1) = dFnd W (σ.2.1 386) A k := by rw [dFnd, if_neg (by omega)]
                have k9 := ih (k + 1) σ2 F2 (some (.int (iZ 1))) (by omega) hE3 hF3 (by omega)
                rw [e1, e2] at k9
                exact k9
              · refine q_iload dX7_doers_71 rfl ?_
                refine z_if_eq (tgt := 81) dX7_doers_73 (by decide) (by unfold inR at *; omega) (fun c_13 => ?_) (fun c_13 => ?_)
                · exfalso
                  revert c_13
                  decide
                · refine q_iload dX7_doers_76 rfl ?_
                  refine q_goto (tgt := 104) dX7_doers_78 (by decide) ?_
                  refine q_istore_n dX7_doers_104 rfl (by decide) ?_
                  show sE g_tt _ _ _ 105 [some (.ref 384), some (.int (iZ u)), some (.int (iZ (dCnt W (σ.2.1 386) A k + 1))), some (.int (iZ (k : Int))), some (.int (iZ (k : Int))), some (.int (iZ 1))] [] (ms σ2 A F2)
                  refine z_iinc dX7_doers_105 rfl (by decide) ?_
                  show sE g_tt _ _ _ 108 [some (.ref 384), some (.int (iZ u)), some (.int (iZ (dCnt W (σ.2.1 386) A k + 1))), some (.int (iZ (k : Int))), some (.int (iZ ((k : Int) + 1))), some (.int (iZ 1))] [] (ms σ2 A F2)
                  refine q_goto (tgt := 7) dX7_doers_108 (by decide) ?_
                  have e1 : dCnt W (σ.2.1 386) A (k + 1) = dCnt W (σ.2.1 386) A k + 1 := by rw [dCnt]; omega
                  have e2 : dFnd W (σ.2.1 386) A (k + 1) = (k : Int) := by rw [dFnd, if_pos ⟨by omega, by omega⟩]; unfold dVal; (repeat (first | rw [if_pos (by omega)] | rw [if_neg (by omega)])); (try omega)
                  have k9 := ih (k + 1) σ2 F2 (some (.int (iZ 1))) (by omega) hE3 hF3 (by omega)
                  rw [e1, e2] at k9
                  exact k9
            · refine q_goto (tgt := 105) dX7_doers_60 (by decide) ?_
              refine z_iinc dX7_doers_105 rfl (by decide) ?_
              show sE g_tt _ _ _ 108 [some (.ref 384), some (.int (iZ u)), some (.int (iZ (dCnt W (σ.2.1 386) A k))), some (.int (iZ (dFnd W (σ.2.1 386) A k))), some (.int (iZ ((k : Int) + 1))), some (.int (iZ 1))] [] (ms σ2 A F2)
              refine q_goto (tgt := 7) dX7_doers_108 (by decide) ?_
              have e1 : dCnt W (σ.2.1 386) A (k + 1) = dCnt W (σ.2.1 386) A k := by rw [dCnt]; omega
              have e2 : dFnd W (σ.2.1 386) A (k + 1) = dFnd W (σ.2.1 386) A k := by rw [dFnd, if_neg (by omega)]
              have k9 := ih (k + 1) σ2 F2 (some (.int (iZ 1))) (by omega) hE3 hF3 (by omega)
              rw [e1, e2] at k9
              exact k9
set_option maxHeartbeats 4000000 in
set_option maxRecDepth 100000 in
theorem m_doers {d : Nat} (hd : 11 ≤ d) {u : Int} (hu : u = 0 ∨ u = 1) (σ : gS) (A F : Nat → Int) (h23 : F 23 = 1) (h26 : 0 ≤ F 26) {W : wF} {nt : Int} (hW : wOK (σ.2.1 387) 100000 nt W) (g : gd 98000 nt A) (g2 : gd 98000 nt (imK (σ.2.1 386) A 8)) : sC mX7_doers d [.ref 384, .int (iZ u)] (ms σ A F) (fun r σ' => r = some (.int (iZ (if u = 0 then dCnt W (σ.2.1 386) A 72 else dFnd W (σ.2.1 386) A 72))) ∧ ∃ σ2 F2, σ' = ms σ2 A F2 ∧ eqX σ σ2 ∧ fS F F2) := by
  refine sC_of rfl (Nat.le_of_ble_eq_true rfl) ?_
  show sE g_tt _ _ _ 0 [some (.ref 384), some (.int (iZ u)), none, none, none, none] [] (ms σ A F)
  refine z_iconst dX7_doers_0 ?_
  refine q_istore_n dX7_doers_1 rfl (by decide) ?_
  show sE g_tt _ _ _ 2 [some (.ref 384), some (.int (iZ u)), some (.int (iZ 0)), none, none, none] [] (ms σ A F)
  refine z_iconst dX7_doers_2 ?_
  refine q_istore_n dX7_doers_3 rfl (by decide) ?_
  show sE g_tt _ _ _ 4 [some (.ref 384), some (.int (iZ u)), some (.int (iZ 0)), some (.int (iZ (-1))), none, none] [] (ms σ A F)
  refine z_iconst dX7_doers_4 ?_
  refine q_istore dX7_doers_5 (by decide) ?_
  show sE g_tt _ _ _ 7 [some (.ref 384), some (.int (iZ u)), some (.int (iZ 0)), some (.int (iZ (-1))), some (.int (iZ 0)), none] [] (ms σ A F)
  exact lp_doers hd hu σ A F h23 h26 hW g g2 73 0 σ F _ (by omega) (eqX_rf σ) (fS_rf h26) (by omega)
