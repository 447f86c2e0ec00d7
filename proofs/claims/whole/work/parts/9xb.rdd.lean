/-! ===== the class's reader: readInto ===== -/
theorem xk_ne {x : Nat} (h : kd x = 4) : x ≠ 328 ∧ x ≠ 333 ∧ x + 1 ≠ 333 ∧ (x + 5 < 328 ∨ 333 < x) := by have := (kd_tx h).2.2; omega
abbrev riS (σ : gS) (x : Nat) : gS := sI (sI (sI (clS (sT σ 333 3 (some x)) x) 333 0 0) 333 1 (-1)) 333 5 0
abbrev riT (σ : gS) (x : Nat) (t : Int) : gS := sI (riS σ x) 333 6 t
theorem ri_x {σ : gS} {x : Nat} {t : Int} (hx : x ≠ 333) (j : Nat) : (riT σ x t).1 x j = if j = 4 then -1 else if j = 2 then -1 else if j = 10 then 0 else if j = 9 then 0 else if j = 1 then 0 else σ.1 x j := by
  show up2 (up2 (up2 (up2 (up2 (up2 (up2 (up2 (up2 σ.1 x 1 0) x 9 0) x 10 0) x 2 (-1)) x 4 (-1)) 333 0 0) 333 1 (-1)) 333 5 0) 333 6 t x j = _
  rw [up2_ne _ _ _ hx, up2_ne _ _ _ hx, up2_ne _ _ _ hx, up2_ne _ _ _ hx, up2_eq, up2_eq, up2_eq, up2_eq, up2_eq]
  by_cases a4 : j = 4
  · rw [if_pos a4, a4, va_up_self]
  rw [if_neg a4, va_up_ne _ _ a4]
  by_cases a2 : j = 2
  · rw [if_pos a2, a2, va_up_self]
  rw [if_neg a2, va_up_ne _ _ a2]
  by_cases a10 : j = 10
  · rw [if_pos a10, a10, va_up_self]
  rw [if_neg a10, va_up_ne _ _ a10]
  by_cases a9 : j = 9
  · rw [if_pos a9, a9, va_up_self]
  rw [if_neg a9, va_up_ne _ _ a9]
  by_cases a1 : j = 1
  · rw [if_pos a1, a1, va_up_self]
  rw [if_neg a1, va_up_ne _ _ a1]
theorem ri_333 {σ : gS} {x : Nat} {t : Int} (hx : x ≠ 333) : (riT σ x t).1 333 0 = 0 ∧ (riT σ x t).1 333 1 = -1 ∧ (riT σ x t).1 333 4 = σ.1 333 4 ∧ (riT σ x t).1 333 5 = 0 ∧ (riT σ x t).1 333 6 = t := by
  have e : (riT σ x t).1 333 = va_up (va_up (va_up (va_up (σ.1 333) 0 0) 1 (-1)) 5 0) 6 t := by
    show up2 (up2 (up2 (up2 (up2 (up2 (up2 (up2 (up2 σ.1 x 1 0) x 9 0) x 10 0) x 2 (-1)) x 4 (-1)) 333 0 0) 333 1 (-1)) 333 5 0) 333 6 t 333 = _
    have h3 : (333 : Nat) ≠ x := fun z => hx z.symm
    rw [up2_eq, up2_eq, up2_eq, up2_eq, up2_ne _ _ _ h3, up2_ne _ _ _ h3, up2_ne _ _ _ h3, up2_ne _ _ _ h3, up2_ne _ _ _ h3]
  rw [e]
  exact ⟨rfl, rfl, rfl, rfl, rfl⟩
theorem ri_o {σ : gS} {x a : Nat} {t : Int} (hx : a ≠ x) (h3 : a ≠ 333) : (riT σ x t).1 a = σ.1 a := by
  show up2 (up2 (up2 (up2 (up2 (up2 (up2 (up2 (up2 σ.1 x 1 0) x 9 0) x 10 0) x 2 (-1)) x 4 (-1)) 333 0 0) 333 1 (-1)) 333 5 0) 333 6 t a = _
  rw [up2_ne _ _ _ h3, up2_ne _ _ _ h3, up2_ne _ _ _ h3, up2_ne _ _ _ h3, up2_ne _ _ _ hx, up2_ne _ _ _ hx, up2_ne _ _ _ hx, up2_ne _ _ _ hx, up2_ne _ _ _ hx]
theorem ri_T {σ : gS} {x : Nat} {t : Int} (hT : σ.2.2.2.2 333 2 = some 328) : (riT σ x t).2.2.2.2 333 2 = some 328 ∧ (riT σ x t).2.2.2.2 333 3 = some x ∧ ∀ a, a ≠ 333 → (riT σ x t).2.2.2.2 a = σ.2.2.2.2 a := by
  have e : (riT σ x t).2.2.2.2 = up2 σ.2.2.2.2 333 3 (some x) := rfl
  rw [e]
  refine ⟨?_, ?_, fun a h => ?_⟩
  · rw [up2_eq, va_up_ne _ _ (by decide)]; exact hT
  · rw [up2_eq, va_up_self]
  · rw [up2_ne _ _ _ h]
theorem ri_st {σ : gS} {x n : Nat} {tk st nu : Nat → Int} (K : rdK σ x n tk st nu) (hT : σ.2.2.2.2 333 2 = some 328) (hC : ∀ i, i < 300 → 0 ≤ σ.2.1 (x + 1) i ∧ σ.2.1 (x + 1) i ≤ 1000000) : cTI (riT σ x (tk 0)) x n tk st nu (σ.1 333 4) (0, -1, 0, 0, 0, σ.2.1 (x + 1)) [] ∧ chg (txP x) σ (riT σ x (tk 0)) ∧ (riT σ x (tk 0)).1 x 3 = σ.1 x 3 ∧ (riT σ x (tk 0)).1 x 5 = σ.1 x 5 := by
  have hx := xk_ne K.1
  have r := ri_333 (σ := σ) (t := tk 0) hx.2.1
  have T := ri_T (σ := σ) (x := x) (t := tk 0) hT
  have xx := fun j => ri_x (σ := σ) (t := tk 0) hx.2.1 j
  refine ⟨⟨⟨K.1, by rw [ri_o (fun z => hx.1 z.symm) (by decide)]; exact K.2.1, K.2.2⟩, ⟨chg_rf _ _, T.1, T.2.1, r.1, r.2.1, r.2.2.1, r.2.2.2.1, r.2.2.2.2, xx 1, xx 10, rfl, fun _ _ _ => rfl⟩, ⟨by show inR 0; unfold inR; omega, Nat.zero_le _, Nat.zero_le _, hC, fun _ => Nat.le_refl _, Or.inl rfl⟩, rfl, xx 9, Nat.zero_le _, trivial, ⟨fun _ => xx 2, fun z => absurd rfl z⟩, ⟨fun _ => xx 4, fun z => absurd rfl z⟩, fun _ z => absurd rfl z⟩, ?_, xx 3, xx 5⟩
  refine ⟨fun a h => ?_, rfl⟩
  have h1 : a ≠ x := fun z => h (Or.inr (by omega))
  have h2 : a ≠ 333 := fun z => h (Or.inl z)
  exact ⟨ri_o h1 h2, rfl, T.2.2 a h2, rfl⟩
/-- behind readInto; q: fault, token, clauses -/
def riQ (σ : gS) (x n : Nat) (tk st nu : Nat → Int) (q : Int × Nat × List Nat) (σ' : gS) : Prop := chg (txP x) σ σ' ∧ σ'.2.2.2.2 333 2 = some 328 ∧ (σ'.1 333 0 = q.1 ∧ σ'.1 333 1 = if q.1 = 0 then -1 else st q.2.1) ∧ (∀ i, i < 300 → 0 ≤ σ'.2.1 (x + 1) i ∧ σ'.2.1 (x + 1) i ≤ 1000000) ∧ (inR (σ.1 x 3) → inR (σ.1 x 5) → inR (σ'.1 x 3) ∧ inR (σ'.1 x 5)) ∧ (q.1 = 0 → ∃ B so, cTI σ' x n tk st nu so B q.2.2)
set_option maxHeartbeats 4000000 in
set_option maxRecDepth 100000 in
theorem tl_into {d : Nat} {σ σ2 : gS} {x n : Nat} {tk st nu : Nat → Int} {z c : Int} (hz : 0 ≤ z ∧ z ≤ 100) (h0 : σ2.1 333 0 = c) (hc : 0 < c ∧ c ≤ 6) {q : Int × Nat × List Nat} (q0 : ¬ q.1 = 0) (hQ : riQ σ x n tk st nu q σ2) : sE g_tt mX1_readInto d (fun r σ' => r = some (.int (iZ (if q.1 = 0 then 1 else 0))) ∧ riQ σ x n tk st nu q σ') 42 [some (.ref 333), some (.ref x), some (.int (iZ z))] [] σ2 := by
  refine q_iload_n dX1_readInto_42 rfl rfl ?_
  refine z_bipush dX1_readInto_43 (by decide +kernel) ?_
  refine z_icmp_gt (tgt := 74) dX1_readInto_45 (by decide) (by unfold inR; omega) (by unfold inR; omega) (fun c_1 => ?_) (fun c_1 => ?_)
  · refine q_aload_n dX1_readInto_74 rfl rfl ?_
    refine sg1 (kf := 0) (v := .int (iZ c)) dX1_readInto_75 flX1_9 (show kd 333 = 1 from rfl) (by decide) (by show some (Value.int (iZ (σ2.1 333 0))) = _; rw [h0]) ?_
    refine z_if_ne (tgt := 85) dX1_readInto_78 (by decide) (by unfold inR; omega) (fun c_2 => ?_) (fun c_2 => ?_)
    · refine z_iconst dX1_readInto_85 ?_
      exact s_zret dX1_readInto_86 rfl (by omega) ⟨by rw [if_neg q0], hQ⟩
    · exfalso
      omega
  · refine q_aload_n dX1_readInto_48 rfl rfl ?_
    refine sg1 (kf := 0) (v := .int (iZ c)) dX1_readInto_49 flX1_9 (show kd 333 = 1 from rfl) (by decide) (by show some (Value.int (iZ (σ2.1 333 0))) = _; rw [h0]) ?_
    refine z_if_ne (tgt := 74) dX1_readInto_52 (by decide) (by unfold inR; omega) (fun c_3 => ?_) (fun c_3 => ?_)
    · refine q_aload_n dX1_readInto_74 rfl rfl ?_
      refine sg1 (kf := 0) (v := .int (iZ c)) dX1_readInto_75 flX1_9 (show kd 333 = 1 from rfl) (by decide) (by show some (Value.int (iZ (σ2.1 333 0))) = _; rw [h0]) ?_
      refine z_if_ne (tgt := 85) dX1_readInto_78 (by decide) (by unfold inR; omega) (fun c_4 => ?_) (fun c_4 => ?_)
      · refine z_iconst dX1_readInto_85 ?_
        exact s_zret dX1_readInto_86 rfl (by omega) ⟨by rw [if_neg q0], hQ⟩
      · exfalso
        omega
    · exfalso
      omega
set_option maxHeartbeats 4000000 in
set_option maxRecDepth 100000 in
theorem lp_into {d : Nat} (hd : 85 ≤ d) {σ : gS} {x n : Nat} {tk st nu : Nat → Int} (hnu : ∀ k, 0 ≤ nu k ∧ nu k ≤ 10000) : ∀ (f : Nat) (cs : List Nat) (B : rB) (so : Int) (σ1 : gS), cTI σ1 x n tk st nu so B cs → B.2.1 = -1 → n - B.2.2.1 < f → chg (txP x) σ σ1 → (inR (σ.1 x 3) → inR (σ.1 x 5) → inR (σ1.1 x 3) ∧ inR (σ1.1 x 5)) → sE g_tt mX1_readInto d (fun r σ' => r = some (.int (iZ (if (txE tk nu f B.2.2.1 cs).1 = 0 then 1 else 0))) ∧ riQ σ x n tk st nu (txE tk nu f B.2.2.1 cs) σ') 42 [some (.ref 333), some (.ref x), some (.int (iZ ((cs.length : Nat) : Int)))] [] σ1 := by
  intro f
  induction f with
  | zero => intro cs B so σ1 I hpl hf; exact absurd hf (by omega)
  | succ f ih =>
    intro cs B so σ1 I hpl hf hch h35
    have N24 := I.2.2.2.2.2.1
    have hk := I.2.2.1.2.1
    have tkr := kt_r I.1 hk
    refine q_iload_n dX1_readInto_42 rfl rfl ?_
    refine z_bipush dX1_readInto_43 (by decide +kernel) ?_
    refine z_icmp_gt (tgt := 74) dX1_readInto_45 (by decide) (by unfold inR; omega) (by unfold inR; omega) (fun c_01 => ?_) (fun c_01 => ?_)
    · exfalso
      omega
    refine q_aload_n dX1_readInto_48 rfl rfl ?_
    refine sg1 (kf := 0) (v := .int (iZ 0)) dX1_readInto_49 flX1_9 (show kd 333 = 1 from rfl) (by decide) (by show some (Value.int (iZ (σ1.1 333 0))) = _; rw [show σ1.1 333 0 = 0 from (I.2.1.2.2.2.1).trans I.2.2.2.1]) ?_
    refine z_if_ne (tgt := 74) dX1_readInto_52 (by decide) (by unfold inR; omega) (fun c_02 => ?_) (fun c_02 => ?_)
    · exact absurd rfl c_02
    refine q_aload_n dX1_readInto_55 rfl rfl ?_
    refine sg1 (kf := 6) (v := .int (iZ (tk B.2.2.1))) dX1_readInto_56 flX1_25 (show kd 333 = 1 from rfl) (by decide) (by show some (Value.int (iZ (σ1.1 333 6))) = _; rw [show σ1.1 333 6 = tk B.2.2.1 from I.2.1.2.2.2.2.2.2.2.1]) ?_
    refine z_bipush dX1_readInto_59 (by decide +kernel) ?_
    refine z_icmp_eq (tgt := 74) dX1_readInto_61 (by decide) tkr (by unfold inR; omega) (fun c_1 => ?_) (fun c_1 => ?_)
    · refine q_aload_n dX1_readInto_74 rfl rfl ?_
      refine sg1 (kf := 0) (v := .int (iZ 0)) dX1_readInto_75 flX1_9 (show kd 333 = 1 from rfl) (by decide) (by show some (Value.int (iZ (σ1.1 333 0))) = _; rw [show σ1.1 333 0 = 0 from (I.2.1.2.2.2.1).trans I.2.2.2.1]) ?_
      refine z_if_ne (tgt := 85) dX1_readInto_78 (by decide) (by unfold inR; omega) (fun c_2 => ?_) (fun c_2 => ?_)
      · exfalso
        revert c_2
        decide
      · refine z_iconst dX1_readInto_81 ?_
        refine q_goto (tgt := 86) dX1_readInto_82 (by decide) ?_
        exact s_zret dX1_readInto_86 rfl (by omega) (show _ ∧ riQ σ x n tk st nu (txE tk nu (f + 1) B.2.2.1 cs) _ by
          have e : (txE tk nu (f + 1) B.2.2.1 cs) = (0, B.2.2.1, cs) := by rw [txE, if_pos c_1]
          rw [e]
          exact ⟨rfl, hch, I.2.1.2.1, ⟨(I.2.1.2.2.2.1).trans I.2.2.2.1, (I.2.1.2.2.2.2.1).trans hpl⟩, by rw [I.2.1.2.2.2.2.2.2.2.2.2.2.1]; exact I.2.2.1.2.2.2.1, h35, fun _ => ⟨B, so, I⟩⟩)
    · refine q_aload_n dX1_readInto_64 rfl rfl ?_
      refine s_callV (ci := 1) (a := 333) (As := []) (S := []) dX1_readInto_65 okX1_readClause mlX1_47 rfl (by omega) rfl (Nat.le_of_ble_eq_true rfl) (show kd 333 = 1 from rfl) (by decide) rfl (x_readClause (d := d - 1) (by omega) I c_1 hnu) (fun v_ σ_ hq => ?_)
      have hlt : B.2.2.1 < n := k_lt I.1 hk c_1
      have one := one_ok (nu := nu) I.1.2.2.1 I.1.2.2.2.1 (fun k => (hnu k).1) hlt cs
      obtain ⟨rfl, cC, B2, so2, K2, r2, rC, r35, bad, good⟩ := hq
      rename gS => σ2
      show sE g_tt _ _ _ 68 [some (.ref 333), some (.ref x), some (.int (iZ ((cs.length : Nat) : Int)))] [] σ2
      refine z_iinc dX1_readInto_68 rfl (by decide) ?_
      show sE g_tt _ _ _ 71 [some (.ref 333), some (.ref x), some (.int (iZ (((cs.length : Nat) : Int) + 1)))] [] σ2
      refine q_goto (tgt := 42) dX1_readInto_71 (by decide) ?_
      by_cases z : (oneE tk nu B.2.2.1 cs).1 = 0
      · obtain ⟨I2, pl2, k2⟩ := good z
        have e : (txE tk nu (f + 1) B.2.2.1 cs) = txE tk nu f B2.2.2.1 (B.2.2.1 :: cs) := by rw [txE, if_neg c_1, if_pos z, k2]
        rw [e]
        have g := ih (B.2.2.1 :: cs) B2 so2 σ2 I2 (pl2.trans hpl) (by have := one.2.2.2 z; omega) (chg_tr hch cC) (fun a b => r35 (h35 a b).1 (h35 a b).2)
        rw [show (((B.2.2.1 :: cs).length : Nat) : Int) = ((cs.length : Nat) : Int) + 1 by rw [List.length_cons]; omega] at g
        exact g
      · have e : (txE tk nu (f + 1) B.2.2.1 cs) = ((oneE tk nu B.2.2.1 cs).1, (oneE tk nu B.2.2.1 cs).2, cs) := by rw [txE, if_neg c_1, if_neg z]
        have b := bad z
        rw [e]
        refine tl_into (c := (oneE tk nu B.2.2.1 cs).1) (by omega) ((r2.2.2.2.1).trans b.1) (by omega) z ⟨chg_tr hch cC, r2.2.1, ⟨(r2.2.2.2.1).trans b.1, ?_⟩, ?_, fun a b => r35 (h35 a b).1 (h35 a b).2, fun y => absurd y z⟩
        · rw [if_neg (show ¬ ((oneE tk nu B.2.2.1 cs).1, (oneE tk nu B.2.2.1 cs).2, cs).1 = 0 from z)]
          exact (r2.2.2.2.2.1).trans b.2
        · rw [r2.2.2.2.2.2.2.2.2.2.2.1]
          exact rC
set_option maxHeartbeats 4000000 in
set_option maxRecDepth 100000 in
theorem x_readInto {d : Nat} (hd : 85 ≤ d) {σ : gS} {x n : Nat} {tk st nu : Nat → Int} (K : rdK σ x n tk st nu) (hT : σ.2.2.2.2 333 2 = some 328) (hnu : ∀ k, 0 ≤ nu k ∧ nu k ≤ 10000) (hC : ∀ i, i < 300 → 0 ≤ σ.2.1 (x + 1) i ∧ σ.2.1 (x + 1) i ≤ 1000000) : sC mX1_readInto d [.ref 333, .ref x] σ (fun r σ' => r = some (.int (iZ (if (txE tk nu 301 0 []).1 = 0 then 1 else 0))) ∧ riQ σ x n tk st nu (txE tk nu 301 0 []) σ') := by
  have rs := ri_st K hT hC
  have hT2 : (riS σ x).2.2.2.2 333 2 = some 328 := by
    show up2 σ.2.2.2.2 333 3 (some x) 333 2 = _
    rw [up2_eq, va_up_ne _ _ (by decide)]
    exact hT
  have hT0 : (riS σ x).2.1 330 0 = tk 0 := (K.2.2.2.2 0 (Nat.zero_le _)).1
  have hn := K.2.2.1
  refine sC_of rfl (Nat.le_of_ble_eq_true rfl) ?_
  show sE g_tt _ _ _ 0 [some (.ref 333), some (.ref x), none] [] σ
  refine q_aload_n dX1_readInto_0 rfl rfl ?_
  refine q_aload_n dX1_readInto_1 rfl rfl ?_
  refine st1_3 dX1_readInto_2 flX1_32 (show kd 333 = 1 from rfl) ?_
  refine q_aload_n dX1_readInto_5 rfl rfl ?_
  refine sg1 (kf := 3) (v := .ref x) dX1_readInto_6 flX1_32 (show kd 333 = 1 from rfl) (by decide) (by show some (va_rf ((sT σ 333 3 (some x)).2.2.2.2 333 3)) = _; rw [show (sT σ 333 3 (some x)).2.2.2.2 333 3 = some x from up2_at σ.2.2.2.2 333 3 (some x)]; rfl) ?_
  refine s_callV (ci := 4) (a := x) (As := []) (S := []) dX1_readInto_9 okX4_clear mlX1_36 rfl (by omega) rfl (Nat.le_of_ble_eq_true rfl) K.1 (by decide) rfl (x_clear (d := d - 1) K.1 (sT σ 333 3 (some x))) (fun v_ σ_ hq => ?_)
  obtain ⟨rfl, e9⟩ := hq
  have e9 := e9.symm
  subst e9
  show sE g_tt _ _ _ 12 [some (.ref 333), some (.ref x), none] [] (clS (sT σ 333 3 (some x)) x)
  refine q_aload_n dX1_readInto_12 rfl rfl ?_
  refine z_iconst dX1_readInto_13 ?_
  refine sp1 (kf := 0) dX1_readInto_14 flX1_9 (show kd 333 = 1 from rfl) (by decide) ?_
  refine q_aload_n dX1_readInto_17 rfl rfl ?_
  refine z_iconst dX1_readInto_18 ?_
  refine sp1 (kf := 1) dX1_readInto_19 flX1_15 (show kd 333 = 1 from rfl) (by decide) ?_
  refine q_aload_n dX1_readInto_22 rfl rfl ?_
  refine z_iconst dX1_readInto_23 ?_
  refine sp1 (kf := 5) dX1_readInto_24 flX1_22 (show kd 333 = 1 from rfl) (by decide) ?_
  refine q_aload_n dX1_readInto_27 rfl rfl ?_
  refine q_aload_n dX1_readInto_28 rfl rfl ?_
  refine sg1 (kf := 2) (v := .ref 328) dX1_readInto_29 flX1_28 (show kd 333 = 1 from rfl) (by decide) (by show some (va_rf ((riS σ x).2.2.2.2 333 2)) = _; rw [hT2]; rfl) ?_
  refine sg3 (kf := 2) (v := .ref 330) dX1_readInto_32 flX1_41 (show kd 328 = 3 from rfl) (by decide) rfl ?_
  refine z_iconst dX1_readInto_35 ?_
  refine s_iald (n := 301) (x := tk 0) dX1_readInto_36 (show kd 330 = 100 + 301 from rfl) (by omega) (by omega) (by decide) (by exact hT0) ?_
  refine sp1 (kf := 6) dX1_readInto_37 flX1_25 (show kd 333 = 1 from rfl) (by decide) ?_
  refine z_iconst dX1_readInto_40 ?_
  refine q_istore_n dX1_readInto_41 rfl (by decide) ?_
  show sE g_tt _ _ _ 42 [some (.ref 333), some (.ref x), some (.int (iZ 0))] [] (sI (sI (sI (sI (clS (sT σ 333 3 (some x)) x) 333 0 0) 333 1 (-1)) 333 5 0) 333 6 (tk 0))
  exact lp_into hd hnu 301 [] _ _ _ rs.1 rfl (by show n - 0 < 301; omega) rs.2.1 (fun a b => by rw [rs.2.2.1, rs.2.2.2]; exact ⟨a, b⟩)
