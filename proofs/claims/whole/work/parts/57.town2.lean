/-! ===== a town keeps steps, takes them back, is told ===== -/
theorem c_takeS {d s o : Nat} (hd : 1 ≤ d) (hs : kd s = 2) (σ : gS) (ho : kd o = 2) (hne : o ≠ s) : sC mX2_take d [.ref s, .ref o] σ (fun r σ' => r = none ∧ ∃ K' H' E' f', σ' = st σ s K' H' E' (σ.2.1 (s + 4)) f' ∧ (∀ (on : Int) (A : Nat → Int), A 0 ≤ 5 → (¬ on = 0 → A 10 ≤ 30) → trS on σ o A → trR on K' H' E' f' A) ∧ f' 11 = σ.1 s 11) := by
  have h := c_take hd hs σ (σ.2.1 (s + 1)) (σ.2.1 (s + 2)) (σ.2.1 (s + 3)) (σ.2.1 (s + 4)) (σ.1 s) ho hne
  rw [st_id] at h
  exact h
/-- a row of references by name -/
def sTw (σ : gS) (a : Nat) (g : Nat → Option Nat) : gS := (σ.1, σ.2.1, σ.2.2.1, σ.2.2.2.1, va_up σ.2.2.2.2 a g)
theorem sTw_id (σ : gS) (a : Nat) : sTw σ a (σ.2.2.2.2 a) = σ := by
  unfold sTw; rw [va_up_id]
theorem sT_sTw (σ : gS) (a : Nat) (g : Nat → Option Nat) (k : Nat) (z : Option Nat) : sT (sTw σ a g) a k z = sTw σ a (va_up g k z) := by
  unfold sT sTw
  rw [up2_row _ _ _ _ g (va_up_self _ _ _), va_up_up]
theorem sTw_at (σ : gS) (a : Nat) (g : Nat → Option Nat) : (sTw σ a g).2.2.2.2 a = g := va_up_self _ _ _
theorem chg_sTw (σ : gS) (a : Nat) (g : Nat → Option Nat) : chg (fun b => b = a) σ (sTw σ a g) := ⟨fun b q => ⟨rfl, rfl, va_up_ne _ _ q, rfl⟩, rfl⟩
/-- the first places one down -/
def rot (g : Nat → Option Nat) (k : Nat) : Nat → Option Nat := fun i => if i + 1 < k then g (i + 1) else g i
theorem rot_1 (g : Nat → Option Nat) : rot g 1 = g := by
  funext i; unfold rot; rw [if_neg (by omega)]
theorem rot_step (g : Nat → Option Nat) {k : Nat} (hk : 1 ≤ k) : rot g (k + 1) = va_up (rot g k) (k - 1) (g k) := by
  funext i
  by_cases e : i = k - 1
  · subst e; rw [va_up_self]; unfold rot; rw [if_pos (by omega), show k - 1 + 1 = k by omega]
  · rw [va_up_ne _ _ e]; unfold rot
    by_cases q : i + 1 < k
    · rw [if_pos q, if_pos (by omega)]
    · rw [if_neg q, if_neg (by omega)]
set_option maxHeartbeats 4000000 in
set_option maxRecDepth 100000 in
theorem tl_keepStep {d y : Nat} {n : Int} (hd : 2 ≤ d) (σ : gS) (hn : σ.1 1 2 = n) (h0 : 0 ≤ n) (h30 : n < 30) (hT : σ.2.2.2.2 7 (σ.1 1 2).toNat = some y) (hy : kd y = 2) (hy2 : y ≠ 2) (hy1 : 1 < y) (l1 l2 : Option Value) : sE g_tt mX5_keepStep d (fun r σ' => r = none ∧ ∃ K' H' E' f', σ' = sI (st σ y K' H' E' (σ.2.1 (y + 4)) f') 1 2 (n + 1) ∧ (∀ (on : Int) (A : Nat → Int), A 0 ≤ 5 → (¬ on = 0 → A 10 ≤ 30) → trS on σ 2 A → trR on K' H' E' f' A)) 58 [some (.ref 1), l1, l2] [] σ := by
  refine q_aload_n dX5_keepStep_58 rfl rfl ?_
  refine sg5 (kf := 1) (v := .ref 7) dX5_keepStep_59 flX5_18 (show kd 1 = 5 from rfl) (by decide) rfl ?_
  refine q_aload_n dX5_keepStep_62 rfl rfl ?_
  refine sg5 (kf := 2) (v := .int (iZ (σ.1 1 2))) dX5_keepStep_63 flX5_22 (show kd 1 = 5 from rfl) (by decide) rfl ?_
  refine s_aaldS (n := 30) (x := y) dX5_keepStep_66 (show kd 7 = 300000 + 30 from rfl) (by omega) (by omega) (by decide) hT ?_
  refine q_aload_n dX5_keepStep_67 rfl rfl ?_
  refine sg5 (kf := 0) (v := .ref 2) dX5_keepStep_68 flX5_12 (show kd 1 = 5 from rfl) (by decide) rfl ?_
  refine s_callV (ci := 2) (a := y) (As := [.ref 2]) (S := []) dX5_keepStep_71 okX2_take mlX5_45 rfl (by omega) rfl (Nat.le_of_ble_eq_true rfl) hy (by decide) rfl (c_takeS (d := d - 1) (s := y) (o := 2) (by omega) hy σ rfl (by omega)) (fun v_ σ_ hq => ?_)
  obtain ⟨rfl, K2, H2, E2, f2, e9, htr, hm⟩ := hq
  subst e9
  show sE g_tt _ _ _ 74 [some (.ref 1), l1, l2] [] (st σ y K2 H2 E2 (σ.2.1 (y + 4)) f2)
  refine q_aload_n dX5_keepStep_74 rfl rfl ?_
  refine q_dup dX5_keepStep_75 rfl ?_
  refine sg5 (kf := 2) (v := .int (iZ (σ.1 1 2))) dX5_keepStep_76 flX5_22 (show kd 1 = 5 from rfl) (by decide) (by rw [st_o1 _ _ _ _ _ _ (by omega)]; rfl) ?_
  refine z_iconst dX5_keepStep_79 ?_
  refine z_iadd dX5_keepStep_80 ?_
  refine sp5 (kf := 2) dX5_keepStep_81 flX5_22 (show kd 1 = 5 from rfl) (by decide) ?_
  exact s_vret dX5_keepStep_84 rfl ⟨rfl, K2, H2, E2, f2, by rw [hn], htr⟩
set_option maxHeartbeats 4000000 in
set_option maxRecDepth 100000 in
theorem lp_keepStep {d y : Nat} {Q : Option Value → gS → Prop} (σ : gS) (hy : kd y = 2) (π : Nat → Nat) (hπ : ∀ i, i < 30 → σ.2.2.2.2 7 i = some (π i) ∧ kd (π i) = 2) (kc : sE g_tt mX5_keepStep d Q 58 [some (.ref 1), some (.ref y), some (.int (iZ 30))] [] (sI (sTw σ 7 (va_up (rot (σ.2.2.2.2 7) 30) 29 (some y))) 1 2 29)) : ∀ (n : Nat) (k : Nat), 1 ≤ k → k ≤ 30 → 30 - (k : Int) < (n : Int) → sE g_tt mX5_keepStep d Q 18 [some (.ref 1), some (.ref y), some (.int (iZ (k : Int)))] [] (sTw σ 7 (rot (σ.2.2.2.2 7) k)) := by
  intro n
  induction n with
  | zero =>
    intro k hk1 hk hn
    exact absurd hn (by omega)
  | succ n ih =>
    intro k hk1 hk hn
    refine q_iload_n dX5_keepStep_18 rfl rfl ?_
    refine z_bipush dX5_keepStep_19 (by decide +kernel) ?_
    refine z_icmp_ge (tgt := 44) dX5_keepStep_21 (by decide) (by unfold inR at *; omega) (by unfold inR at *; omega) (fun c_1 => ?_) (fun c_1 => ?_)
    · refine q_aload_n dX5_keepStep_44 rfl rfl ?_
      refine sg5 (kf := 1) (v := .ref 7) dX5_keepStep_45 flX5_18 (show kd 1 = 5 from rfl) (by decide) rfl ?_
      refine z_bipush dX5_keepStep_48 (by decide +kernel) ?_
      refine q_aload_n dX5_keepStep_50 rfl rfl ?_
      refine s_aastS (n := 30) dX5_keepStep_51 (show kd 7 = 300000 + 30 from rfl) hy (by omega) (by omega) (by decide) ?_
      refine q_aload_n dX5_keepStep_52 rfl rfl ?_
      refine z_bipush dX5_keepStep_53 (by decide +kernel) ?_
      refine sp5 (kf := 2) dX5_keepStep_55 flX5_22 (show kd 1 = 5 from rfl) (by decide) ?_
      rw [show (k : Int) = 30 by omega]
      refine sE_eq (show (sI (sTw σ 7 (va_up (rot (σ.2.2.2.2 7) 30) 29 (some y))) 1 2 29) = _ from ?_) kc
      rw [show (30 : Nat) = k by omega, sT_sTw]
      rfl
    · refine q_aload_n dX5_keepStep_24 rfl rfl ?_
      refine sg5 (kf := 1) (v := .ref 7) dX5_keepStep_25 flX5_18 (show kd 1 = 5 from rfl) (by decide) rfl ?_
      refine q_iload_n dX5_keepStep_28 rfl rfl ?_
      refine z_iconst dX5_keepStep_29 ?_
      refine z_isub dX5_keepStep_30 ?_
      refine q_aload_n dX5_keepStep_31 rfl rfl ?_
      refine sg5 (kf := 1) (v := .ref 7) dX5_keepStep_32 flX5_18 (show kd 1 = 5 from rfl) (by decide) rfl ?_
      refine q_iload_n dX5_keepStep_35 rfl rfl ?_
      refine s_aaldS (n := 30) (x := π k) dX5_keepStep_36 (show kd 7 = 300000 + 30 from rfl) (by omega) (by omega) (by decide) (by rw [sTw_at]; unfold rot; rw [if_neg (by omega)]; exact (hπ k (by omega)).1) ?_
      refine s_aastS (n := 30) dX5_keepStep_37 (show kd 7 = 300000 + 30 from rfl) (hπ k (by omega)).2 (by omega) (by omega) (by decide) ?_
      refine z_iinc dX5_keepStep_38 rfl (by decide) ?_
      show sE g_tt _ _ _ 41 [some (.ref 1), some (.ref y), some (.int (iZ ((k : Int) + 1)))] [] (sT (sTw σ 7 (rot (σ.2.2.2.2 7) k)) 7 (((k : Int) - 1).toNat) (some (π k)))
      refine q_goto (tgt := 18) dX5_keepStep_41 (by decide) ?_
      refine sE_eq (show (sTw σ 7 (rot (σ.2.2.2.2 7) (k + 1))) = _ from ?_) (ih (k + 1) (by omega) (by omega) (by omega))
      rw [rot_step _ (by omega), sT_sTw, (hπ k (by omega)).1, show ((k : Int) - 1).toNat = k - 1 by omega]
set_option maxHeartbeats 4000000 in
set_option maxRecDepth 100000 in
theorem c_keepStep {d : Nat} (hd : 2 ≤ d) (σ : gS) (π : Nat → Nat) (hπ : ∀ i, i < 30 → σ.2.2.2.2 7 i = some (π i) ∧ 11 ≤ π i ∧ π i + 5 ≤ 161 ∧ kd (π i) = 2) (h0 : 0 ≤ σ.1 1 2) (h30 : σ.1 1 2 ≤ 30) : sC mX5_keepStep d [.ref 1] σ (fun r σ' => r = none ∧ ∃ (y : Nat) (K' H' E' f' : Nat → Int) (g : Nat → Option Nat), σ' = sI (st (sTw σ 7 g) y K' H' E' (σ.2.1 (y + 4)) f') 1 2 ((if σ.1 1 2 = 30 then 29 else σ.1 1 2) + 1) ∧ (∀ (on : Int) (A : Nat → Int), A 0 ≤ 5 → (¬ on = 0 → A 10 ≤ 30) → trS on σ 2 A → trR on K' H' E' f' A) ∧ (if σ.1 1 2 = 30 then (∀ i, i < 29 → g i = some (π (i + 1))) ∧ g 29 = some (π 0) ∧ y = π 0 else (∀ i, i < 30 → g i = some (π i)) ∧ y = π (σ.1 1 2).toNat)) := by
  refine sC_of rfl (Nat.le_of_ble_eq_true rfl) ?_
  show sE g_tt _ _ _ 0 [some (.ref 1), none, none] [] σ
  refine q_aload_n dX5_keepStep_0 rfl rfl ?_
  refine sg5 (kf := 2) (v := .int (iZ (σ.1 1 2))) dX5_keepStep_1 flX5_22 (show kd 1 = 5 from rfl) (by decide) rfl ?_
  refine z_bipush dX5_keepStep_4 (by decide +kernel) ?_
  refine z_icmp_lt (tgt := 58) dX5_keepStep_6 (by decide) (by unfold inR at *; omega) (by unfold inR at *; omega) (fun c_1 => ?_) (fun c_1 => ?_)
  · have e1 : ¬ σ.1 1 2 = 30 := by omega
    have pn := hπ (σ.1 1 2).toNat (by omega)
    refine sE_imp (fun v9 σ9 q => ?_) (tl_keepStep (y := π (σ.1 1 2).toNat) hd σ rfl (by omega) (by omega) pn.1 pn.2.2.2 (by omega) (by omega) _ _)
    obtain ⟨q1, K2, H2, E2, f2, q2, q3⟩ := q
    exact ⟨q1, _, K2, H2, E2, f2, σ.2.2.2.2 7, by rw [q2, if_neg e1, sTw_id], q3, by rw [if_neg e1]; exact ⟨fun i hi => (hπ i hi).1, rfl⟩⟩
  · refine q_aload_n dX5_keepStep_9 rfl rfl ?_
    refine sg5 (kf := 1) (v := .ref 7) dX5_keepStep_10 flX5_18 (show kd 1 = 5 from rfl) (by decide) rfl ?_
    refine z_iconst dX5_keepStep_13 ?_
    refine s_aaldS (n := 30) (x := π 0) dX5_keepStep_14 (show kd 7 = 300000 + 30 from rfl) (by omega) (by omega) (by decide) (hπ 0 (by omega)).1 ?_
    refine q_astore_n dX5_keepStep_15 rfl (by decide) ?_
    show sE g_tt _ _ _ 16 [some (.ref 1), some (.ref (π 0)), none] [] σ
    refine z_iconst dX5_keepStep_16 ?_
    refine q_istore_n dX5_keepStep_17 rfl (by decide) ?_
    show sE g_tt _ _ _ 18 [some (.ref 1), some (.ref (π 0)), some (.int (iZ 1))] [] σ
    have e1 : σ.1 1 2 = 30 := by omega
    refine sE_eq (show sTw σ 7 (rot (σ.2.2.2.2 7) 1) = σ by rw [rot_1, sTw_id]) ?_
    refine lp_keepStep (y := π 0) σ (hπ 0 (by omega)).2.2.2 π (fun i hi => ⟨(hπ i hi).1, (hπ i hi).2.2.2⟩) ?_ 30 1 (by omega) (by omega) (by omega)
    have p0 := hπ 0 (by omega)
    refine sE_imp (fun v9 σ9 q => ?_) (tl_keepStep (y := π 0) (n := 29) hd (sI (sTw σ 7 (va_up (rot (σ.2.2.2.2 7) 30) 29 (some (π 0)))) 1 2 29) (by show up2 σ.1 1 2 29 1 2 = 29; rw [up2_at]) (by omega) (by omega) (by
      show (va_up σ.2.2.2.2 7 (va_up (rot (σ.2.2.2.2 7) 30) 29 (some (π 0)))) 7 (up2 σ.1 1 2 29 1 2).toNat = some (π 0)
      rw [up2_at, va_up_self]
      exact va_up_self _ _ _) p0.2.2.2 (by omega) (by omega) _ _)
    obtain ⟨q1, K2, H2, E2, f2, q2, q3⟩ := q
    refine ⟨q1, π 0, K2, H2, E2, f2, va_up (rot (σ.2.2.2.2 7) 30) 29 (some (π 0)), ?_, fun on A a b c => q3 on A a b (trS_ch (trS_ch c (chg_sTw σ 7 _) (fun a x y => by omega)) (chg_sI _ 1 2 29) (fun a x y => by omega)), ?_⟩
    · rw [q2, if_pos e1]
      have e2 : st (sI (sTw σ 7 (va_up (rot (σ.2.2.2.2 7) 30) 29 (some (π 0)))) 1 2 29) (π 0) K2 H2 E2 (σ.2.1 (π 0 + 4)) f2 = sI (st (sTw σ 7 (va_up (rot (σ.2.2.2.2 7) 30) 29 (some (π 0)))) (π 0) K2 H2 E2 (σ.2.1 (π 0 + 4)) f2) 1 2 29 := by
        unfold st sI sTw
        refine Prod.ext ?_ rfl
        show va_up (up2 σ.1 1 2 29) (π 0) f2 = up2 (va_up σ.1 (π 0) f2) 1 2 29
        unfold up2
        rw [va_up_ne _ _ (by omega), va_up_comm _ _ _ (by omega)]
      show sI (st (sI (sTw σ 7 (va_up (rot (σ.2.2.2.2 7) 30) 29 (some (π 0)))) 1 2 29) (π 0) K2 H2 E2 (σ.2.1 (π 0 + 4)) f2) 1 2 (29 + 1) = _
      rw [e2]
      unfold sI
      refine Prod.ext ?_ rfl
      show up2 (up2 _ 1 2 29) 1 2 _ = up2 _ 1 2 _
      unfold up2
      rw [va_up_self, va_up_up, va_up_up]
    · rw [if_pos e1]
      refine ⟨fun i hi => ?_, va_up_self _ _ _, rfl⟩
      rw [va_up_ne _ _ (by omega)]
      unfold rot
      rw [if_pos (by omega)]
      exact (hπ (i + 1) (by omega)).1
