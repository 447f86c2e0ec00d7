/-! ===== a town takes another over ===== -/
set_option maxHeartbeats 4000000 in
set_option maxRecDepth 100000 in
theorem tl_takeAll1 {d : Nat} (hd : 1 ≤ d) (σ1 : gS) (l2 : Option Value) : sE g_tt mX5_takeAll d (fun r σ' => r = none ∧ σ' = (sI (sI (sI (sRw (sRw (sRw σ1 8 (va_cpy (σ1.2.1 168) (σ1.2.1 8) 0 0 8)) 9 (va_cpy (σ1.2.1 169) (σ1.2.1 9) 0 0 8)) 10 (va_cpy (σ1.2.1 170) (σ1.2.1 10) 0 0 8)) 1 6 (σ1.1 161 6)) 1 7 (σ1.1 161 7)) 1 8 (σ1.1 161 8))) 56 [some (.ref 1), some (.ref 161), l2] [] σ1 := by
  refine q_aload_n dX5_takeAll_56 rfl rfl ?_
  refine sg5 (kf := 3) (v := .ref 168) dX5_takeAll_57 flX5_26 (show kd 161 = 5 from rfl) (by decide) rfl ?_
  refine z_iconst dX5_takeAll_60 ?_
  refine q_aload_n dX5_takeAll_61 rfl rfl ?_
  refine sg5 (kf := 3) (v := .ref 8) dX5_takeAll_62 flX5_26 (show kd 1 = 5 from rfl) (by decide) rfl ?_
  refine z_iconst dX5_takeAll_65 ?_
  refine z_bipush dX5_takeAll_66 (by decide +kernel) ?_
  refine s_copy (n0 := 8) (n1 := 8) dX5_takeAll_68 mlX5_49 (by omega) (Nat.le_of_ble_eq_true rfl) (show kd 168 = 100 + 8 from rfl) (show kd 8 = 100 + 8 from rfl) (by decide) (by decide) (by omega) (by omega) (by omega) (by omega) (by omega) ?_
  refine q_aload_n dX5_takeAll_71 rfl rfl ?_
  refine sg5 (kf := 4) (v := .ref 169) dX5_takeAll_72 flX5_30 (show kd 161 = 5 from rfl) (by decide) rfl ?_
  refine z_iconst dX5_takeAll_75 ?_
  refine q_aload_n dX5_takeAll_76 rfl rfl ?_
  refine sg5 (kf := 4) (v := .ref 9) dX5_takeAll_77 flX5_30 (show kd 1 = 5 from rfl) (by decide) rfl ?_
  refine z_iconst dX5_takeAll_80 ?_
  refine z_bipush dX5_takeAll_81 (by decide +kernel) ?_
  refine s_copy (n0 := 8) (n1 := 8) dX5_takeAll_83 mlX5_49 (by omega) (Nat.le_of_ble_eq_true rfl) (show kd 169 = 100 + 8 from rfl) (show kd 9 = 100 + 8 from rfl) (by decide) (by decide) (by omega) (by omega) (by omega) (by omega) (by omega) ?_
  refine q_aload_n dX5_takeAll_86 rfl rfl ?_
  refine sg5 (kf := 5) (v := .ref 170) dX5_takeAll_87 flX5_33 (show kd 161 = 5 from rfl) (by decide) rfl ?_
  refine z_iconst dX5_takeAll_90 ?_
  refine q_aload_n dX5_takeAll_91 rfl rfl ?_
  refine sg5 (kf := 5) (v := .ref 10) dX5_takeAll_92 flX5_33 (show kd 1 = 5 from rfl) (by decide) rfl ?_
  refine z_iconst dX5_takeAll_95 ?_
  refine z_bipush dX5_takeAll_96 (by decide +kernel) ?_
  refine s_copy (n0 := 8) (n1 := 8) dX5_takeAll_98 mlX5_49 (by omega) (Nat.le_of_ble_eq_true rfl) (show kd 170 = 100 + 8 from rfl) (show kd 10 = 100 + 8 from rfl) (by decide) (by decide) (by omega) (by omega) (by omega) (by omega) (by omega) ?_
  refine q_aload_n dX5_takeAll_101 rfl rfl ?_
  refine q_aload_n dX5_takeAll_102 rfl rfl ?_
  refine sg5 (kf := 6) (v := .int (iZ (σ1.1 161 6))) dX5_takeAll_103 flX5_36 (show kd 161 = 5 from rfl) (by decide) rfl ?_
  refine sp5 (kf := 6) dX5_takeAll_106 flX5_36 (show kd 1 = 5 from rfl) (by decide) ?_
  refine q_aload_n dX5_takeAll_109 rfl rfl ?_
  refine q_aload_n dX5_takeAll_110 rfl rfl ?_
  refine sg5 (kf := 7) (v := .int (iZ (σ1.1 161 7))) dX5_takeAll_111 flX5_39 (show kd 161 = 5 from rfl) (by decide) rfl ?_
  refine sp5 (kf := 7) dX5_takeAll_114 flX5_39 (show kd 1 = 5 from rfl) (by decide) ?_
  refine q_aload_n dX5_takeAll_117 rfl rfl ?_
  refine q_aload_n dX5_takeAll_118 rfl rfl ?_
  refine sg5 (kf := 8) (v := .int (iZ (σ1.1 161 8))) dX5_takeAll_119 flX5_42 (show kd 161 = 5 from rfl) (by decide) rfl ?_
  refine sp5 (kf := 8) dX5_takeAll_122 flX5_42 (show kd 1 = 5 from rfl) (by decide) ?_
  exact s_vret dX5_takeAll_125 rfl ⟨rfl, rfl⟩
set_option maxHeartbeats 4000000 in
set_option maxRecDepth 100000 in
theorem lp_takeAllB1 {d : Nat} (hd : 2 ≤ d) (σ : gS) (π ρ : Nat → Nat) (hπ : ∀ i, i < 30 → σ.2.2.2.2 7 i = some (π i) ∧ 11 ≤ π i ∧ π i + 5 ≤ 161 ∧ kd (π i) = 2) (hρ : ∀ i, i < 30 → σ.2.2.2.2 167 i = some (ρ i) ∧ 171 ≤ ρ i ∧ ρ i + 5 ≤ 321 ∧ kd (ρ i) = 2) (hin : ∀ i j, i < 30 → j < 30 → π i = π j → i = j) {n : Nat} (hn : n ≤ 30) (A : Nat → Nat → Int) (h05 : ∀ i, i < n → A i 0 ≤ 5 ∧ A i 10 ≤ 30) (hA : ∀ i, i < n → trS 1 σ (ρ i) (A i)) (B : Nat → Int) : ∀ (g : Nat) (k : Nat) (σ1 : gS), k ≤ n → chg (fun a => (1 ≤ a ∧ a < 7) ∨ (11 ≤ a ∧ a < 161)) σ σ1 → σ1.1 1 2 = (n : Int) → (∀ i, i < k → trS 1 σ1 (π i) (A i)) → trS 1 σ1 2 B → (n : Int) - (k : Int) < (g : Int) → sE g_tt mX5_takeAll d (fun r σ' => r = none ∧ ∃ σ1, σ' = (sI (sI (sI (sRw (sRw (sRw σ1 8 (va_cpy (σ1.2.1 168) (σ1.2.1 8) 0 0 8)) 9 (va_cpy (σ1.2.1 169) (σ1.2.1 9) 0 0 8)) 10 (va_cpy (σ1.2.1 170) (σ1.2.1 10) 0 0 8)) 1 6 (σ1.1 161 6)) 1 7 (σ1.1 161 7)) 1 8 (σ1.1 161 8)) ∧ chg (fun a => (1 ≤ a ∧ a < 7) ∨ (11 ≤ a ∧ a < 161)) σ σ1 ∧ σ1.1 1 2 = (n : Int) ∧ (∀ i, i < n → trS 1 σ1 (π i) (A i)) ∧ trS 1 σ1 2 B) 21 [some (.ref 1), some (.ref 161), some (.int (iZ (k : Int)))] [] σ1 := by
  intro g
  induction g with
  | zero =>
    intro k σ1 hk hc1 hn2 hR hB1 hg
    exact absurd hg (by omega)
  | succ g ih =>
    intro k σ1 hk hc1 hn2 hR hB1 hg
    rcases Nat.lt_or_ge k n with hkn | hkn
    · have pk := hπ k (by omega)
      have rk := hρ k (by omega)
      refine q_iload_n dX5_takeAll_21 rfl rfl ?_
      refine q_aload_n dX5_takeAll_22 rfl rfl ?_
      refine sg5 (kf := 2) (v := .int (iZ (n : Int))) dX5_takeAll_23 flX5_22 (show kd 1 = 5 from rfl) (by decide) (by show some (Value.int (iZ (σ1.1 1 2))) = _; rw [hn2]) ?_
      refine z_icmp_ge (tgt := 56) dX5_takeAll_26 (by decide) (by unfold inR at *; omega) (by unfold inR at *; omega) (fun c_1 => ?_) (fun c_1 => ?_)
      · exfalso
        omega
      · refine q_iload_n dX5_takeAll_29 rfl rfl ?_
        refine z_bipush dX5_takeAll_30 (by decide +kernel) ?_
        refine z_icmp_ge (tgt := 56) dX5_takeAll_32 (by decide) (by unfold inR at *; omega) (by unfold inR at *; omega) (fun c_2 => ?_) (fun c_2 => ?_)
        · exfalso
          omega
        · refine q_aload_n dX5_takeAll_35 rfl rfl ?_
          refine sg5 (kf := 1) (v := .ref 7) dX5_takeAll_36 flX5_18 (show kd 1 = 5 from rfl) (by decide) rfl ?_
          refine q_iload_n dX5_takeAll_39 rfl rfl ?_
          refine s_aaldS (n := 30) (x := (π k)) dX5_takeAll_40 (show kd 7 = 300000 + 30 from rfl) (by omega) (by omega) (by decide) (by show σ1.2.2.2.2 7 k = _; rw [(hc1.1 7 (by omega)).2.2.1]; exact pk.1) ?_
          refine q_aload_n dX5_takeAll_41 rfl rfl ?_
          refine sg5 (kf := 1) (v := .ref 167) dX5_takeAll_42 flX5_18 (show kd 161 = 5 from rfl) (by decide) rfl ?_
          refine q_iload_n dX5_takeAll_45 rfl rfl ?_
          refine s_aaldS (n := 30) (x := (ρ k)) dX5_takeAll_46 (show kd 167 = 300000 + 30 from rfl) (by omega) (by omega) (by decide) (by show σ1.2.2.2.2 167 k = _; rw [(hc1.1 167 (by omega)).2.2.1]; exact rk.1) ?_
          refine s_callV (ci := 2) (a := (π k)) (As := [.ref (ρ k)]) (S := []) dX5_takeAll_47 okX2_take mlX5_45 rfl (by omega) rfl (Nat.le_of_ble_eq_true rfl) pk.2.2.2 (by decide) rfl (c_takeS (d := d - 1) (s := π k) (o := ρ k) (by omega) pk.2.2.2 σ1 rk.2.2.2 (by omega)) (fun v_ σ_ hq => ?_)
          obtain ⟨rfl, K2, H2, E2, f2, e9, htr, hm⟩ := hq
          subst e9
          show sE g_tt _ _ _ 50 [some (.ref 1), some (.ref 161), some (.int (iZ (k : Int)))] [] (st σ1 (π k) K2 H2 E2 (σ1.2.1 (π k + 4)) f2)
          refine z_iinc dX5_takeAll_50 rfl (by decide) ?_
          show sE g_tt _ _ _ 53 [some (.ref 1), some (.ref 161), some (.int (iZ ((k : Int) + 1)))] [] (st σ1 (π k) K2 H2 E2 (σ1.2.1 (π k + 4)) f2)
          refine q_goto (tgt := 21) dX5_takeAll_53 (by decide) ?_
          refine ih (k + 1) _ (by omega) (chg_tr hc1 (chg_mono (chg_st _ _ _ _ _ _ _) (fun a q => by omega))) (by rw [st_o1 _ _ _ _ _ _ (by omega)]; exact hn2) (fun i hi => ?_) (trS_ch hB1 (chg_st _ _ _ _ _ _ _) (fun a x y => by omega)) (by omega)
          by_cases e : i = k
          · subst e
            refine trS_st (htr 1 _ (h05 i (by omega)).1 (fun _ => (h05 i (by omega)).2) ?_)
            exact trS_ch (hA i (by omega)) hc1 (fun a x y => by omega)
          · have pi := hπ i (by omega)
            have dd := kd_two pk.2.2.2 pi.2.2.2 (fun z => e (hin _ _ (by omega) (by omega) z))
            exact trS_ch (hR i (by omega)) (chg_st _ _ _ _ _ _ _) (fun a x y => by omega)
    · refine q_iload_n dX5_takeAll_21 rfl rfl ?_
      refine q_aload_n dX5_takeAll_22 rfl rfl ?_
      refine sg5 (kf := 2) (v := .int (iZ (n : Int))) dX5_takeAll_23 flX5_22 (show kd 1 = 5 from rfl) (by decide) (by show some (Value.int (iZ (σ1.1 1 2))) = _; rw [hn2]) ?_
      refine z_icmp_ge (tgt := 56) dX5_takeAll_26 (by decide) (by unfold inR at *; omega) (by unfold inR at *; omega) (fun c_1 => ?_) (fun c_1 => ?_)
      · refine sE_imp (fun v9 σ9 q => ?_) (tl_takeAll1 (by omega) σ1 _)
        exact ⟨q.1, σ1, q.2, hc1, hn2, fun i hi => hR i (by omega), hB1⟩
      · refine q_iload_n dX5_takeAll_29 rfl rfl ?_
        refine z_bipush dX5_takeAll_30 (by decide +kernel) ?_
        refine z_icmp_ge (tgt := 56) dX5_takeAll_32 (by decide) (by unfold inR at *; omega) (by unfold inR at *; omega) (fun c_2 => ?_) (fun c_2 => ?_)
        · refine sE_imp (fun v9 σ9 q => ?_) (tl_takeAll1 (by omega) σ1 _)
          exact ⟨q.1, σ1, q.2, hc1, hn2, fun i hi => hR i (by omega), hB1⟩
        · exfalso
          omega
set_option maxHeartbeats 4000000 in
set_option maxRecDepth 100000 in
theorem c_takeAll1 {d : Nat} (hd : 2 ≤ d) (σ : gS) (π ρ : Nat → Nat) (hπ : ∀ i, i < 30 → σ.2.2.2.2 7 i = some (π i) ∧ 11 ≤ π i ∧ π i + 5 ≤ 161 ∧ kd (π i) = 2) (hρ : ∀ i, i < 30 → σ.2.2.2.2 167 i = some (ρ i) ∧ 171 ≤ ρ i ∧ ρ i + 5 ≤ 321 ∧ kd (ρ i) = 2) (hin : ∀ i j, i < 30 → j < 30 → π i = π j → i = j) {n : Nat} (hn : n ≤ 30) (A : Nat → Nat → Int) (h05 : ∀ i, i < n → A i 0 ≤ 5 ∧ A i 10 ≤ 30) (hA : ∀ i, i < n → trS 1 σ (ρ i) (A i)) (hn2 : σ.1 161 2 = (n : Int)) (B : Nat → Int) (hB5 : B 0 ≤ 5) (hB30 : B 10 ≤ 30) (hB : trS 1 σ 162 B) : sC mX5_takeAll d [.ref 1, .ref 161] σ (fun r σ' => r = none ∧ ∃ σ1, σ' = (sI (sI (sI (sRw (sRw (sRw σ1 8 (va_cpy (σ1.2.1 168) (σ1.2.1 8) 0 0 8)) 9 (va_cpy (σ1.2.1 169) (σ1.2.1 9) 0 0 8)) 10 (va_cpy (σ1.2.1 170) (σ1.2.1 10) 0 0 8)) 1 6 (σ1.1 161 6)) 1 7 (σ1.1 161 7)) 1 8 (σ1.1 161 8)) ∧ chg (fun a => (1 ≤ a ∧ a < 7) ∨ (11 ≤ a ∧ a < 161)) σ σ1 ∧ σ1.1 1 2 = (n : Int) ∧ (∀ i, i < n → trS 1 σ1 (π i) (A i)) ∧ trS 1 σ1 2 B) := by
  refine sC_of rfl (Nat.le_of_ble_eq_true rfl) ?_
  show sE g_tt _ _ _ 0 [some (.ref 1), some (.ref 161), none] [] σ
  refine q_aload_n dX5_takeAll_0 rfl rfl ?_
  refine sg5 (kf := 0) (v := .ref 2) dX5_takeAll_1 flX5_12 (show kd 1 = 5 from rfl) (by decide) rfl ?_
  refine q_aload_n dX5_takeAll_4 rfl rfl ?_
  refine sg5 (kf := 0) (v := .ref 162) dX5_takeAll_5 flX5_12 (show kd 161 = 5 from rfl) (by decide) rfl ?_
  refine s_callV (ci := 2) (a := 2) (As := [.ref 162]) (S := []) dX5_takeAll_8 okX2_take mlX5_45 rfl (by omega) rfl (Nat.le_of_ble_eq_true rfl) (show kd 2 = 2 from rfl) (by decide) rfl (c_takeS (d := d - 1) (s := 2) (o := 162) (by omega) rfl σ rfl (by decide)) (fun v_ σ_ hq => ?_)
  obtain ⟨rfl, K2, H2, E2, f2, e9, htr, hm⟩ := hq
  subst e9
  show sE g_tt _ _ _ 11 [some (.ref 1), some (.ref 161), none] [] (st σ 2 K2 H2 E2 (σ.2.1 (2 + 4)) f2)
  refine q_aload_n dX5_takeAll_11 rfl rfl ?_
  refine q_aload_n dX5_takeAll_12 rfl rfl ?_
  refine sg5 (kf := 2) (v := .int (iZ (σ.1 161 2))) dX5_takeAll_13 flX5_22 (show kd 161 = 5 from rfl) (by decide) (by rw [st_o1 _ _ _ _ _ _ (by decide)]; rfl) ?_
  refine sp5 (kf := 2) dX5_takeAll_16 flX5_22 (show kd 1 = 5 from rfl) (by decide) ?_
  refine z_iconst dX5_takeAll_19 ?_
  refine q_istore_n dX5_takeAll_20 rfl (by decide) ?_
  show sE g_tt _ _ _ 21 [some (.ref 1), some (.ref 161), some (.int (iZ 0))] [] (sI (st σ 2 K2 H2 E2 (σ.2.1 (2 + 4)) f2) 1 2 (σ.1 161 2))
  have cc : chg (fun a => (1 ≤ a ∧ a < 7) ∨ (11 ≤ a ∧ a < 161)) σ (sI (st σ 2 K2 H2 E2 (σ.2.1 (2 + 4)) f2) 1 2 (σ.1 161 2)) := chg_tr (chg_mono (chg_st σ 2 K2 H2 E2 _ f2) (fun a q => by omega)) (chg_mono (chg_sI _ 1 2 _) (fun a q => by omega))
  have tb : trS 1 (sI (st σ 2 K2 H2 E2 (σ.2.1 (2 + 4)) f2) 1 2 (σ.1 161 2)) 2 B := trS_ch (trS_st (htr 1 B hB5 (fun _ => hB30) hB)) (chg_sI _ 1 2 _) (fun a x y => by omega)
  have cz : chg (fun a => 11 ≤ a ∧ a < 161) (sI (st σ 2 K2 H2 E2 (σ.2.1 (2 + 4)) f2) 1 2 (σ.1 161 2)) (sI (st σ 2 K2 H2 E2 (σ.2.1 (2 + 4)) f2) 1 2 (σ.1 161 2)) := chg_rf _ _
  exact lp_takeAllB1 hd σ π ρ hπ hρ hin hn A h05 hA B (n + 1) 0 (sI (st σ 2 K2 H2 E2 (σ.2.1 (2 + 4)) f2) 1 2 (σ.1 161 2)) (by omega) cc (by rw [sI_at, hn2]) (fun i hi => absurd hi (by omega)) tb (by omega)
theorem c_over1 {d : Nat} (hd : 2 ≤ d) (σ : gS) {A A0 : Nat → Int} {c nt : Int} (ok : okR c nt A) (tw : twR σ 161 A) (tw0 : twR σ 1 A0) : sC mX5_takeAll d [.ref 1, .ref 161] σ (fun r σ' => r = none ∧ chg (fun a => 1 ≤ a ∧ a < 161) σ σ' ∧ twR σ' 1 A) := by
  obtain ⟨t1, t2, t3, t4, ρ, hρ, _, hst⟩ := tw
  obtain ⟨_, _, _, _, π, hπ, hin, _⟩ := tw0
  have g := ok.1
  have h3 := ok.2.2.2.1
  have i8 := ok.2.2.2.2.1
  obtain ⟨n, hn⟩ : ∃ n : Nat, A 3 = (n : Int) := ⟨(A 3).toNat, by omega⟩
  refine sC_imp ?_ (c_takeAll1 hd σ π ρ hπ hρ hin (n := n) (by omega) (fun i => ud A i) (fun i hi => ud_05 ok (by omega)) (fun i hi => hst i (by omega)) (by rw [t2.1, hn]) A g.1.2 g.2.2.2.2.1.2 t1)
  rintro r σ' ⟨e1, σ1, e2, c1, n1, hR, hB⟩
  have c2 : chg (fun a => a = 1 ∨ a = 8 ∨ a = 9 ∨ a = 10) σ1 σ' := by
    rw [e2]
    exact chg_tr (chg_mono (chg_sRw _ 8 _) (fun a q => Or.inr (Or.inl q))) (chg_tr (chg_mono (chg_sRw _ 9 _) (fun a q => Or.inr (Or.inr (Or.inl q)))) (chg_tr (chg_mono (chg_sRw _ 10 _) (fun a q => Or.inr (Or.inr (Or.inr q)))) (chg_tr (chg_mono (chg_sI _ 1 6 _) (fun a q => Or.inl q)) (chg_tr (chg_mono (chg_sI _ 1 7 _) (fun a q => Or.inl q)) (chg_mono (chg_sI _ 1 8 _) (fun a q => Or.inl q))))))
  have r7 : ∀ h, h < 8 → σ'.2.1 8 h = σ.2.1 168 h := fun h hh => by
    rw [e2]
    show va_cpy (σ1.2.1 168) (σ1.2.1 8) 0 0 8 h = _
    rw [va_cpy_at _ _ _ hh, (c1.1 168 (by omega)).2.1]
  have r8 : ∀ h, h < 8 → σ'.2.1 9 h = σ.2.1 169 h := fun h hh => by
    rw [e2]
    show va_cpy (σ1.2.1 169) (σ1.2.1 9) 0 0 8 h = _
    rw [va_cpy_at _ _ _ hh, (c1.1 169 (by omega)).2.1]
  have r9 : ∀ h, h < 8 → σ'.2.1 10 h = σ.2.1 170 h := fun h hh => by
    rw [e2]
    show va_cpy (σ1.2.1 170) (σ1.2.1 10) 0 0 8 h = _
    rw [va_cpy_at _ _ _ hh, (c1.1 170 (by omega)).2.1]
  have q1 : σ1.1 161 = σ.1 161 := (c1.1 161 (by omega)).1
  refine ⟨e1, chg_tr (chg_mono c1 (fun a q => by omega)) (chg_mono c2 (fun a q => by omega)), trS_ch hB c2 (fun a x y => by omega), ⟨?_, ?_, ?_, ?_⟩, fun h hh => ?_, fun i hi => ?_, π, fun i hi => ?_, hin, fun i hi => ?_⟩
  · rw [e2]; show σ1.1 1 2 = _; rw [n1, hn]
  · rw [e2]; show σ1.1 161 6 = _; rw [q1]; exact t2.2.1
  · rw [e2]; show σ1.1 161 7 = _; rw [q1]; exact t2.2.2.1
  · rw [e2]; show σ1.1 161 8 = _; rw [q1]; exact t2.2.2.2
  · exact (r7 h hh).trans (t3 h hh)
  · exact ⟨(r8 i (by omega)).trans (t4 i hi).1, (r9 i (by omega)).trans (t4 i hi).2⟩
  · rw [(c2.1 (1 + 6) (by omega)).2.2.1, (c1.1 (1 + 6) (by omega)).2.2.1]; exact hπ i hi
  · have pi := hπ i (by omega)
    exact trS_ch (hR i (by omega)) c2 (fun a x y => by omega)
set_option maxHeartbeats 4000000 in
set_option maxRecDepth 100000 in
theorem tl_takeAll161 {d : Nat} (hd : 1 ≤ d) (σ1 : gS) (l2 : Option Value) : sE g_tt mX5_takeAll d (fun r σ' => r = none ∧ σ' = (sI (sI (sI (sRw (sRw (sRw σ1 168 (va_cpy (σ1.2.1 8) (σ1.2.1 168) 0 0 8)) 169 (va_cpy (σ1.2.1 9) (σ1.2.1 169) 0 0 8)) 170 (va_cpy (σ1.2.1 10) (σ1.2.1 170) 0 0 8)) 161 6 (σ1.1 1 6)) 161 7 (σ1.1 1 7)) 161 8 (σ1.1 1 8))) 56 [some (.ref 161), some (.ref 1), l2] [] σ1 := by
  refine q_aload_n dX5_takeAll_56 rfl rfl ?_
  refine sg5 (kf := 3) (v := .ref 8) dX5_takeAll_57 flX5_26 (show kd 1 = 5 from rfl) (by decide) rfl ?_
  refine z_iconst dX5_takeAll_60 ?_
  refine q_aload_n dX5_takeAll_61 rfl rfl ?_
  refine sg5 (kf := 3) (v := .ref 168) dX5_takeAll_62 flX5_26 (show kd 161 = 5 from rfl) (by decide) rfl ?_
  refine z_iconst dX5_takeAll_65 ?_
  refine z_bipush dX5_takeAll_66 (by decide +kernel) ?_
  refine s_copy (n0 := 8) (n1 := 8) dX5_takeAll_68 mlX5_49 (by omega) (Nat.le_of_ble_eq_true rfl) (show kd 8 = 100 + 8 from rfl) (show kd 168 = 100 + 8 from rfl) (by decide) (by decide) (by omega) (by omega) (by omega) (by omega) (by omega) ?_
  refine q_aload_n dX5_takeAll_71 rfl rfl ?_
  refine sg5 (kf := 4) (v := .ref 9) dX5_takeAll_72 flX5_30 (show kd 1 = 5 from rfl) (by decide) rfl ?_
  refine z_iconst dX5_takeAll_75 ?_
  refine q_aload_n dX5_takeAll_76 rfl rfl ?_
  refine sg5 (kf := 4) (v := .ref 169) dX5_takeAll_77 flX5_30 (show kd 161 = 5 from rfl) (by decide) rfl ?_
  refine z_iconst dX5_takeAll_80 ?_
  refine z_bipush dX5_takeAll_81 (by decide +kernel) ?_
  refine s_copy (n0 := 8) (n1 := 8) dX5_takeAll_83 mlX5_49 (by omega) (Nat.le_of_ble_eq_true rfl) (show kd 9 = 100 + 8 from rfl) (show kd 169 = 100 + 8 from rfl) (by decide) (by decide) (by omega) (by omega) (by omega) (by omega) (by omega) ?_
  refine q_aload_n dX5_takeAll_86 rfl rfl ?_
  refine sg5 (kf := 5) (v := .ref 10) dX5_takeAll_87 flX5_33 (show kd 1 = 5 from rfl) (by decide) rfl ?_
  refine z_iconst dX5_takeAll_90 ?_
  refine q_aload_n dX5_takeAll_91 rfl rfl ?_
  refine sg5 (kf := 5) (v := .ref 170) dX5_takeAll_92 flX5_33 (show kd 161 = 5 from rfl) (by decide) rfl ?_
  refine z_iconst dX5_takeAll_95 ?_
  refine z_bipush dX5_takeAll_96 (by decide +kernel) ?_
  refine s_copy (n0 := 8) (n1 := 8) dX5_takeAll_98 mlX5_49 (by omega) (Nat.le_of_ble_eq_true rfl) (show kd 10 = 100 + 8 from rfl) (show kd 170 = 100 + 8 from rfl) (by decide) (by decide) (by omega) (by omega) (by omega) (by omega) (by omega) ?_
  refine q_aload_n dX5_takeAll_101 rfl rfl ?_
  refine q_aload_n dX5_takeAll_102 rfl rfl ?_
  refine sg5 (kf := 6) (v := .int (iZ (σ1.1 1 6))) dX5_takeAll_103 flX5_36 (show kd 1 = 5 from rfl) (by decide) rfl ?_
  refine sp5 (kf := 6) dX5_takeAll_106 flX5_36 (show kd 161 = 5 from rfl) (by decide) ?_
  refine q_aload_n dX5_takeAll_109 rfl rfl ?_
  refine q_aload_n dX5_takeAll_110 rfl rfl ?_
  refine sg5 (kf := 7) (v := .int (iZ (σ1.1 1 7))) dX5_takeAll_111 flX5_39 (show kd 1 = 5 from rfl) (by decide) rfl ?_
  refine sp5 (kf := 7) dX5_takeAll_114 flX5_39 (show kd 161 = 5 from rfl) (by decide) ?_
  refine q_aload_n dX5_takeAll_117 rfl rfl ?_
  refine q_aload_n dX5_takeAll_118 rfl rfl ?_
  refine sg5 (kf := 8) (v := .int (iZ (σ1.1 1 8))) dX5_takeAll_119 flX5_42 (show kd 1 = 5 from rfl) (by decide) rfl ?_
  refine sp5 (kf := 8) dX5_takeAll_122 flX5_42 (show kd 161 = 5 from rfl) (by decide) ?_
  exact s_vret dX5_takeAll_125 rfl ⟨rfl, rfl⟩
set_option maxHeartbeats 4000000 in
set_option maxRecDepth 100000 in
theorem lp_takeAllB161 {d : Nat} (hd : 2 ≤ d) (σ : gS) (π ρ : Nat → Nat) (hπ : ∀ i, i < 30 → σ.2.2.2.2 167 i = some (π i) ∧ 171 ≤ π i ∧ π i + 5 ≤ 321 ∧ kd (π i) = 2) (hρ : ∀ i, i < 30 → σ.2.2.2.2 7 i = some (ρ i) ∧ 11 ≤ ρ i ∧ ρ i + 5 ≤ 161 ∧ kd (ρ i) = 2) (hin : ∀ i j, i < 30 → j < 30 → π i = π j → i = j) {n : Nat} (hn : n ≤ 30) (A : Nat → Nat → Int) (h05 : ∀ i, i < n → A i 0 ≤ 5 ∧ A i 10 ≤ 30) (hA : ∀ i, i < n → trS 1 σ (ρ i) (A i)) (B : Nat → Int) : ∀ (g : Nat) (k : Nat) (σ1 : gS), k ≤ n → chg (fun a => (161 ≤ a ∧ a < 167) ∨ (171 ≤ a ∧ a < 321)) σ σ1 → σ1.1 161 2 = (n : Int) → (∀ i, i < k → trS 1 σ1 (π i) (A i)) → trS 1 σ1 162 B → (n : Int) - (k : Int) < (g : Int) → sE g_tt mX5_takeAll d (fun r σ' => r = none ∧ ∃ σ1, σ' = (sI (sI (sI (sRw (sRw (sRw σ1 168 (va_cpy (σ1.2.1 8) (σ1.2.1 168) 0 0 8)) 169 (va_cpy (σ1.2.1 9) (σ1.2.1 169) 0 0 8)) 170 (va_cpy (σ1.2.1 10) (σ1.2.1 170) 0 0 8)) 161 6 (σ1.1 1 6)) 161 7 (σ1.1 1 7)) 161 8 (σ1.1 1 8)) ∧ chg (fun a => (161 ≤ a ∧ a < 167) ∨ (171 ≤ a ∧ a < 321)) σ σ1 ∧ σ1.1 161 2 = (n : Int) ∧ (∀ i, i < n → trS 1 σ1 (π i) (A i)) ∧ trS 1 σ1 162 B) 21 [some (.ref 161), some (.ref 1), some (.int (iZ (k : Int)))] [] σ1 := by
  intro g
  induction g with
  | zero =>
    intro k σ1 hk hc1 hn2 hR hB1 hg
    exact absurd hg (by omega)
  | succ g ih =>
    intro k σ1 hk hc1 hn2 hR hB1 hg
    rcases Nat.lt_or_ge k n with hkn | hkn
    · have pk := hπ k (by omega)
      have rk := hρ k (by omega)
      refine q_iload_n dX5_takeAll_21 rfl rfl ?_
      refine q_aload_n dX5_takeAll_22 rfl rfl ?_
      refine sg5 (kf := 2) (v := .int (iZ (n : Int))) dX5_takeAll_23 flX5_22 (show kd 161 = 5 from rfl) (by decide) (by show some (Value.int (iZ (σ1.1 161 2))) = _; rw [hn2]) ?_
      refine z_icmp_ge (tgt := 56) dX5_takeAll_26 (by decide) (by unfold inR at *; omega) (by unfold inR at *; omega) (fun c_1 => ?_) (fun c_1 => ?_)
      · exfalso
        omega
      · refine q_iload_n dX5_takeAll_29 rfl rfl ?_
        refine z_bipush dX5_takeAll_30 (by decide +kernel) ?_
        refine z_icmp_ge (tgt := 56) dX5_takeAll_32 (by decide) (by unfold inR at *; omega) (by unfold inR at *; omega) (fun c_2 => ?_) (fun c_2 => ?_)
        · exfalso
          omega
        · refine q_aload_n dX5_takeAll_35 rfl rfl ?_
          refine sg5 (kf := 1) (v := .ref 167) dX5_takeAll_36 flX5_18 (show kd 161 = 5 from rfl) (by decide) rfl ?_
          refine q_iload_n dX5_takeAll_39 rfl rfl ?_
          refine s_aaldS (n := 30) (x := (π k)) dX5_takeAll_40 (show kd 167 = 300000 + 30 from rfl) (by omega) (by omega) (by decide) (by show σ1.2.2.2.2 167 k = _; rw [(hc1.1 167 (by omega)).2.2.1]; exact pk.1) ?_
          refine q_aload_n dX5_takeAll_41 rfl rfl ?_
          refine sg5 (kf := 1) (v := .ref 7) dX5_takeAll_42 flX5_18 (show kd 1 = 5 from rfl) (by decide) rfl ?_
          refine q_iload_n dX5_takeAll_45 rfl rfl ?_
          refine s_aaldS (n := 30) (x := (ρ k)) dX5_takeAll_46 (show kd 7 = 300000 + 30 from rfl) (by omega) (by omega) (by decide) (by show σ1.2.2.2.2 7 k = _; rw [(hc1.1 7 (by omega)).2.2.1]; exact rk.1) ?_
          refine s_callV (ci := 2) (a := (π k)) (As := [.ref (ρ k)]) (S := []) dX5_takeAll_47 okX2_take mlX5_45 rfl (by omega) rfl (Nat.le_of_ble_eq_true rfl) pk.2.2.2 (by decide) rfl (c_takeS (d := d - 1) (s := π k) (o := ρ k) (by omega) pk.2.2.2 σ1 rk.2.2.2 (by omega)) (fun v_ σ_ hq => ?_)
          obtain ⟨rfl, K2, H2, E2, f2, e9, htr, hm⟩ := hq
          subst e9
          show sE g_tt _ _ _ 50 [some (.ref 161), some (.ref 1), some (.int (iZ (k : Int)))] [] (st σ1 (π k) K2 H2 E2 (σ1.2.1 (π k + 4)) f2)
          refine z_iinc dX5_takeAll_50 rfl (by decide) ?_
          show sE g_tt _ _ _ 53 [some (.ref 161), some (.ref 1), some (.int (iZ ((k : Int) + 1)))] [] (st σ1 (π k) K2 H2 E2 (σ1.2.1 (π k + 4)) f2)
          refine q_goto (tgt := 21) dX5_takeAll_53 (by decide) ?_
          refine ih (k + 1) _ (by omega) (chg_tr hc1 (chg_mono (chg_st _ _ _ _ _ _ _) (fun a q => by omega))) (by rw [st_o1 _ _ _ _ _ _ (by omega)]; exact hn2) (fun i hi => ?_) (trS_ch hB1 (chg_st _ _ _ _ _ _ _) (fun a x y => by omega)) (by omega)
          by_cases e : i = k
          · subst e
            refine trS_st (htr 1 _ (h05 i (by omega)).1 (fun _ => (h05 i (by omega)).2) ?_)
            exact trS_ch (hA i (by omega)) hc1 (fun a x y => by omega)
          · have pi := hπ i (by omega)
            have dd := kd_two pk.2.2.2 pi.2.2.2 (fun z => e (hin _ _ (by omega) (by omega) z))
            exact trS_ch (hR i (by omega)) (chg_st _ _ _ _ _ _ _) (fun a x y => by omega)
    · refine q_iload_n dX5_takeAll_21 rfl rfl ?_
      refine q_aload_n dX5_takeAll_22 rfl rfl ?_
      refine sg5 (kf := 2) (v := .int (iZ (n : Int))) dX5_takeAll_23 flX5_22 (show kd 161 = 5 from rfl) (by decide) (by show some (Value.int (iZ (σ1.1 161 2))) = _; rw [hn2]) ?_
      refine z_icmp_ge (tgt := 56) dX5_takeAll_26 (by decide) (by unfold inR at *; omega) (by unfold inR at *; omega) (fun c_1 => ?_) (fun c_1 => ?_)
      · refine sE_imp (fun v9 σ9 q => ?_) (tl_takeAll161 (by omega) σ1 _)
        exact ⟨q.1, σ1, q.2, hc1, hn2, fun i hi => hR i (by omega), hB1⟩
      · refine q_iload_n dX5_takeAll_29 rfl rfl ?_
        refine z_bipush dX5_takeAll_30 (by decide +kernel) ?_
        refine z_icmp_ge (tgt := 56) dX5_takeAll_32 (by decide) (by unfold inR at *; omega) (by unfold inR at *; omega) (fun c_2 => ?_) (fun c_2 => ?_)
        · refine sE_imp (fun v9 σ9 q => ?_) (tl_takeAll161 (by omega) σ1 _)
          exact ⟨q.1, σ1, q.2, hc1, hn2, fun i hi => hR i (by omega), hB1⟩
        · exfalso
          omega
set_option maxHeartbeats 4000000 in
set_option maxRecDepth 100000 in
theorem c_takeAll161 {d : Nat} (hd : 2 ≤ d) (σ : gS) (π ρ : Nat → Nat) (hπ : ∀ i, i < 30 → σ.2.2.2.2 167 i = some (π i) ∧ 171 ≤ π i ∧ π i + 5 ≤ 321 ∧ kd (π i) = 2) (hρ : ∀ i, i < 30 → σ.2.2.2.2 7 i = some (ρ i) ∧ 11 ≤ ρ i ∧ ρ i + 5 ≤ 161 ∧ kd (ρ i) = 2) (hin : ∀ i j, i < 30 → j < 30 → π i = π j → i = j) {n : Nat} (hn : n ≤ 30) (A : Nat → Nat → Int) (h05 : ∀ i, i < n → A i 0 ≤ 5 ∧ A i 10 ≤ 30) (hA : ∀ i, i < n → trS 1 σ (ρ i) (A i)) (hn2 : σ.1 1 2 = (n : Int)) (B : Nat → Int) (hB5 : B 0 ≤ 5) (hB30 : B 10 ≤ 30) (hB : trS 1 σ 2 B) : sC mX5_takeAll d [.ref 161, .ref 1] σ (fun r σ' => r = none ∧ ∃ σ1, σ' = (sI (sI (sI (sRw (sRw (sRw σ1 168 (va_cpy (σ1.2.1 8) (σ1.2.1 168) 0 0 8)) 169 (va_cpy (σ1.2.1 9) (σ1.2.1 169) 0 0 8)) 170 (va_cpy (σ1.2.1 10) (σ1.2.1 170) 0 0 8)) 161 6 (σ1.1 1 6)) 161 7 (σ1.1 1 7)) 161 8 (σ1.1 1 8)) ∧ chg (fun a => (161 ≤ a ∧ a < 167) ∨ (171 ≤ a ∧ a < 321)) σ σ1 ∧ σ1.1 161 2 = (n : Int) ∧ (∀ i, i < n → trS 1 σ1 (π i) (A i)) ∧ trS 1 σ1 162 B) := by
  refine sC_of rfl (Nat.le_of_ble_eq_true rfl) ?_
  show sE g_tt _ _ _ 0 [some (.ref 161), some (.ref 1), none] [] σ
  refine q_aload_n dX5_takeAll_0 rfl rfl ?_
  refine sg5 (kf := 0) (v := .ref 162) dX5_takeAll_1 flX5_12 (show kd 161 = 5 from rfl) (by decide) rfl ?_
  refine q_aload_n dX5_takeAll_4 rfl rfl ?_
  refine sg5 (kf := 0) (v := .ref 2) dX5_takeAll_5 flX5_12 (show kd 1 = 5 from rfl) (by decide) rfl ?_
  refine s_callV (ci := 2) (a := 162) (As := [.ref 2]) (S := []) dX5_takeAll_8 okX2_take mlX5_45 rfl (by omega) rfl (Nat.le_of_ble_eq_true rfl) (show kd 162 = 2 from rfl) (by decide) rfl (c_takeS (d := d - 1) (s := 162) (o := 2) (by omega) rfl σ rfl (by decide)) (fun v_ σ_ hq => ?_)
  obtain ⟨rfl, K2, H2, E2, f2, e9, htr, hm⟩ := hq
  subst e9
  show sE g_tt _ _ _ 11 [some (.ref 161), some (.ref 1), none] [] (st σ 162 K2 H2 E2 (σ.2.1 (162 + 4)) f2)
  refine q_aload_n dX5_takeAll_11 rfl rfl ?_
  refine q_aload_n dX5_takeAll_12 rfl rfl ?_
  refine sg5 (kf := 2) (v := .int (iZ (σ.1 1 2))) dX5_takeAll_13 flX5_22 (show kd 1 = 5 from rfl) (by decide) (by rw [st_o1 _ _ _ _ _ _ (by decide)]; rfl) ?_
  refine sp5 (kf := 2) dX5_takeAll_16 flX5_22 (show kd 161 = 5 from rfl) (by decide) ?_
  refine z_iconst dX5_takeAll_19 ?_
  refine q_istore_n dX5_takeAll_20 rfl (by decide) ?_
  show sE g_tt _ _ _ 21 [some (.ref 161), some (.ref 1), some (.int (iZ 0))] [] (sI (st σ 162 K2 H2 E2 (σ.2.1 (162 + 4)) f2) 161 2 (σ.1 1 2))
  have cc : chg (fun a => (161 ≤ a ∧ a < 167) ∨ (171 ≤ a ∧ a < 321)) σ (sI (st σ 162 K2 H2 E2 (σ.2.1 (162 + 4)) f2) 161 2 (σ.1 1 2)) := chg_tr (chg_mono (chg_st σ 162 K2 H2 E2 _ f2) (fun a q => by omega)) (chg_mono (chg_sI _ 161 2 _) (fun a q => by omega))
  have tb : trS 1 (sI (st σ 162 K2 H2 E2 (σ.2.1 (162 + 4)) f2) 161 2 (σ.1 1 2)) 162 B := trS_ch (trS_st (htr 1 B hB5 (fun _ => hB30) hB)) (chg_sI _ 161 2 _) (fun a x y => by omega)
  have cz : chg (fun a => 171 ≤ a ∧ a < 321) (sI (st σ 162 K2 H2 E2 (σ.2.1 (162 + 4)) f2) 161 2 (σ.1 1 2)) (sI (st σ 162 K2 H2 E2 (σ.2.1 (162 + 4)) f2) 161 2 (σ.1 1 2)) := chg_rf _ _
  exact lp_takeAllB161 hd σ π ρ hπ hρ hin hn A h05 hA B (n + 1) 0 (sI (st σ 162 K2 H2 E2 (σ.2.1 (162 + 4)) f2) 161 2 (σ.1 1 2)) (by omega) cc (by rw [sI_at, hn2]) (fun i hi => absurd hi (by omega)) tb (by omega)
theorem c_over161 {d : Nat} (hd : 2 ≤ d) (σ : gS) {A A0 : Nat → Int} {c nt : Int} (ok : okR c nt A) (tw : twR σ 1 A) (tw0 : twR σ 161 A0) : sC mX5_takeAll d [.ref 161, .ref 1] σ (fun r σ' => r = none ∧ chg (fun a => 161 ≤ a ∧ a < 321) σ σ' ∧ twR σ' 161 A) := by
  obtain ⟨t1, t2, t3, t4, ρ, hρ, _, hst⟩ := tw
  obtain ⟨_, _, _, _, π, hπ, hin, _⟩ := tw0
  have g := ok.1
  have h3 := ok.2.2.2.1
  have i8 := ok.2.2.2.2.1
  obtain ⟨n, hn⟩ : ∃ n : Nat, A 3 = (n : Int) := ⟨(A 3).toNat, by omega⟩
  refine sC_imp ?_ (c_takeAll161 hd σ π ρ hπ hρ hin (n := n) (by omega) (fun i => ud A i) (fun i hi => ud_05 ok (by omega)) (fun i hi => hst i (by omega)) (by rw [t2.1, hn]) A g.1.2 g.2.2.2.2.1.2 t1)
  rintro r σ' ⟨e1, σ1, e2, c1, n1, hR, hB⟩
  have c2 : chg (fun a => a = 161 ∨ a = 168 ∨ a = 169 ∨ a = 170) σ1 σ' := by
    rw [e2]
    exact chg_tr (chg_mono (chg_sRw _ 168 _) (fun a q => Or.inr (Or.inl q))) (chg_tr (chg_mono (chg_sRw _ 169 _) (fun a q => Or.inr (Or.inr (Or.inl q)))) (chg_tr (chg_mono (chg_sRw _ 170 _) (fun a q => Or.inr (Or.inr (Or.inr q)))) (chg_tr (chg_mono (chg_sI _ 161 6 _) (fun a q => Or.inl q)) (chg_tr (chg_mono (chg_sI _ 161 7 _) (fun a q => Or.inl q)) (chg_mono (chg_sI _ 161 8 _) (fun a q => Or.inl q))))))
  have r7 : ∀ h, h < 8 → σ'.2.1 168 h = σ.2.1 8 h := fun h hh => by
    rw [e2]
    show va_cpy (σ1.2.1 8) (σ1.2.1 168) 0 0 8 h = _
    rw [va_cpy_at _ _ _ hh, (c1.1 8 (by omega)).2.1]
  have r8 : ∀ h, h < 8 → σ'.2.1 169 h = σ.2.1 9 h := fun h hh => by
    rw [e2]
    show va_cpy (σ1.2.1 9) (σ1.2.1 169) 0 0 8 h = _
    rw [va_cpy_at _ _ _ hh, (c1.1 9 (by omega)).2.1]
  have r9 : ∀ h, h < 8 → σ'.2.1 170 h = σ.2.1 10 h := fun h hh => by
    rw [e2]
    show va_cpy (σ1.2.1 10) (σ1.2.1 170) 0 0 8 h = _
    rw [va_cpy_at _ _ _ hh, (c1.1 10 (by omega)).2.1]
  have q1 : σ1.1 1 = σ.1 1 := (c1.1 1 (by omega)).1
  refine ⟨e1, chg_tr (chg_mono c1 (fun a q => by omega)) (chg_mono c2 (fun a q => by omega)), trS_ch hB c2 (fun a x y => by omega), ⟨?_, ?_, ?_, ?_⟩, fun h hh => ?_, fun i hi => ?_, π, fun i hi => ?_, hin, fun i hi => ?_⟩
  · rw [e2]; show σ1.1 161 2 = _; rw [n1, hn]
  · rw [e2]; show σ1.1 1 6 = _; rw [q1]; exact t2.2.1
  · rw [e2]; show σ1.1 1 7 = _; rw [q1]; exact t2.2.2.1
  · rw [e2]; show σ1.1 1 8 = _; rw [q1]; exact t2.2.2.2
  · exact (r7 h hh).trans (t3 h hh)
  · exact ⟨(r8 i (by omega)).trans (t4 i hi).1, (r9 i (by omega)).trans (t4 i hi).2⟩
  · rw [(c2.1 (161 + 6) (by omega)).2.2.1, (c1.1 (161 + 6) (by omega)).2.2.1]; exact hπ i hi
  · have pi := hπ i (by omega)
    exact trS_ch (hR i (by omega)) c2 (fun a x y => by omega)
