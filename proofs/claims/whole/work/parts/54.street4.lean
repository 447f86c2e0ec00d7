/-! ===== streets asked, taken over ===== -/
theorem va_cpy_at (f g : Nat → Int) (n : Nat) {i : Nat} (h : i < n) : va_cpy f g 0 0 n i = f i := by
  unfold va_cpy
  rw [if_pos (by omega), show 0 + (i - 0) = i by omega]
theorem kd_two {s p : Nat} (hs : kd s = 2) (hp : kd p = 2) (h : p ≠ s) : p + 4 < s ∨ s + 4 < p := by
  have a : ∀ x, x < 398 → kd x = 2 → x = 2 ∨ x = 162 ∨ (11 ≤ x ∧ x < 161 ∧ x % 5 = 1) ∨ (171 ≤ x ∧ x < 321 ∧ x % 5 = 1) ∨ (364 ≤ x ∧ x < 384 ∧ x % 5 = 4) := by decide +kernel
  have b := a s (kd_lt hs (by decide)) hs
  have c := a p (kd_lt hp (by decide)) hp
  omega
set_option maxHeartbeats 4000000 in
set_option maxRecDepth 100000 in
theorem c_take {d s o : Nat} (hd : 1 ≤ d) (hs : kd s = 2) (σ : gS) (K H E N f : Nat → Int) (ho : kd o = 2) (hne : o ≠ s) : sC mX2_take d [.ref s, .ref o] (st σ s K H E N f) (fun r σ' => r = none ∧ ∃ K' H' E' f', σ' = st σ s K' H' E' N f' ∧ (∀ (on : Int) (A : Nat → Int), A 0 ≤ 5 → (¬ on = 0 → A 10 ≤ 30) → trR on (σ.2.1 (o + 1)) (σ.2.1 (o + 2)) (σ.2.1 (o + 3)) (σ.1 o) A → trR on K' H' E' f' A) ∧ f' 11 = f 11) := by
  have hdd := kd_two hs ho hne
  refine sC_of rfl (Nat.le_of_ble_eq_true rfl) ?_
  show sE g_tt _ _ _ 0 [some (.ref s), some (.ref o)] [] (st σ s K H E N f)
  refine q_aload_n dX2_take_0 rfl rfl ?_
  refine sg2 (kf := 0) (v := .ref (o + 1)) dX2_take_1 flX2_9 ho (by decide) rfl ?_
  refine z_iconst dX2_take_4 ?_
  refine q_aload_n dX2_take_5 rfl rfl ?_
  refine sg2 (kf := 0) (v := .ref (s + 1)) dX2_take_6 flX2_9 hs (by decide) rfl ?_
  refine z_iconst dX2_take_9 ?_
  refine z_bipush dX2_take_10 (by decide +kernel) ?_
  refine s_copy (n0 := 8) (n1 := 8) dX2_take_12 mlX2_49 (by omega) (Nat.le_of_ble_eq_true rfl) (kd_st ho).1 (kd_st hs).1 (by decide) (by decide) (by omega) (by omega) (by omega) (by omega) (by omega) ?_
  rw [st_K, st_wK, st_o2 _ _ _ _ _ _ (show o + 1 < s + 1 ∨ s + 4 < o + 1 by omega)]
  show sE g_tt _ _ _ 15 [some (.ref s), some (.ref o)] [] (st σ s (va_cpy (σ.2.1 (o + 1)) K 0 0 8) H E N f)
  refine q_aload_n dX2_take_15 rfl rfl ?_
  refine sg2 (kf := 1) (v := .ref (o + 2)) dX2_take_16 flX2_15 ho (by decide) rfl ?_
  refine z_iconst dX2_take_19 ?_
  refine q_aload_n dX2_take_20 rfl rfl ?_
  refine sg2 (kf := 1) (v := .ref (s + 2)) dX2_take_21 flX2_15 hs (by decide) rfl ?_
  refine z_iconst dX2_take_24 ?_
  refine z_iconst dX2_take_25 ?_
  refine s_copy (n0 := 5) (n1 := 5) dX2_take_26 mlX2_49 (by omega) (Nat.le_of_ble_eq_true rfl) (kd_st ho).2.1 (kd_st hs).2.1 (by decide) (by decide) (by omega) (by omega) (by omega) (by omega) (by omega) ?_
  rw [st_H, st_wH, st_o2 _ _ _ _ _ _ (show o + 2 < s + 1 ∨ s + 4 < o + 2 by omega)]
  show sE g_tt _ _ _ 29 [some (.ref s), some (.ref o)] [] (st σ s (va_cpy (σ.2.1 (o + 1)) K 0 0 8) (va_cpy (σ.2.1 (o + 2)) H 0 0 5) E N f)
  refine q_aload_n dX2_take_29 rfl rfl ?_
  refine sg2 (kf := 8) (v := .ref (o + 3)) dX2_take_30 flX2_37 ho (by decide) rfl ?_
  refine z_iconst dX2_take_33 ?_
  refine q_aload_n dX2_take_34 rfl rfl ?_
  refine sg2 (kf := 8) (v := .ref (s + 3)) dX2_take_35 flX2_37 hs (by decide) rfl ?_
  refine z_iconst dX2_take_38 ?_
  refine z_bipush dX2_take_39 (by decide +kernel) ?_
  refine s_copy (n0 := 30) (n1 := 30) dX2_take_41 mlX2_49 (by omega) (Nat.le_of_ble_eq_true rfl) (kd_st ho).2.2.1 (kd_st hs).2.2.1 (by decide) (by decide) (by omega) (by omega) (by omega) (by omega) (by omega) ?_
  rw [st_E, st_wE, st_o2 _ _ _ _ _ _ (show o + 3 < s + 1 ∨ s + 4 < o + 3 by omega)]
  show sE g_tt _ _ _ 44 [some (.ref s), some (.ref o)] [] (st σ s (va_cpy (σ.2.1 (o + 1)) K 0 0 8) (va_cpy (σ.2.1 (o + 2)) H 0 0 5) (va_cpy (σ.2.1 (o + 3)) E 0 0 30) N f)
  refine q_aload_n dX2_take_44 rfl rfl ?_
  refine q_aload_n dX2_take_45 rfl rfl ?_
  refine sg2 (kf := 2) (v := .int (iZ (σ.1 o 2))) dX2_take_46 flX2_18 ho (by decide) (by rw [st_o1 _ _ _ _ _ _ hne]; rfl) ?_
  refine tp (kf := 2) dX2_take_49 flX2_18 hs (by decide) ?_
  refine q_aload_n dX2_take_52 rfl rfl ?_
  refine q_aload_n dX2_take_53 rfl rfl ?_
  refine sg2 (kf := 3) (v := .int (iZ (σ.1 o 3))) dX2_take_54 flX2_22 ho (by decide) (by rw [st_o1 _ _ _ _ _ _ hne]; rfl) ?_
  refine tp (kf := 3) dX2_take_57 flX2_22 hs (by decide) ?_
  refine q_aload_n dX2_take_60 rfl rfl ?_
  refine q_aload_n dX2_take_61 rfl rfl ?_
  refine sg2 (kf := 4) (v := .int (iZ (σ.1 o 4))) dX2_take_62 flX2_25 ho (by decide) (by rw [st_o1 _ _ _ _ _ _ hne]; rfl) ?_
  refine tp (kf := 4) dX2_take_65 flX2_25 hs (by decide) ?_
  refine q_aload_n dX2_take_68 rfl rfl ?_
  refine q_aload_n dX2_take_69 rfl rfl ?_
  refine sg2 (kf := 5) (v := .int (iZ (σ.1 o 5))) dX2_take_70 flX2_28 ho (by decide) (by rw [st_o1 _ _ _ _ _ _ hne]; rfl) ?_
  refine tp (kf := 5) dX2_take_73 flX2_28 hs (by decide) ?_
  refine q_aload_n dX2_take_76 rfl rfl ?_
  refine q_aload_n dX2_take_77 rfl rfl ?_
  refine sg2 (kf := 6) (v := .int (iZ (σ.1 o 6))) dX2_take_78 flX2_31 ho (by decide) (by rw [st_o1 _ _ _ _ _ _ hne]; rfl) ?_
  refine tp (kf := 6) dX2_take_81 flX2_31 hs (by decide) ?_
  refine q_aload_n dX2_take_84 rfl rfl ?_
  refine q_aload_n dX2_take_85 rfl rfl ?_
  refine sg2 (kf := 7) (v := .int (iZ (σ.1 o 7))) dX2_take_86 flX2_34 ho (by decide) (by rw [st_o1 _ _ _ _ _ _ hne]; rfl) ?_
  refine tp (kf := 7) dX2_take_89 flX2_34 hs (by decide) ?_
  refine q_aload_n dX2_take_92 rfl rfl ?_
  refine q_aload_n dX2_take_93 rfl rfl ?_
  refine sg2 (kf := 9) (v := .int (iZ (σ.1 o 9))) dX2_take_94 flX2_40 ho (by decide) (by rw [st_o1 _ _ _ _ _ _ hne]; rfl) ?_
  refine tp (kf := 9) dX2_take_97 flX2_40 hs (by decide) ?_
  exact s_vret dX2_take_100 rfl ⟨rfl, _, _, _, _, rfl, (fun on A h5 h30 tr => ⟨fun j hj => (va_cpy_at _ _ _ hj).trans (tr.1 j hj), fun p hp => (va_cpy_at _ _ _ (by omega)).trans (tr.2.1 p hp), tr.2.2.1, tr.2.2.2.1, fun q => ⟨(tr.2.2.2.2 q).1, fun i hi => by rw [va_cpy_at _ _ _ (by have := h30 q; omega)]; exact (tr.2.2.2.2 q).2 i hi⟩⟩), rfl⟩
set_option maxHeartbeats 4000000 in
set_option maxRecDepth 100000 in
theorem c_addPerson {d s : Nat} (hs : kd s = 2) (σ : gS) (K H E N f : Nat → Int) {v : Int} (h0 : 0 ≤ f 2) (h5 : f 2 < 5) : sC mX2_addPerson d [.ref s, .int (iZ v)] (st σ s K H E N f) (fun r σ' => r = none ∧ σ' = st σ s K (va_up H (f 2).toNat v) E N (va_up f 2 (f 2 + 1))) := by
  refine sC_of rfl (Nat.le_of_ble_eq_true rfl) ?_
  show sE g_tt _ _ _ 0 [some (.ref s), some (.int (iZ v))] [] (st σ s K H E N f)
  refine q_aload_n dX2_addPerson_0 rfl rfl ?_
  refine tg (kf := 2) (x := f 2) dX2_addPerson_1 flX2_18 hs (by decide) rfl ?_
  refine z_iconst dX2_addPerson_4 ?_
  refine z_icmp_ge (tgt := 28) dX2_addPerson_5 (by decide) (by unfold inR at *; omega) (by unfold inR at *; omega) (fun c_1 => ?_) (fun c_1 => ?_)
  · exfalso
    omega
  · refine q_aload_n dX2_addPerson_8 rfl rfl ?_
    refine sg2 (kf := 1) (v := .ref (s + 2)) dX2_addPerson_9 flX2_15 hs (by decide) rfl ?_
    refine q_aload_n dX2_addPerson_12 rfl rfl ?_
    refine tg (kf := 2) (x := f 2) dX2_addPerson_13 flX2_18 hs (by decide) rfl ?_
    refine q_iload_n dX2_addPerson_16 rfl rfl ?_
    refine ts2 dX2_addPerson_17 hs (by omega) (by omega) ?_
    refine q_aload_n dX2_addPerson_18 rfl rfl ?_
    refine q_dup dX2_addPerson_19 rfl ?_
    refine tg (kf := 2) (x := f 2) dX2_addPerson_20 flX2_18 hs (by decide) rfl ?_
    refine z_iconst dX2_addPerson_23 ?_
    refine z_iadd dX2_addPerson_24 ?_
    refine tp (kf := 2) dX2_addPerson_25 flX2_18 hs (by decide) ?_
    exact s_vret dX2_addPerson_28 rfl ⟨rfl, rfl⟩
def kSum (K : Nat → Int) : Nat → Int
  | 0 => 0
  | n + 1 => kSum K n + K n
set_option maxHeartbeats 4000000 in
set_option maxRecDepth 100000 in
theorem lp_thanksInAll {d s : Nat} (hs : kd s = 2) (σ : gS) (K H E N f : Nat → Int) : ∀ (n : Nat) (k : Nat), k ≤ 8 → 8 - (k : Int) < (n : Int) → sE g_tt mX2_thanksInAll d (fun r σ' => r = some (.int (iZ (kSum N 8))) ∧ σ' = st σ s K H E N f) 4 [some (.ref s), some (.int (iZ (kSum N k))), some (.int (iZ (k : Int)))] [] (st σ s K H E N f) := by
  intro n
  induction n with
  | zero =>
    intro k hk hn
    exact absurd hn (by omega)
  | succ n ih =>
    intro k hk hn
    refine q_iload_n dX2_thanksInAll_4 rfl rfl ?_
    refine z_bipush dX2_thanksInAll_5 (by decide +kernel) ?_
    refine z_icmp_ge (tgt := 25) dX2_thanksInAll_7 (by decide) (by unfold inR at *; omega) (by unfold inR at *; omega) (fun c_1 => ?_) (fun c_1 => ?_)
    · refine q_iload_n dX2_thanksInAll_25 rfl rfl ?_
      exact s_iretZ dX2_thanksInAll_26 rfl ⟨by rw [show (8 : Nat) = k by omega], rfl⟩
    · refine q_iload_n dX2_thanksInAll_10 rfl rfl ?_
      refine q_aload_n dX2_thanksInAll_11 rfl rfl ?_
      refine sg2 (kf := 10) (v := .ref (s + 4)) dX2_thanksInAll_12 flX2_43 hs (by decide) rfl ?_
      refine q_iload_n dX2_thanksInAll_15 rfl rfl ?_
      refine tl4 (x := N k) dX2_thanksInAll_16 hs (by omega) (by omega) rfl ?_
      refine z_iadd dX2_thanksInAll_17 ?_
      refine q_istore_n dX2_thanksInAll_18 rfl (by decide) ?_
      show sE g_tt _ _ _ 19 [some (.ref s), some (.int (iZ ((kSum N k) + (N k)))), some (.int (iZ (k : Int)))] [] (st σ s K H E N f)
      refine z_iinc dX2_thanksInAll_19 rfl (by decide) ?_
      show sE g_tt _ _ _ 22 [some (.ref s), some (.int (iZ ((kSum N k) + (N k)))), some (.int (iZ ((k : Int) + 1)))] [] (st σ s K H E N f)
      refine q_goto (tgt := 4) dX2_thanksInAll_22 (by decide) ?_
      exact ih (k + 1) (by omega) (by omega)
set_option maxHeartbeats 4000000 in
set_option maxRecDepth 100000 in
theorem c_thanksInAll {d s : Nat} (hs : kd s = 2) (σ : gS) (K H E N f : Nat → Int) : sC mX2_thanksInAll d [.ref s] (st σ s K H E N f) (fun r σ' => r = some (.int (iZ (kSum N 8))) ∧ σ' = st σ s K H E N f) := by
  refine sC_of rfl (Nat.le_of_ble_eq_true rfl) ?_
  show sE g_tt _ _ _ 0 [some (.ref s), none, none] [] (st σ s K H E N f)
  refine z_iconst dX2_thanksInAll_0 ?_
  refine q_istore_n dX2_thanksInAll_1 rfl (by decide) ?_
  show sE g_tt _ _ _ 2 [some (.ref s), some (.int (iZ 0)), none] [] (st σ s K H E N f)
  refine z_iconst dX2_thanksInAll_2 ?_
  refine q_istore_n dX2_thanksInAll_3 rfl (by decide) ?_
  show sE g_tt _ _ _ 4 [some (.ref s), some (.int (iZ 0)), some (.int (iZ 0))] [] (st σ s K H E N f)
  exact lp_thanksInAll hs σ K H E N f 9 0 (by omega) (by omega)
def kKey (K : Nat → Int) : Nat → Int
  | 0 => 0
  | n + 1 => kKey K n * 16 + K n
set_option maxHeartbeats 4000000 in
set_option maxRecDepth 100000 in
theorem lp_restKey {d s : Nat} (hs : kd s = 2) (σ : gS) (K H E N f : Nat → Int) (hK : ∀ j, j < 8 → inR (K j)) : ∀ (n : Nat) (k : Nat), k ≤ 8 → 8 - (k : Int) < (n : Int) → sE g_tt mX2_restKey d (fun r σ' => r = some (.long (lZ (kKey K 8))) ∧ σ' = st σ s K H E N f) 4 [some (.ref s), some (.long (lZ (kKey K k))), none, some (.int (iZ (k : Int)))] [] (st σ s K H E N f) := by
  intro n
  induction n with
  | zero =>
    intro k hk hn
    exact absurd hn (by omega)
  | succ n ih =>
    intro k hk hn
    refine q_iload_n dX2_restKey_4 rfl rfl ?_
    refine z_bipush dX2_restKey_5 (by decide +kernel) ?_
    refine z_icmp_ge (tgt := 30) dX2_restKey_7 (by decide) (by unfold inR at *; omega) (by unfold inR at *; omega) (fun c_1 => ?_) (fun c_1 => ?_)
    · refine q_lload_n dX2_restKey_30 rfl rfl ?_
      exact s_lret dX2_restKey_31 rfl ⟨by rw [show (8 : Nat) = k by omega], rfl⟩
    · refine q_lload_n dX2_restKey_10 rfl rfl ?_
      refine z_ldc2 (z := 16) dX2_restKey_11 klX2_114 ?_
      refine z_lmul dX2_restKey_14 ?_
      refine q_aload_n dX2_restKey_15 rfl rfl ?_
      refine sg2 (kf := 0) (v := .ref (s + 1)) dX2_restKey_16 flX2_9 hs (by decide) rfl ?_
      refine q_iload_n dX2_restKey_19 rfl rfl ?_
      refine tl1 (x := K k) dX2_restKey_20 hs (by omega) (by omega) rfl ?_
      refine z_i2l dX2_restKey_21 (hK k (by omega)) ?_
      refine z_ladd dX2_restKey_22 ?_
      refine q_lstore_n dX2_restKey_23 rfl (by decide) ?_
      show sE g_tt _ _ _ 24 [some (.ref s), some (.long (lZ (((kKey K k) * 16) + (K k)))), none, some (.int (iZ (k : Int)))] [] (st σ s K H E N f)
      refine z_iinc dX2_restKey_24 rfl (by decide) ?_
      show sE g_tt _ _ _ 27 [some (.ref s), some (.long (lZ (((kKey K k) * 16) + (K k)))), none, some (.int (iZ ((k : Int) + 1)))] [] (st σ s K H E N f)
      refine q_goto (tgt := 4) dX2_restKey_27 (by decide) ?_
      exact ih (k + 1) (by omega) (by omega)
set_option maxHeartbeats 4000000 in
set_option maxRecDepth 100000 in
theorem c_restKey {d s : Nat} (hs : kd s = 2) (σ : gS) (K H E N f : Nat → Int) (hK : ∀ j, j < 8 → inR (K j)) : sC mX2_restKey d [.ref s] (st σ s K H E N f) (fun r σ' => r = some (.long (lZ (kKey K 8))) ∧ σ' = st σ s K H E N f) := by
  refine sC_of rfl (Nat.le_of_ble_eq_true rfl) ?_
  show sE g_tt _ _ _ 0 [some (.ref s), none, none, none] [] (st σ s K H E N f)
  refine z_lconst (z := 0) dX2_restKey_0 (by decide +kernel) ?_
  refine q_lstore_n dX2_restKey_1 rfl (by decide) ?_
  show sE g_tt _ _ _ 2 [some (.ref s), some (.long (lZ 0)), none, none] [] (st σ s K H E N f)
  refine z_iconst dX2_restKey_2 ?_
  refine q_istore_n dX2_restKey_3 rfl (by decide) ?_
  show sE g_tt _ _ _ 4 [some (.ref s), some (.long (lZ 0)), none, some (.int (iZ 0))] [] (st σ s K H E N f)
  exact lp_restKey hs σ K H E N f hK 9 0 (by omega) (by omega)
noncomputable def kEE (K J : Nat → Int) : Int := @ite Int (∀ j, j < 8 → K j = J j) (Classical.propDecidable _) 1 0
theorem kEE_01 (K J : Nat → Int) : kEE K J = 0 ∨ kEE K J = 1 := by unfold kEE; split; exact Or.inr rfl; exact Or.inl rfl
theorem kEE_kE {K J A B : Nat → Int} (h1 : ∀ j, j < 8 → K j = A (11 + j)) (h2 : ∀ j, j < 8 → J j = B (11 + j)) : kEE K J = kE A B := by
  unfold kEE kE
  by_cases q : ∀ j, j < 8 → A (11 + j) = B (11 + j)
  · rw [if_pos q, if_pos (fun j hj => by rw [h1 j hj, h2 j hj]; exact q j hj)]
  · rw [if_neg q, if_neg (fun q2 => q (fun j hj => by rw [← h1 j hj, ← h2 j hj]; exact q2 j hj))]
set_option maxHeartbeats 4000000 in
set_option maxRecDepth 100000 in
theorem lp_isAsKindAs {d s o : Nat} (hs : kd s = 2) (σ : gS) (K H E N f : Nat → Int) (ho : kd o = 2) (hne : o ≠ s) (hK : ∀ j, j < 8 → inR (K j)) (hJ : ∀ j, j < 8 → inR (σ.2.1 (o + 1) j)) : ∀ (n : Nat) (k : Nat), k ≤ 8 → (∀ j, j < k → K j = σ.2.1 (o + 1) j) → 8 - (k : Int) < (n : Int) → sE g_tt mX2_isAsKindAs d (fun r σ' => r = some (.int (iZ (kEE K (σ.2.1 (o + 1))))) ∧ σ' = st σ s K H E N f) 2 [some (.ref s), some (.ref o), some (.int (iZ (k : Int)))] [] (st σ s K H E N f) := by
  intro n
  induction n with
  | zero =>
    intro k hk hsm hn
    exact absurd hn (by omega)
  | succ n ih =>
    intro k hk hsm hn
    have hdd := kd_two hs ho hne
    refine q_iload_n dX2_isAsKindAs_2 rfl rfl ?_
    refine z_bipush dX2_isAsKindAs_3 (by decide +kernel) ?_
    refine z_icmp_ge (tgt := 31) dX2_isAsKindAs_5 (by decide) (by unfold inR at *; omega) (by unfold inR at *; omega) (fun c_1 => ?_) (fun c_1 => ?_)
    · refine z_iconst dX2_isAsKindAs_31 ?_
      exact s_zret dX2_isAsKindAs_32 rfl (by omega) ⟨by unfold kEE; rw [if_pos (fun j hj => hsm j (by omega))], rfl⟩
    · refine q_aload_n dX2_isAsKindAs_8 rfl rfl ?_
      refine sg2 (kf := 0) (v := .ref (s + 1)) dX2_isAsKindAs_9 flX2_9 hs (by decide) rfl ?_
      refine q_iload_n dX2_isAsKindAs_12 rfl rfl ?_
      refine tl1 (x := K k) dX2_isAsKindAs_13 hs (by omega) (by omega) rfl ?_
      refine q_aload_n dX2_isAsKindAs_14 rfl rfl ?_
      refine sg2 (kf := 0) (v := .ref (o + 1)) dX2_isAsKindAs_15 flX2_9 ho (by decide) rfl ?_
      refine q_iload_n dX2_isAsKindAs_18 rfl rfl ?_
      refine s_iald (n := 8) (x := σ.2.1 (o + 1) k) dX2_isAsKindAs_19 (kd_st ho).1 (by omega) (by omega) (by decide) (by rw [st_o2 _ _ _ _ _ _ (by omega)]; rfl) ?_
      refine z_icmp_eq (tgt := 25) dX2_isAsKindAs_20 (by decide) (hK k (by omega)) (hJ k (by omega)) (fun c_2 => ?_) (fun c_2 => ?_)
      · refine z_iinc dX2_isAsKindAs_25 rfl (by decide) ?_
        show sE g_tt _ _ _ 28 [some (.ref s), some (.ref o), some (.int (iZ ((k : Int) + 1)))] [] (st σ s K H E N f)
        refine q_goto (tgt := 2) dX2_isAsKindAs_28 (by decide) ?_
        refine ih (k + 1) (by omega) (fun j hj => ?_) (by omega)
        rcases Nat.lt_or_eq_of_le (Nat.le_of_lt_succ hj) with q | q
        · exact hsm j q
        · subst q; exact c_2
      · refine z_iconst dX2_isAsKindAs_23 ?_
        exact s_zret dX2_isAsKindAs_24 rfl (by omega) ⟨by unfold kEE; rw [if_neg (fun q => c_2 (q k (by omega)))], rfl⟩
set_option maxHeartbeats 4000000 in
set_option maxRecDepth 100000 in
theorem c_isAsKindAs {d s o : Nat} (hs : kd s = 2) (σ : gS) (K H E N f : Nat → Int) (ho : kd o = 2) (hne : o ≠ s) (hK : ∀ j, j < 8 → inR (K j)) (hJ : ∀ j, j < 8 → inR (σ.2.1 (o + 1) j)) : sC mX2_isAsKindAs d [.ref s, .ref o] (st σ s K H E N f) (fun r σ' => r = some (.int (iZ (kEE K (σ.2.1 (o + 1))))) ∧ σ' = st σ s K H E N f) := by
  refine sC_of rfl (Nat.le_of_ble_eq_true rfl) ?_
  show sE g_tt _ _ _ 0 [some (.ref s), some (.ref o), none] [] (st σ s K H E N f)
  refine z_iconst dX2_isAsKindAs_0 ?_
  refine q_istore_n dX2_isAsKindAs_1 rfl (by decide) ?_
  show sE g_tt _ _ _ 2 [some (.ref s), some (.ref o), some (.int (iZ 0))] [] (st σ s K H E N f)
  exact lp_isAsKindAs hs σ K H E N f ho hne hK hJ 9 0 (by omega) (fun j hj => absurd hj (by omega)) (by omega)
set_option maxHeartbeats 4000000 in
set_option maxRecDepth 100000 in
theorem lp_kindnessIn {d s a b : Nat} (hb : b ≤ 8) (hs : kd s = 2) (σ : gS) (K H E N f : Nat → Int) : ∀ (n : Nat) (k : Nat), k ≤ b → a ≤ k → (b : Int) - (k : Int) < (n : Int) → sE g_tt mX2_kindnessIn d (fun r σ' => r = some (.int (iZ (kSum K b - kSum K a))) ∧ σ' = st σ s K H E N f) 9 [some (.ref s), some (.int (iZ (a : Int))), some (.int (iZ (b : Int))), some (.int (iZ (kSum K k - kSum K a))), some (.int (iZ (k : Int)))] [] (st σ s K H E N f) := by
  intro n
  induction n with
  | zero =>
    intro k hk hka hn
    exact absurd hn (by omega)
  | succ n ih =>
    intro k hk hka hn
    refine q_iload dX2_kindnessIn_9 rfl ?_
    refine q_iload_n dX2_kindnessIn_11 rfl rfl ?_
    refine z_icmp_ge (tgt := 38) dX2_kindnessIn_12 (by decide) (by unfold inR at *; omega) (by unfold inR at *; omega) (fun c_1 => ?_) (fun c_1 => ?_)
    · refine q_iload_n dX2_kindnessIn_38 rfl rfl ?_
      exact s_iretZ dX2_kindnessIn_39 rfl ⟨by rw [show b = k by omega], rfl⟩
    · refine q_iload dX2_kindnessIn_15 rfl ?_
      refine z_bipush dX2_kindnessIn_17 (by decide +kernel) ?_
      refine z_icmp_ge (tgt := 38) dX2_kindnessIn_19 (by decide) (by unfold inR at *; omega) (by unfold inR at *; omega) (fun c_2 => ?_) (fun c_2 => ?_)
      · refine q_iload_n dX2_kindnessIn_38 rfl rfl ?_
        exact s_iretZ dX2_kindnessIn_39 rfl ⟨by rw [show b = k by omega], rfl⟩
      · refine q_iload_n dX2_kindnessIn_22 rfl rfl ?_
        refine q_aload_n dX2_kindnessIn_23 rfl rfl ?_
        refine sg2 (kf := 0) (v := .ref (s + 1)) dX2_kindnessIn_24 flX2_9 hs (by decide) rfl ?_
        refine q_iload dX2_kindnessIn_27 rfl ?_
        refine tl1 (x := K k) dX2_kindnessIn_29 hs (by omega) (by omega) rfl ?_
        refine z_iadd dX2_kindnessIn_30 ?_
        refine q_istore_n dX2_kindnessIn_31 rfl (by decide) ?_
        show sE g_tt _ _ _ 32 [some (.ref s), some (.int (iZ (a : Int))), some (.int (iZ (b : Int))), some (.int (iZ ((kSum K k - kSum K a) + (K k)))), some (.int (iZ (k : Int)))] [] (st σ s K H E N f)
        refine z_iinc dX2_kindnessIn_32 rfl (by decide) ?_
        show sE g_tt _ _ _ 35 [some (.ref s), some (.int (iZ (a : Int))), some (.int (iZ (b : Int))), some (.int (iZ ((kSum K k - kSum K a) + (K k)))), some (.int (iZ ((k : Int) + 1)))] [] (st σ s K H E N f)
        refine q_goto (tgt := 9) dX2_kindnessIn_35 (by decide) ?_
        have e : kSum K (k + 1) - kSum K a = (kSum K k - kSum K a) + (K k) := by rw [kSum]; omega
        have k9 := ih (k + 1) (by omega) (by omega) (by omega)
        rw [e] at k9
        exact k9
set_option maxHeartbeats 4000000 in
set_option maxRecDepth 100000 in
theorem c_kindnessIn {d s a b : Nat} (hd : 1 ≤ d) (hb : b ≤ 8) (hab : a ≤ b) (hs : kd s = 2) (σ : gS) (K H E N f : Nat → Int) : sC mX2_kindnessIn d [.ref s, .int (iZ (a : Int)), .int (iZ (b : Int))] (st σ s K H E N f) (fun r σ' => r = some (.int (iZ (kSum K b - kSum K a))) ∧ σ' = st σ s K H E N f) := by
  refine sC_of rfl (Nat.le_of_ble_eq_true rfl) ?_
  show sE g_tt _ _ _ 0 [some (.ref s), some (.int (iZ (a : Int))), some (.int (iZ (b : Int))), none, none] [] (st σ s K H E N f)
  refine z_iconst dX2_kindnessIn_0 ?_
  refine q_istore_n dX2_kindnessIn_1 rfl (by decide) ?_
  show sE g_tt _ _ _ 2 [some (.ref s), some (.int (iZ (a : Int))), some (.int (iZ (b : Int))), some (.int (iZ 0)), none] [] (st σ s K H E N f)
  refine q_iload_n dX2_kindnessIn_2 rfl rfl ?_
  refine z_iconst dX2_kindnessIn_3 ?_
  refine z_mmax dX2_kindnessIn_4 mlX2_89 (by omega) (Nat.le_of_ble_eq_true rfl) (by unfold inR at *; omega) (by unfold inR at *; omega) ?_
  refine q_istore dX2_kindnessIn_7 (by decide) ?_
  show sE g_tt _ _ _ 9 [some (.ref s), some (.int (iZ (a : Int))), some (.int (iZ (b : Int))), some (.int (iZ 0)), some (.int (iZ (max (a : Int) 0)))] [] (st σ s K H E N f)
  rw [show max (a : Int) 0 = (a : Int) by omega]
  have k9 := lp_kindnessIn (d := d) (a := a) hb hs σ K H E N f 9 a hab (Nat.le_refl _) (by omega)
  rw [show kSum K a - kSum K a = 0 by omega] at k9
  exact k9
set_option maxHeartbeats 4000000 in
set_option maxRecDepth 100000 in
theorem lp_peopleInC {d s : Nat} (hs : kd s = 2) (σ : gS) (K H E N f : Nat → Int) {z : Int} (hz : inR z) {on : Int} {A : Nat → Int} {c nt : Int} (g : gd c nt A) (tr : trR on K H E f A) : ∀ (n : Nat) (p : Nat), (p : Int) ≤ A 0 → A 0 - (p : Int) < (n : Int) → sE g_tt mX2_peopleIn d (fun r σ' => r = some (.int (iZ (((mPeo A z (A 0).toNat : Nat) : Int)))) ∧ σ' = st σ s K H E N f) 4 [some (.ref s), some (.int (iZ z)), some (.int (iZ ((mPeo A z p : Nat) : Int))), some (.int (iZ (p : Int)))] [] (st σ s K H E N f) := by
  intro n
  induction n with
  | zero =>
    intro p hp hn
    exact absurd hn (by omega)
  | succ n ih =>
    intro p hp hn
    have g0 := g.1
    have f2 := tr.2.2.1.1
    refine q_iload_n dX2_peopleIn_4 rfl rfl ?_
    refine q_aload_n dX2_peopleIn_5 rfl rfl ?_
    refine tg (kf := 2) (x := f 2) dX2_peopleIn_6 flX2_18 hs (by decide) rfl ?_
    refine z_icmp_ge (tgt := 39) dX2_peopleIn_9 (by decide) (by unfold inR at *; omega) (by unfold inR at *; omega) (fun c_1 => ?_) (fun c_1 => ?_)
    · refine q_iload_n dX2_peopleIn_39 rfl rfl ?_
      exact s_iretZ dX2_peopleIn_40 rfl ⟨by rw [show (A 0).toNat = p by omega], rfl⟩
    · refine q_iload_n dX2_peopleIn_12 rfl rfl ?_
      refine z_iconst dX2_peopleIn_13 ?_
      refine z_icmp_ge (tgt := 39) dX2_peopleIn_14 (by decide) (by unfold inR at *; omega) (by unfold inR at *; omega) (fun c_2 => ?_) (fun c_2 => ?_)
      · refine q_iload_n dX2_peopleIn_39 rfl rfl ?_
        exact s_iretZ dX2_peopleIn_40 rfl ⟨by rw [show (A 0).toNat = p by omega], rfl⟩
      · refine q_aload_n dX2_peopleIn_17 rfl rfl ?_
        refine sg2 (kf := 1) (v := .ref (s + 2)) dX2_peopleIn_18 flX2_15 hs (by decide) rfl ?_
        refine q_iload_n dX2_peopleIn_21 rfl rfl ?_
        refine tl2 (x := H p) dX2_peopleIn_22 hs (by omega) (by omega) rfl ?_
        refine q_iload_n dX2_peopleIn_23 rfl rfl ?_
        refine z_icmp_ne (tgt := 33) dX2_peopleIn_24 (by decide) (by rw [tr.2.1 p (by omega)]; exact gdh g p (by omega)) (by unfold inR at *; omega) (fun c_3 => ?_) (fun c_3 => ?_)
        · refine z_iinc dX2_peopleIn_33 rfl (by decide) ?_
          show sE g_tt _ _ _ 36 [some (.ref s), some (.int (iZ z)), some (.int (iZ ((mPeo A z p : Nat) : Int))), some (.int (iZ ((p : Int) + 1)))] [] (st σ s K H E N f)
          refine q_goto (tgt := 4) dX2_peopleIn_36 (by decide) ?_
          have e : ((mPeo A z (p + 1) : Nat) : Int) = ((mPeo A z p : Nat) : Int) := by rw [mPeo, if_neg (by rw [← tr.2.1 p (by omega)]; omega)]; simp
          have k9 := ih (p + 1) (by omega) (by omega)
          rw [e] at k9
          exact k9
        · refine q_iload_n dX2_peopleIn_27 rfl rfl ?_
          refine z_iconst dX2_peopleIn_28 ?_
          refine q_iload_n dX2_peopleIn_29 rfl rfl ?_
          refine z_ishl (x := 1) (k := p) dX2_peopleIn_30 (by omega) ?_
          refine z_top (y := ((2 ^ p : Nat) : Int)) (by simp) ?_
          refine z_ior (m := mPeo A z p) (k := 2 ^ p) dX2_peopleIn_31 ?_
          refine q_istore_n dX2_peopleIn_32 rfl (by decide) ?_
          show sE g_tt _ _ _ 33 [some (.ref s), some (.int (iZ z)), some (.int (iZ (((mPeo A z p) ||| (2 ^ p) : Nat) : Int))), some (.int (iZ (p : Int)))] [] (st σ s K H E N f)
          refine z_iinc dX2_peopleIn_33 rfl (by decide) ?_
          show sE g_tt _ _ _ 36 [some (.ref s), some (.int (iZ z)), some (.int (iZ (((mPeo A z p) ||| (2 ^ p) : Nat) : Int))), some (.int (iZ ((p : Int) + 1)))] [] (st σ s K H E N f)
          refine q_goto (tgt := 4) dX2_peopleIn_36 (by decide) ?_
          have e : ((mPeo A z (p + 1) : Nat) : Int) = (((mPeo A z p) ||| (2 ^ p) : Nat) : Int) := by rw [mPeo, if_pos (by rw [← tr.2.1 p (by omega)]; omega)]
          have k9 := ih (p + 1) (by omega) (by omega)
          rw [e] at k9
          exact k9
set_option maxHeartbeats 4000000 in
set_option maxRecDepth 100000 in
theorem c_peopleIn {d s : Nat} (hs : kd s = 2) (σ : gS) (K H E N f : Nat → Int) {z : Int} (hz : inR z) {on : Int} {A : Nat → Int} {c nt : Int} (g : gd c nt A) (tr : trR on K H E f A) : sC mX2_peopleIn d [.ref s, .int (iZ z)] (st σ s K H E N f) (fun r σ' => r = some (.int (iZ (((mPeo A z (A 0).toNat : Nat) : Int)))) ∧ σ' = st σ s K H E N f) := by
  refine sC_of rfl (Nat.le_of_ble_eq_true rfl) ?_
  show sE g_tt _ _ _ 0 [some (.ref s), some (.int (iZ z)), none, none] [] (st σ s K H E N f)
  refine z_iconst dX2_peopleIn_0 ?_
  refine q_istore_n dX2_peopleIn_1 rfl (by decide) ?_
  show sE g_tt _ _ _ 2 [some (.ref s), some (.int (iZ z)), some (.int (iZ 0)), none] [] (st σ s K H E N f)
  refine z_iconst dX2_peopleIn_2 ?_
  refine q_istore_n dX2_peopleIn_3 rfl (by decide) ?_
  show sE g_tt _ _ _ 4 [some (.ref s), some (.int (iZ z)), some (.int (iZ 0)), some (.int (iZ 0))] [] (st σ s K H E N f)
  exact lp_peopleInC hs σ K H E N f hz g tr 6 0 (by have := g.1; omega) (by have := g.1; omega)
set_option maxHeartbeats 4000000 in
set_option maxRecDepth 100000 in
theorem c_inStreet {d s : Nat} (hd : 1 ≤ d) (hs : kd s = 2) (σ : gS) (K H E N f : Nat → Int) {on : Int} {A : Nat → Int} {c nt : Int} (g : gd c nt A) (tr : trR on K H E f A) : sC mX2_inStreet d [.ref s] (st σ s K H E N f) (fun r σ' => r = some (.int (iZ (A 0 - cCn A (-1) (A 0).toNat))) ∧ σ' = st σ s K H E N f) := by
  refine sC_of rfl (Nat.le_of_ble_eq_true rfl) ?_
  show sE g_tt _ _ _ 0 [some (.ref s)] [] (st σ s K H E N f)
  refine q_aload_n dX2_inStreet_0 rfl rfl ?_
  refine tg (kf := 2) (x := f 2) dX2_inStreet_1 flX2_18 hs (by decide) rfl ?_
  refine q_aload_n dX2_inStreet_4 rfl rfl ?_
  refine z_iconst dX2_inStreet_5 ?_
  refine s_callV (ci := 2) (a := s) (As := [.int (iZ (-1))]) (S := [.int (iZ (f 2))]) dX2_inStreet_6 okX2_countIn mlX2_116 rfl (by omega) rfl (Nat.le_of_ble_eq_true rfl) hs (by decide) rfl (c_countIn (d := d - 1) hs σ K H E N f (z := -1) (by unfold inR; omega) g tr) (fun v_ σ_ hq => ?_)
  obtain ⟨rfl, e9⟩ := hq
  have e9 := e9.symm
  subst e9
  show sE g_tt _ _ _ 9 [some (.ref s)] [.int (iZ (cCn A (-1) (A 0).toNat)), .int (iZ (f 2))] (st σ s K H E N f)
  refine z_isub dX2_inStreet_9 ?_
  exact s_iretZ dX2_inStreet_10 rfl ⟨by rw [tr.2.2.1.1], rfl⟩
set_option maxHeartbeats 4000000 in
set_option maxRecDepth 100000 in
theorem c_neighbours {d s p : Nat} (hd : 1 ≤ d) (hs : kd s = 2) (σ : gS) (K H E N f : Nat → Int) {on : Int} {A : Nat → Int} {c nt : Int} (g : gd c nt A) (tr : trR on K H E f A) (hp : (p : Int) < A 0) : sC mX2_neighbours d [.ref s, .int (iZ (p : Int))] (st σ s K H E N f) (fun r σ' => r = some (.int (iZ (((mBes A p : Nat) : Int)))) ∧ σ' = st σ s K H E N f) := by
  have g0 := g.1
  have hH := tr.2.1 p hp
  have hr := g.2.1 p (by omega)
  refine sC_of rfl (Nat.le_of_ble_eq_true rfl) ?_
  show sE g_tt _ _ _ 0 [some (.ref s), some (.int (iZ (p : Int))), none, none] [] (st σ s K H E N f)
  refine q_aload_n dX2_neighbours_0 rfl rfl ?_
  refine sg2 (kf := 1) (v := .ref (s + 2)) dX2_neighbours_1 flX2_15 hs (by decide) rfl ?_
  refine q_iload_n dX2_neighbours_4 rfl rfl ?_
  refine tl2 (x := H p) dX2_neighbours_5 hs (by omega) (by omega) rfl ?_
  refine q_istore_n dX2_neighbours_6 rfl (by decide) ?_
  show sE g_tt _ _ _ 7 [some (.ref s), some (.int (iZ (p : Int))), some (.int (iZ (H p))), none] [] (st σ s K H E N f)
  refine q_iload_n dX2_neighbours_7 rfl rfl ?_
  refine z_iconst dX2_neighbours_8 ?_
  refine z_icmp_ne (tgt := 14) dX2_neighbours_9 (by decide) (by unfold inR at *; omega) (by unfold inR at *; omega) (fun c_1 => ?_) (fun c_1 => ?_)
  · refine q_aload_n dX2_neighbours_14 rfl rfl ?_
    refine q_iload_n dX2_neighbours_15 rfl rfl ?_
    refine s_callV (ci := 2) (a := s) (As := [.int (iZ (H p))]) (S := []) dX2_neighbours_16 okX2_peopleIn mlX2_119 rfl (by omega) rfl (Nat.le_of_ble_eq_true rfl) hs (by decide) rfl (c_peopleIn (d := d - 1) hs σ K H E N f (z := H p) (by unfold inR; omega) g tr) (fun v_ σ_ hq => ?_)
    obtain ⟨rfl, e9⟩ := hq
    have e9 := e9.symm
    subst e9
    show sE g_tt _ _ _ 19 [some (.ref s), some (.int (iZ (p : Int))), some (.int (iZ (H p))), none] [.int (iZ ((mPeo A (H p) (A 0).toNat : Nat) : Int))] (st σ s K H E N f)
    refine q_aload_n dX2_neighbours_19 rfl rfl ?_
    refine q_iload_n dX2_neighbours_20 rfl rfl ?_
    refine z_iconst dX2_neighbours_21 ?_
    refine z_iadd dX2_neighbours_22 ?_
    refine s_callV (ci := 2) (a := s) (As := [.int (iZ ((H p) + 1))]) (S := [.int (iZ ((mPeo A (H p) (A 0).toNat : Nat) : Int))]) dX2_neighbours_23 okX2_peopleIn mlX2_119 rfl (by omega) rfl (Nat.le_of_ble_eq_true rfl) hs (by decide) rfl (c_peopleIn (d := d - 1) hs σ K H E N f (z := (H p) + 1) (by unfold inR; omega) g tr) (fun v_ σ_ hq => ?_)
    obtain ⟨rfl, e9⟩ := hq
    have e9 := e9.symm
    subst e9
    show sE g_tt _ _ _ 26 [some (.ref s), some (.int (iZ (p : Int))), some (.int (iZ (H p))), none] [.int (iZ ((mPeo A ((H p) + 1) (A 0).toNat : Nat) : Int)), .int (iZ ((mPeo A (H p) (A 0).toNat : Nat) : Int))] (st σ s K H E N f)
    refine z_ior (m := mPeo A (H p) (A 0).toNat) (k := mPeo A ((H p) + 1) (A 0).toNat) dX2_neighbours_26 ?_
    refine q_istore_n dX2_neighbours_27 rfl (by decide) ?_
    show sE g_tt _ _ _ 28 [some (.ref s), some (.int (iZ (p : Int))), some (.int (iZ (H p))), some (.int (iZ (((mPeo A (H p) (A 0).toNat) ||| (mPeo A ((H p) + 1) (A 0).toNat) : Nat) : Int)))] [] (st σ s K H E N f)
    refine q_iload_n dX2_neighbours_28 rfl rfl ?_
    refine z_if_le (tgt := 42) dX2_neighbours_29 (by decide) (by unfold inR at *; omega) (fun c_2 => ?_) (fun c_2 => ?_)
    · refine q_iload_n dX2_neighbours_42 rfl rfl ?_
      refine z_iconst dX2_neighbours_43 ?_
      refine q_iload_n dX2_neighbours_44 rfl rfl ?_
      refine z_ishl (x := 1) (k := p) dX2_neighbours_45 (by omega) ?_
      refine z_top (y := ((2 ^ p : Nat) : Int)) (by simp) ?_
      refine z_iconst dX2_neighbours_46 ?_
      refine z_clr (m := (mPeo A (H p) (A 0).toNat) ||| (mPeo A ((H p) + 1) (A 0).toNat)) (p := p) dX2_neighbours_47 dX2_neighbours_48 (by repeat (first | exact mPeo_32 g _ | refine or_32 ?_ ?_)) (by omega) ?_
      exact s_iretZ dX2_neighbours_49 rfl ⟨by unfold mBes; rw [if_neg (by rw [← hH]; omega), if_neg (by rw [← hH]; omega), ← hH]; congr 4; rw [Nat.or_zero], rfl⟩
    · refine q_iload_n dX2_neighbours_32 rfl rfl ?_
      refine q_aload_n dX2_neighbours_33 rfl rfl ?_
      refine q_iload_n dX2_neighbours_34 rfl rfl ?_
      refine z_iconst dX2_neighbours_35 ?_
      refine z_isub dX2_neighbours_36 ?_
      refine s_callV (ci := 2) (a := s) (As := [.int (iZ ((H p) - 1))]) (S := [.int (iZ (((mPeo A (H p) (A 0).toNat) ||| (mPeo A ((H p) + 1) (A 0).toNat) : Nat) : Int))]) dX2_neighbours_37 okX2_peopleIn mlX2_119 rfl (by omega) rfl (Nat.le_of_ble_eq_true rfl) hs (by decide) rfl (c_peopleIn (d := d - 1) hs σ K H E N f (z := (H p) - 1) (by unfold inR; omega) g tr) (fun v_ σ_ hq => ?_)
      obtain ⟨rfl, e9⟩ := hq
      have e9 := e9.symm
      subst e9
      show sE g_tt _ _ _ 40 [some (.ref s), some (.int (iZ (p : Int))), some (.int (iZ (H p))), some (.int (iZ (((mPeo A (H p) (A 0).toNat) ||| (mPeo A ((H p) + 1) (A 0).toNat) : Nat) : Int)))] [.int (iZ ((mPeo A ((H p) - 1) (A 0).toNat : Nat) : Int)), .int (iZ (((mPeo A (H p) (A 0).toNat) ||| (mPeo A ((H p) + 1) (A 0).toNat) : Nat) : Int))] (st σ s K H E N f)
      refine z_ior (m := (mPeo A (H p) (A 0).toNat) ||| (mPeo A ((H p) + 1) (A 0).toNat)) (k := mPeo A ((H p) - 1) (A 0).toNat) dX2_neighbours_40 ?_
      refine q_istore_n dX2_neighbours_41 rfl (by decide) ?_
      show sE g_tt _ _ _ 42 [some (.ref s), some (.int (iZ (p : Int))), some (.int (iZ (H p))), some (.int (iZ ((((mPeo A (H p) (A 0).toNat) ||| (mPeo A ((H p) + 1) (A 0).toNat)) ||| (mPeo A ((H p) - 1) (A 0).toNat) : Nat) : Int)))] [] (st σ s K H E N f)
      refine q_iload_n dX2_neighbours_42 rfl rfl ?_
      refine z_iconst dX2_neighbours_43 ?_
      refine q_iload_n dX2_neighbours_44 rfl rfl ?_
      refine z_ishl (x := 1) (k := p) dX2_neighbours_45 (by omega) ?_
      refine z_top (y := ((2 ^ p : Nat) : Int)) (by simp) ?_
      refine z_iconst dX2_neighbours_46 ?_
      refine z_clr (m := ((mPeo A (H p) (A 0).toNat) ||| (mPeo A ((H p) + 1) (A 0).toNat)) ||| (mPeo A ((H p) - 1) (A 0).toNat)) (p := p) dX2_neighbours_47 dX2_neighbours_48 (by repeat (first | exact mPeo_32 g _ | refine or_32 ?_ ?_)) (by omega) ?_
      exact s_iretZ dX2_neighbours_49 rfl ⟨by unfold mBes; rw [if_neg (by rw [← hH]; omega), if_pos (by rw [← hH]; omega), ← hH]; congr 4; rw [Nat.or_assoc, Nat.or_assoc, Nat.or_comm (mPeo A (H p + 1) (A 0).toNat)], rfl⟩
  · refine z_iconst dX2_neighbours_12 ?_
    exact s_iretZ dX2_neighbours_13 rfl ⟨by unfold mBes; rw [if_pos (by rw [← hH]; omega)]; rfl, rfl⟩
theorem bkR_e {e v : Int} (h : bkR e v) : 0 ≤ e ∧ e ≤ 1279991 ∧ 0 ≤ v ∧ v ≤ 449999 ∧ e.tdiv 128 = v.tdiv 45 ∧ (e.tdiv 16).tmod 8 = (v.tdiv 9).tmod 5 ∧ e.tmod 16 - 1 = v.tmod 9 - 1 := by
  obtain ⟨n, p, x, h1, h2, h3, rfl, rfl⟩ := h
  rw [Int.tdiv_eq_ediv_of_nonneg (by omega), Int.tdiv_eq_ediv_of_nonneg (by omega), Int.tdiv_eq_ediv_of_nonneg (by omega), Int.tdiv_eq_ediv_of_nonneg (by omega), Int.tmod_eq_emod_of_nonneg (by omega), Int.tmod_eq_emod_of_nonneg (by omega), Int.tmod_eq_emod_of_nonneg (by omega), Int.tmod_eq_emod_of_nonneg (by omega)]
  omega
set_option maxHeartbeats 4000000 in
set_option maxRecDepth 100000 in
theorem c_nightWritten {d s i : Nat} (hs : kd s = 2) (σ : gS) (K H E N f : Nat → Int) {on : Int} {A : Nat → Int} {c nt : Int} (g : gd c nt A) (tr : trR on K H E f A) (ho : ¬ on = 0) (hi : (i : Int) < A 10) : sC mX2_nightWritten d [.ref s, .int (iZ (i : Int))] (st σ s K H E N f) (fun r σ' => r = some (.int (iZ (mEnt A i 0))) ∧ σ' = st σ s K H E N f) := by
  have be := bkR_e ((tr.2.2.2.2 ho).2 i hi)
  have g10 := g.2.2.2.2.1
  refine sC_of rfl (Nat.le_of_ble_eq_true rfl) ?_
  show sE g_tt _ _ _ 0 [some (.ref s), some (.int (iZ (i : Int)))] [] (st σ s K H E N f)
  refine q_aload_n dX2_nightWritten_0 rfl rfl ?_
  refine sg2 (kf := 8) (v := .ref (s + 3)) dX2_nightWritten_1 flX2_37 hs (by decide) rfl ?_
  refine q_iload_n dX2_nightWritten_4 rfl rfl ?_
  refine tl3 (x := E i) dX2_nightWritten_5 hs (by omega) (by omega) rfl ?_
  refine z_sipush dX2_nightWritten_6 (by decide +kernel) ?_
  refine z_idiv dX2_nightWritten_9 (by unfold inR at *; omega) (by unfold inR at *; omega) (by decide) ?_
  exact s_iretZ dX2_nightWritten_10 rfl ⟨by rw [be.2.2.2.2.1]; rfl, rfl⟩
set_option maxHeartbeats 4000000 in
set_option maxRecDepth 100000 in
theorem c_personWritten {d s i : Nat} (hs : kd s = 2) (σ : gS) (K H E N f : Nat → Int) {on : Int} {A : Nat → Int} {c nt : Int} (g : gd c nt A) (tr : trR on K H E f A) (ho : ¬ on = 0) (hi : (i : Int) < A 10) : sC mX2_personWritten d [.ref s, .int (iZ (i : Int))] (st σ s K H E N f) (fun r σ' => r = some (.int (iZ (mEnt A i 1))) ∧ σ' = st σ s K H E N f) := by
  have be := bkR_e ((tr.2.2.2.2 ho).2 i hi)
  have g10 := g.2.2.2.2.1
  refine sC_of rfl (Nat.le_of_ble_eq_true rfl) ?_
  show sE g_tt _ _ _ 0 [some (.ref s), some (.int (iZ (i : Int)))] [] (st σ s K H E N f)
  refine q_aload_n dX2_personWritten_0 rfl rfl ?_
  refine sg2 (kf := 8) (v := .ref (s + 3)) dX2_personWritten_1 flX2_37 hs (by decide) rfl ?_
  refine q_iload_n dX2_personWritten_4 rfl rfl ?_
  refine tl3 (x := E i) dX2_personWritten_5 hs (by omega) (by omega) rfl ?_
  refine z_bipush dX2_personWritten_6 (by decide +kernel) ?_
  refine z_idiv dX2_personWritten_8 (by unfold inR at *; omega) (by unfold inR at *; omega) (by decide) ?_
  refine z_bipush dX2_personWritten_9 (by decide +kernel) ?_
  refine z_irem dX2_personWritten_11 (inR_tdiv (by unfold inR; omega) (by decide)) (by unfold inR at *; omega) (by decide) ?_
  exact s_iretZ dX2_personWritten_12 rfl ⟨by rw [be.2.2.2.2.2.1]; rfl, rfl⟩
set_option maxHeartbeats 4000000 in
set_option maxRecDepth 100000 in
theorem c_houseWritten {d s i : Nat} (hs : kd s = 2) (σ : gS) (K H E N f : Nat → Int) {on : Int} {A : Nat → Int} {c nt : Int} (g : gd c nt A) (tr : trR on K H E f A) (ho : ¬ on = 0) (hi : (i : Int) < A 10) : sC mX2_houseWritten d [.ref s, .int (iZ (i : Int))] (st σ s K H E N f) (fun r σ' => r = some (.int (iZ (mEnt A i 2))) ∧ σ' = st σ s K H E N f) := by
  have be := bkR_e ((tr.2.2.2.2 ho).2 i hi)
  have g10 := g.2.2.2.2.1
  refine sC_of rfl (Nat.le_of_ble_eq_true rfl) ?_
  show sE g_tt _ _ _ 0 [some (.ref s), some (.int (iZ (i : Int)))] [] (st σ s K H E N f)
  refine q_aload_n dX2_houseWritten_0 rfl rfl ?_
  refine sg2 (kf := 8) (v := .ref (s + 3)) dX2_houseWritten_1 flX2_37 hs (by decide) rfl ?_
  refine q_iload_n dX2_houseWritten_4 rfl rfl ?_
  refine tl3 (x := E i) dX2_houseWritten_5 hs (by omega) (by omega) rfl ?_
  refine z_bipush dX2_houseWritten_6 (by decide +kernel) ?_
  refine z_irem dX2_houseWritten_8 (by unfold inR at *; omega) (by unfold inR at *; omega) (by decide) ?_
  refine z_iconst dX2_houseWritten_9 ?_
  refine z_isub dX2_houseWritten_10 ?_
  exact s_iretZ dX2_houseWritten_11 rfl ⟨by rw [be.2.2.2.2.2.2]; rfl, rfl⟩
set_option maxHeartbeats 4000000 in
set_option maxRecDepth 100000 in
theorem lp_timesWritten {d s : Nat} (hd : 1 ≤ d) (hs : kd s = 2) (σ : gS) (K H E N f : Nat → Int) {q : Int} (hq0 : inR q) (hq1 : q ≠ -1) {on : Int} {A : Nat → Int} {c nt : Int} (g : gd c nt A) (tr : trR on K H E f A) (ho : ¬ on = 0) : ∀ (n : Nat) (i : Nat), (i : Int) ≤ A 10 → A 10 - (i : Int) < (n : Int) → sE g_tt mX2_timesWritten d (fun r σ' => r = some (.int (iZ (mLn A q (A 10).toNat))) ∧ σ' = st σ s K H E N f) 4 [some (.ref s), some (.int (iZ q)), some (.int (iZ (mLn A q i))), some (.int (iZ (i : Int)))] [] (st σ s K H E N f) := by
  intro n
  induction n with
  | zero =>
    intro i hi hn
    exact absurd hn (by omega)
  | succ n ih =>
    intro i hi hn
    have g10 := g.2.2.2.2.1
    have f9 := (tr.2.2.2.2 ho).1
    have lr := mLn_ran A q i
    refine q_iload_n dX2_timesWritten_4 rfl rfl ?_
    refine q_aload_n dX2_timesWritten_5 rfl rfl ?_
    refine tg (kf := 9) (x := f 9) dX2_timesWritten_6 flX2_40 hs (by decide) rfl ?_
    refine z_icmp_ge (tgt := 36) dX2_timesWritten_9 (by decide) (by unfold inR at *; omega) (by unfold inR at *; omega) (fun c_1 => ?_) (fun c_1 => ?_)
    · refine q_iload_n dX2_timesWritten_36 rfl rfl ?_
      exact s_iretZ dX2_timesWritten_37 rfl ⟨by rw [show (A 10).toNat = i by omega], rfl⟩
    · refine q_iload_n dX2_timesWritten_12 rfl rfl ?_
      refine z_bipush dX2_timesWritten_13 (by decide +kernel) ?_
      refine z_icmp_ge (tgt := 36) dX2_timesWritten_15 (by decide) (by unfold inR at *; omega) (by unfold inR at *; omega) (fun c_2 => ?_) (fun c_2 => ?_)
      · refine q_iload_n dX2_timesWritten_36 rfl rfl ?_
        exact s_iretZ dX2_timesWritten_37 rfl ⟨by rw [show (A 10).toNat = i by omega], rfl⟩
      · refine q_aload_n dX2_timesWritten_18 rfl rfl ?_
        refine q_iload_n dX2_timesWritten_19 rfl rfl ?_
        refine s_callV (ci := 2) (a := s) (As := [.int (iZ (i : Int))]) (S := []) dX2_timesWritten_20 okX2_personWritten mlX2_73 rfl (by omega) rfl (Nat.le_of_ble_eq_true rfl) hs (by decide) rfl (c_personWritten (d := d - 1) (i := i) hs σ K H E N f g tr ho (by omega)) (fun v_ σ_ hq => ?_)
        obtain ⟨rfl, e9⟩ := hq
        have e9 := e9.symm
        subst e9
        have mr := inR_tmod (x := (A (1553 + i)).tdiv 9) (show (0 : Int) < 5 by decide) (by decide)
        have me : mEnt A i 1 = ((A (1553 + i)).tdiv 9).tmod 5 := rfl
        show sE g_tt _ _ _ 23 [some (.ref s), some (.int (iZ q)), some (.int (iZ (mLn A q i))), some (.int (iZ (i : Int)))] [.int (iZ (mEnt A i 1))] (st σ s K H E N f)
        refine q_iload_n dX2_timesWritten_23 rfl rfl ?_
        refine z_icmp_ne (tgt := 30) dX2_timesWritten_24 (by decide) (by rw [me]; exact mr) (by unfold inR at *; omega) (fun c_3 => ?_) (fun c_3 => ?_)
        · refine z_iinc dX2_timesWritten_30 rfl (by decide) ?_
          show sE g_tt _ _ _ 33 [some (.ref s), some (.int (iZ q)), some (.int (iZ (mLn A q i))), some (.int (iZ ((i : Int) + 1)))] [] (st σ s K H E N f)
          refine q_goto (tgt := 4) dX2_timesWritten_33 (by decide) ?_
          have e : mLn A q (i + 1) = mLn A q i := by rw [mLn, if_neg (by omega)]; omega
          have k9 := ih (i + 1) (by omega) (by omega)
          rw [e] at k9
          exact k9
        · refine z_iinc dX2_timesWritten_27 rfl (by decide) ?_
          show sE g_tt _ _ _ 30 [some (.ref s), some (.int (iZ q)), some (.int (iZ (mLn A q i + 1))), some (.int (iZ (i : Int)))] [] (st σ s K H E N f)
          refine z_iinc dX2_timesWritten_30 rfl (by decide) ?_
          show sE g_tt _ _ _ 33 [some (.ref s), some (.int (iZ q)), some (.int (iZ (mLn A q i + 1))), some (.int (iZ ((i : Int) + 1)))] [] (st σ s K H E N f)
          refine q_goto (tgt := 4) dX2_timesWritten_33 (by decide) ?_
          have e : mLn A q (i + 1) = mLn A q i + 1 := by rw [mLn, if_pos (Or.inr (by omega))]
          have k9 := ih (i + 1) (by omega) (by omega)
          rw [e] at k9
          exact k9
set_option maxHeartbeats 4000000 in
set_option maxRecDepth 100000 in
theorem c_timesWritten {d s : Nat} (hd : 1 ≤ d) (hs : kd s = 2) (σ : gS) (K H E N f : Nat → Int) {q : Int} (hq0 : inR q) (hq1 : q ≠ -1) {on : Int} {A : Nat → Int} {c nt : Int} (g : gd c nt A) (tr : trR on K H E f A) (ho : ¬ on = 0) : sC mX2_timesWritten d [.ref s, .int (iZ q)] (st σ s K H E N f) (fun r σ' => r = some (.int (iZ (mLn A q (A 10).toNat))) ∧ σ' = st σ s K H E N f) := by
  refine sC_of rfl (Nat.le_of_ble_eq_true rfl) ?_
  show sE g_tt _ _ _ 0 [some (.ref s), some (.int (iZ q)), none, none] [] (st σ s K H E N f)
  refine z_iconst dX2_timesWritten_0 ?_
  refine q_istore_n dX2_timesWritten_1 rfl (by decide) ?_
  show sE g_tt _ _ _ 2 [some (.ref s), some (.int (iZ q)), some (.int (iZ 0)), none] [] (st σ s K H E N f)
  refine z_iconst dX2_timesWritten_2 ?_
  refine q_istore_n dX2_timesWritten_3 rfl (by decide) ?_
  show sE g_tt _ _ _ 4 [some (.ref s), some (.int (iZ q)), some (.int (iZ 0)), some (.int (iZ 0))] [] (st σ s K H E N f)
  exact lp_timesWritten hd hs σ K H E N f hq0 hq1 g tr ho 31 0 (by have := g.2.2.2.2.1; omega) (by have := g.2.2.2.2.1; omega)
