/-! ===== how far they are spread ===== -/
theorem mPeo_nz (A : Nat → Int) (h : Int) : ∀ n, (mPeo A h n ≠ 0 ↔ ∃ p, p < n ∧ A (19 + p) = h) := by
  intro n
  induction n with
  | zero => exact ⟨fun q => absurd rfl q, fun ⟨p, hp, _⟩ => absurd hp (by omega)⟩
  | succ n ih =>
    constructor
    · intro q
      by_cases z : A (19 + n) = h
      · exact ⟨n, by omega, z⟩
      · rw [mPeo, if_neg z, Nat.or_zero] at q
        obtain ⟨p, hp, e⟩ := ih.1 q
        exact ⟨p, by omega, e⟩
    · intro ⟨p, hp, e⟩ q
      have b := mPeo_bit A h p (n + 1)
      rw [q, Nat.zero_testBit] at b
      have b2 := of_decide_eq_false b.symm
      exact b2 ⟨hp, e⟩
/-- the first and the last house before k where somebody is -/
def spL (A : Nat → Int) : Nat → Int
  | 0 => -1
  | k + 1 => if mPeo A (k : Int) (A 0).toNat = 0 then spL A k else if spL A k = -1 then (k : Int) else spL A k
def spH (A : Nat → Int) : Nat → Int
  | 0 => -1
  | k + 1 => if mPeo A (k : Int) (A 0).toNat = 0 then spH A k else (k : Int)
theorem sp_spec (A : Nat → Int) : ∀ k : Nat, (spL A k = -1 ∧ spH A k = -1 ∧ ∀ j : Nat, j < k → mPeo A (j : Int) (A 0).toNat = 0) ∨ ((0 ≤ spL A k ∧ spL A k ≤ spH A k ∧ spH A k < (k : Int)) ∧ mPeo A (spL A k) (A 0).toNat ≠ 0 ∧ mPeo A (spH A k) (A 0).toNat ≠ 0 ∧ ∀ j : Nat, j < k → mPeo A (j : Int) (A 0).toNat ≠ 0 → spL A k ≤ (j : Int) ∧ (j : Int) ≤ spH A k) := by
  intro k
  induction k with
  | zero => exact Or.inl ⟨rfl, rfl, fun j hj => absurd hj (by omega)⟩
  | succ k ih =>
    rw [spL, spH]
    by_cases z : mPeo A (k : Int) (A 0).toNat = 0
    · rw [if_pos z, if_pos z]
      rcases ih with ⟨a, b, c⟩ | ⟨a, b, c, e⟩
      · refine Or.inl ⟨a, b, fun j hj => ?_⟩
        by_cases y : j = k
        · rw [y]; exact z
        · exact c j (by omega)
      · refine Or.inr ⟨⟨a.1, a.2.1, by omega⟩, b, c, fun j hj hn => ?_⟩
        by_cases y : j = k
        · rw [y] at hn; exact absurd z hn
        · exact e j (by omega) hn
    · rw [if_neg z, if_neg z]
      rcases ih with ⟨a, b, c⟩ | ⟨a, b, c, e⟩
      · rw [if_pos a]
        refine Or.inr ⟨⟨by omega, by omega, by omega⟩, z, z, fun j hj hn => ?_⟩
        by_cases y : j = k
        · omega
        · exact absurd (c j (by omega)) hn
      · rw [if_neg (by omega)]
        refine Or.inr ⟨⟨a.1, by omega, by omega⟩, b, z, fun j hj hn => ?_⟩
        by_cases y : j = k
        · omega
        · have := e j (by omega) hn; omega
theorem mSpI_le (A : Nat → Int) (p : Nat) (m0 : Int) : ∀ q, m0 ≤ mSpI A p m0 q ∧ (∀ r, r < q → A (19 + p) ≠ -1 → A (19 + r) ≠ -1 → mAb (A (19 + p) - A (19 + r)) ≤ mSpI A p m0 q) ∧ (mSpI A p m0 q = m0 ∨ ∃ r, r < q ∧ A (19 + p) ≠ -1 ∧ A (19 + r) ≠ -1 ∧ mSpI A p m0 q = mAb (A (19 + p) - A (19 + r))) := by
  intro q
  induction q with
  | zero => exact ⟨Int.le_refl _, fun r hr => absurd hr (by omega), Or.inl rfl⟩
  | succ q ih =>
    obtain ⟨i1, i2, i3⟩ := ih
    rw [mSpI]
    by_cases z : A (19 + p) ≠ -1 ∧ A (19 + q) ≠ -1 ∧ mSpI A p m0 q < mAb (A (19 + p) - A (19 + q))
    · rw [if_pos z]
      refine ⟨by omega, fun r hr a b => ?_, Or.inr ⟨q, by omega, z.1, z.2.1, rfl⟩⟩
      by_cases y : r = q
      · rw [y]; exact Int.le_refl _
      · have := i2 r (by omega) a b; omega
    · rw [if_neg z]
      refine ⟨i1, fun r hr a b => ?_, ?_⟩
      · by_cases y : r = q
        · subst y
          exact Int.not_lt.1 (fun w => z ⟨a, b, w⟩)
        · exact i2 r (by omega) a b
      · rcases i3 with e | ⟨r, hr, x⟩
        · exact Or.inl e
        · exact Or.inr ⟨r, by omega, x⟩
theorem mSpO_spec (A : Nat → Int) : ∀ n, 0 ≤ mSpO A n ∧ (∀ p r, r < p → p < n → A (19 + p) ≠ -1 → A (19 + r) ≠ -1 → mAb (A (19 + p) - A (19 + r)) ≤ mSpO A n) ∧ (mSpO A n = 0 ∨ ∃ p r, r < p ∧ p < n ∧ A (19 + p) ≠ -1 ∧ A (19 + r) ≠ -1 ∧ mSpO A n = mAb (A (19 + p) - A (19 + r))) := by
  intro n
  induction n with
  | zero => exact ⟨Int.le_refl _, fun p r _ hp => absurd hp (by omega), Or.inl rfl⟩
  | succ n ih =>
    obtain ⟨i1, i2, i3⟩ := ih
    obtain ⟨k1, k2, k3⟩ := mSpI_le A n (mSpO A n) n
    rw [mSpO]
    refine ⟨by omega, fun p r hr hp a b => ?_, ?_⟩
    · by_cases y : p = n
      · subst y; exact k2 r hr a b
      · have := i2 p r hr (by omega) a b; omega
    · rcases k3 with e | ⟨r, hr, a, b, e⟩
      · rw [e]
        rcases i3 with f | ⟨p, r, h1, h2, h3⟩
        · exact Or.inl f
        · exact Or.inr ⟨p, r, h1, by omega, h3⟩
      · exact Or.inr ⟨n, r, hr, by omega, a, b, e⟩
theorem spread_eq {c nt : Int} {A : Nat → Int} (g : gd c nt A) : spH A 8 - spL A 8 = mSpO A (A 0).toNat := by
  have g0 := g.1
  obtain ⟨s1, s2, s3⟩ := mSpO_spec A (A 0).toNat
  have inn : ∀ p, p < (A 0).toNat → A (19 + p) ≠ -1 → ∃ j : Nat, j < 8 ∧ A (19 + p) = (j : Int) ∧ mPeo A (j : Int) (A 0).toNat ≠ 0 := fun p hp hn => by
    have r := g.2.1 p (by omega)
    exact ⟨(A (19 + p)).toNat, by omega, by omega, (mPeo_nz A _ _).2 ⟨p, hp, by omega⟩⟩
  rcases sp_spec A 8 with ⟨a, b, e⟩ | ⟨a, b, e, f⟩
  · rcases s3 with z | ⟨p, r, h1, h2, h3, h4, h5⟩
    · omega
    · obtain ⟨j, hj, _, hn⟩ := inn p h2 h3
      exact absurd (e j hj) hn
  · obtain ⟨pl, hpl, el⟩ := (mPeo_nz A _ _).1 b
    obtain ⟨ph, hph, eh⟩ := (mPeo_nz A _ _).1 e
    have up : mSpO A (A 0).toNat ≤ spH A 8 - spL A 8 := by
      rcases s3 with z | ⟨p, r, h1, h2, h3, h4, h5⟩
      · omega
      · obtain ⟨j, hj, ej, hn⟩ := inn p h2 h3
        obtain ⟨i, hi, ei, hm⟩ := inn r (by omega) h4
        have x := f j hj hn
        have y := f i hi hm
        rw [h5, ej, ei]
        unfold mAb
        split <;> omega
    have lo : spH A 8 - spL A 8 ≤ mSpO A (A 0).toNat := by
      by_cases z : pl = ph
      · rw [z] at el; omega
      · by_cases y : pl < ph
        · have q := s2 ph pl y hph (by omega) (by omega)
          rw [el, eh] at q
          unfold mAb at q
          split at q <;> omega
        · have q := s2 pl ph (by omega) hpl (by omega) (by omega)
          rw [el, eh] at q
          unfold mAb at q
          split at q <;> omega
    omega
set_option maxHeartbeats 4000000 in
set_option maxRecDepth 100000 in
theorem lx_spread {d : Nat} (hd : 1 ≤ d) (σ : gS) {W V : wF} {A I : Nat → Int} {c nt : Int} (hc : c ≤ 88000) (hn4 : nt ≤ 4) (ok : okR c nt A) (oi : okR c (I 1) I) (C : clR σ W V A I) : ∀ (n : Nat) (k : Nat), k ≤ 8 → 8 - (k : Int) < (n : Int) → sE g_tt mX6_spread d (fun r σ' => r = some (.int (iZ (mSpO A (A 0).toNat))) ∧ σ' = σ) 6 [some (.ref 0), some (.int (iZ (spL A k))), some (.int (iZ (spH A k))), some (.int (iZ (k : Int)))] [] σ := by
  intro n
  induction n with
  | zero =>
    intro k hk hn
    exact absurd hn (by omega)
  | succ n ih =>
    intro k hk hn
    have g := ok_gd hc hn4 ok
    have g0 := g.1
    have n1 := ok.2.2.1
    have a2 := ok_2 ok
    have g10 := g.2.2.2.2.1
    have gL : gd 100000 4 A := gd_mono g (by decide)
    have rk := rA_ok (w0_of C) gL a2.1 a2.2
    refine q_iload_n dX6_spread_6 rfl rfl ?_
    refine z_bipush dX6_spread_7 (by decide +kernel) ?_
    refine z_icmp_ge (tgt := 45) dX6_spread_9 (by decide) (by unfold inR at *; omega) (by unfold inR at *; omega) (fun c_1 => ?_) (fun c_1 => ?_)
    · refine q_iload_n dX6_spread_45 rfl rfl ?_
      refine q_iload_n dX6_spread_46 rfl rfl ?_
      refine z_isub dX6_spread_47 ?_
      exact s_iretZ dX6_spread_48 rfl ⟨by rw [show k = 8 by omega, spread_eq g], rfl⟩
    · refine q_aload_n dX6_spread_12 rfl rfl ?_
      refine sg6 (kf := 0) (v := .ref 1) dX6_spread_13 flX6_10 (show kd 0 = 6 from rfl) (by decide) rfl ?_
      refine sg5 (kf := 0) (v := .ref 2) dX6_spread_16 flX6_72 (show kd 1 = 5 from rfl) (by decide) rfl ?_
      refine q_iload_n dX6_spread_19 rfl rfl ?_
      refine s_callV (ci := 2) (a := 2) (As := [.int (iZ (k : Int))]) (S := []) dX6_spread_20 okX2_peopleIn mlX6_179 rfl (by omega) rfl (Nat.le_of_ble_eq_true rfl) (show kd 2 = 2 from rfl) (by decide) rfl (t_peopleIn (d := d - 1) (s := 2) rfl σ (z := (k : Int)) (by unfold inR; omega) g C.1.1) (fun v_ σ_ hq => ?_)
      obtain ⟨rfl, e9⟩ := hq
      have e9 := e9.symm
      subst e9
      have p32 := mPeo_32 g (k : Int)
      have sp := sp_spec A k
      show sE g_tt _ _ _ 23 [some (.ref 0), some (.int (iZ (spL A k))), some (.int (iZ (spH A k))), some (.int (iZ (k : Int)))] [.int (iZ ((mPeo A (k : Int) (A 0).toNat : Nat) : Int))] σ
      refine z_if_eq (tgt := 39) dX6_spread_23 (by decide) (by unfold inR at *; omega) (fun c_2 => ?_) (fun c_2 => ?_)
      · refine z_iinc dX6_spread_39 rfl (by decide) ?_
        show sE g_tt _ _ _ 42 [some (.ref 0), some (.int (iZ (spL A k))), some (.int (iZ (spH A k))), some (.int (iZ ((k : Int) + 1)))] [] σ
        refine q_goto (tgt := 6) dX6_spread_42 (by decide) ?_
        have e1 : spL A (k + 1) = spL A k := by rw [spL]; (repeat (first | rw [if_pos (by omega)] | rw [if_neg (by omega)]))
        have e2 : spH A (k + 1) = spH A k := by rw [spH]; (repeat (first | rw [if_pos (by omega)] | rw [if_neg (by omega)]))
        have k9 := ih (k + 1) (by omega) (by omega)
        rw [e1, e2] at k9
        exact k9
      · refine q_iload_n dX6_spread_26 rfl rfl ?_
        refine z_iconst dX6_spread_27 ?_
        refine z_icmp_ne (tgt := 35) dX6_spread_28 (by decide) (by unfold inR at *; omega) (by unfold inR at *; omega) (fun c_3 => ?_) (fun c_3 => ?_)
        · refine q_iload_n dX6_spread_35 rfl rfl ?_
          refine q_istore_n dX6_spread_36 rfl (by decide) ?_
          show sE g_tt _ _ _ 37 [some (.ref 0), some (.int (iZ (spL A k))), some (.int (iZ (spH A k))), some (.int (iZ (k : Int)))] [] σ
          refine q_iload_n dX6_spread_37 rfl rfl ?_
          refine q_istore_n dX6_spread_38 rfl (by decide) ?_
          show sE g_tt _ _ _ 39 [some (.ref 0), some (.int (iZ (spL A k))), some (.int (iZ (k : Int))), some (.int (iZ (k : Int)))] [] σ
          refine z_iinc dX6_spread_39 rfl (by decide) ?_
          show sE g_tt _ _ _ 42 [some (.ref 0), some (.int (iZ (spL A k))), some (.int (iZ (k : Int))), some (.int (iZ ((k : Int) + 1)))] [] σ
          refine q_goto (tgt := 6) dX6_spread_42 (by decide) ?_
          have e1 : spL A (k + 1) = spL A k := by rw [spL]; (repeat (first | rw [if_pos (by omega)] | rw [if_neg (by omega)]))
          have e2 : spH A (k + 1) = (k : Int) := by rw [spH]; (repeat (first | rw [if_pos (by omega)] | rw [if_neg (by omega)]))
          have k9 := ih (k + 1) (by omega) (by omega)
          rw [e1, e2] at k9
          exact k9
        · refine q_iload_n dX6_spread_31 rfl rfl ?_
          refine q_goto (tgt := 36) dX6_spread_32 (by decide) ?_
          refine q_istore_n dX6_spread_36 rfl (by decide) ?_
          show sE g_tt _ _ _ 37 [some (.ref 0), some (.int (iZ (k : Int))), some (.int (iZ (spH A k))), some (.int (iZ (k : Int)))] [] σ
          refine q_iload_n dX6_spread_37 rfl rfl ?_
          refine q_istore_n dX6_spread_38 rfl (by decide) ?_
          show sE g_tt _ _ _ 39 [some (.ref 0), some (.int (iZ (k : Int))), some (.int (iZ (k : Int))), some (.int (iZ (k : Int)))] [] σ
          refine z_iinc dX6_spread_39 rfl (by decide) ?_
          show sE g_tt _ _ _ 42 [some (.ref 0), some (.int (iZ (k : Int))), some (.int (iZ (k : Int))), some (.int (iZ ((k : Int) + 1)))] [] σ
          refine q_goto (tgt := 6) dX6_spread_42 (by decide) ?_
          have e1 : spL A (k + 1) = (k : Int) := by rw [spL]; (repeat (first | rw [if_pos (by omega)] | rw [if_neg (by omega)]))
          have e2 : spH A (k + 1) = (k : Int) := by rw [spH]; (repeat (first | rw [if_pos (by omega)] | rw [if_neg (by omega)]))
          have k9 := ih (k + 1) (by omega) (by omega)
          rw [e1, e2] at k9
          exact k9
set_option maxHeartbeats 4000000 in
set_option maxRecDepth 100000 in
theorem x_spread {d : Nat} (hd : 1 ≤ d) (σ : gS) {W V : wF} {A I : Nat → Int} {c nt : Int} (hc : c ≤ 88000) (hn4 : nt ≤ 4) (ok : okR c nt A) (oi : okR c (I 1) I) (C : clR σ W V A I) : sC mX6_spread d [.ref 0] σ (fun r σ' => r = some (.int (iZ (mSpO A (A 0).toNat))) ∧ σ' = σ) := by
  have g := ok_gd hc hn4 ok
  have g0 := g.1
  have n1 := ok.2.2.1
  have a2 := ok_2 ok
  have g10 := g.2.2.2.2.1
  have gL : gd 100000 4 A := gd_mono g (by decide)
  have rk := rA_ok (w0_of C) gL a2.1 a2.2
  refine sC_of rfl (Nat.le_of_ble_eq_true rfl) ?_
  show sE g_tt _ _ _ 0 [some (.ref 0), none, none, none] [] σ
  refine z_iconst dX6_spread_0 ?_
  refine q_istore_n dX6_spread_1 rfl (by decide) ?_
  show sE g_tt _ _ _ 2 [some (.ref 0), some (.int (iZ (-1))), none, none] [] σ
  refine z_iconst dX6_spread_2 ?_
  refine q_istore_n dX6_spread_3 rfl (by decide) ?_
  show sE g_tt _ _ _ 4 [some (.ref 0), some (.int (iZ (-1))), some (.int (iZ (-1))), none] [] σ
  refine z_iconst dX6_spread_4 ?_
  refine q_istore_n dX6_spread_5 rfl (by decide) ?_
  show sE g_tt _ _ _ 6 [some (.ref 0), some (.int (iZ (-1))), some (.int (iZ (-1))), some (.int (iZ 0))] [] σ
  exact lx_spread hd σ hc hn4 ok oi C 9 0 (by omega) (by omega)
