/-! ===== kindness and people told; a town taken over ===== -/
def inS (a : Nat) : Prop := 11 ≤ a ∧ a < 161
theorem sR_st (σ : gS) (s k : Nat) (z : Int) : sR σ (s + 1) k z = st σ s (va_up (σ.2.1 (s + 1)) k z) (σ.2.1 (s + 2)) (σ.2.1 (s + 3)) (σ.2.1 (s + 4)) (σ.1 s) := by
  have h := st_sK σ s (σ.2.1 (s + 1)) (σ.2.1 (s + 2)) (σ.2.1 (s + 3)) (σ.2.1 (s + 4)) (σ.1 s) k z
  rw [st_id] at h
  exact h
theorem c_addS {d s : Nat} (hs : kd s = 2) (σ : gS) {v : Int} (h0 : 0 ≤ σ.1 s 2) (h5 : σ.1 s 2 < 5) : sC mX2_addPerson d [.ref s, .int (iZ v)] σ (fun r σ' => r = none ∧ σ' = st σ s (σ.2.1 (s + 1)) (va_up (σ.2.1 (s + 2)) (σ.1 s 2).toNat v) (σ.2.1 (s + 3)) (σ.2.1 (s + 4)) (va_up (σ.1 s) 2 (σ.1 s 2 + 1))) := by
  have h := c_addPerson (d := d) hs σ (σ.2.1 (s + 1)) (σ.2.1 (s + 2)) (σ.2.1 (s + 3)) (σ.2.1 (s + 4)) (σ.1 s) (v := v) h0 h5
  rw [st_id] at h
  exact h
/-- one more person in a street -/
def addP (A : Nat → Int) (v : Int) : Nat → Int := va_up (va_up A (19 + A 0).toNat v) 0 (A 0 + 1)
theorem trR_add {on : Int} {K H E f A : Nat → Int} (h : trR on K H E f A) (h0 : 0 ≤ A 0) (h5 : A 0 < 5) (v : Int) : trR on K (va_up H (f 2).toNat v) E (va_up f 2 (f 2 + 1)) (addP A v) := by
  have f2 := h.2.2.1.1
  have e : ∀ i, i ≠ 0 → i ≠ (19 + A 0).toNat → addP A v i = A i := fun i a b => by unfold addP; rw [va_up_ne _ _ a, va_up_ne _ _ b]
  have e0 : addP A v 0 = A 0 + 1 := va_up_self _ _ _
  refine ⟨fun j hj => ?_, fun p hp => ?_, ?_, ?_, fun q => ?_⟩
  · rw [e _ (by omega) (by omega)]; exact h.1 j hj
  · rw [e0] at hp
    by_cases c : p = (f 2).toNat
    · subst c
      rw [va_up_self]
      unfold addP
      rw [va_up_ne _ _ (by omega), show 19 + (f 2).toNat = (19 + A 0).toNat by omega, va_up_self]
    · rw [va_up_ne _ _ c, e _ (by omega) (by omega)]; exact h.2.1 p (by omega)
  · have a := h.2.2.1
    rw [e0, e 8 (by omega) (by omega), e 7 (by omega) (by omega), e 9 (by omega) (by omega), e 5 (by omega) (by omega), e 6 (by omega) (by omega)]
    exact ⟨by rw [va_up_self, f2], a.2⟩
  · rw [va_up_ne _ _ (by decide)]; exact h.2.2.2.1
  · rw [va_up_ne _ _ (by decide), e 10 (by omega) (by omega)]
    exact ⟨(h.2.2.2.2 q).1, fun i hi => by rw [e _ (by omega) (by omega)]; exact (h.2.2.2.2 q).2 i hi⟩
/-- the streets of the steps, the first k of them changed -/
def stepsR (σ : gS) (π : Nat → Nat) (n k : Nat) (A B : Nat → Nat → Int) : Prop := ∀ i, i < n → trS 1 σ (π i) (if i < k then B i else A i)
def piOK (π : Nat → Nat) : Prop := (∀ i, i < 30 → 11 ≤ π i ∧ π i + 5 ≤ 161 ∧ kd (π i) = 2) ∧ ∀ i j, i < 30 → j < 30 → π i = π j → i = j
theorem stepsR_st {σ : gS} {π : Nat → Nat} {n k : Nat} {A B : Nat → Nat → Int} (hp : piOK π) (hn : n ≤ 30) (hk : k < n) (h : stepsR σ π n k A B) {K H E N f : Nat → Int} (hb : trR 1 K H E f (B k)) : stepsR (st σ (π k) K H E N f) π n (k + 1) A B := by
  intro i hi
  by_cases e : i = k
  · subst e; rw [if_pos (by omega)]; exact trS_st hb
  · have h1 := h i hi
    have pk := hp.1 k (by omega)
    have pi := hp.1 i (by omega)
    have dd := kd_two pk.2.2 pi.2.2 (fun q => e (hp.2 _ _ (by omega) (by omega) q))
    have h2 : trS 1 (st σ (π k) K H E N f) (π i) (if i < k then B i else A i) := trS_ch h1 (chg_st _ _ _ _ _ _ _) (fun a x y => by omega)
    by_cases q : i < k
    · rw [if_pos q] at h2; rw [if_pos (by omega)]; exact h2
    · rw [if_neg q] at h2; rw [if_neg (by omega)]; exact h2
set_option maxHeartbeats 4000000 in
set_option maxRecDepth 100000 in
theorem lp_tellKind {d h : Nat} (hh : h < 8) {v : Int} (σ0 : gS) (π : Nat → Nat) (hp : piOK π) (hπ : ∀ i, i < 30 → σ0.2.2.2.2 7 i = some (π i)) {n : Nat} (hn : n ≤ 30) (hn2 : σ0.1 1 2 = (n : Int)) (A B : Nat → Nat → Int) (hB : ∀ i, i < n → B i = va_up (A i) (11 + h) v) : ∀ (g : Nat) (k : Nat) (σ1 : gS), k ≤ n → chg inS σ0 σ1 → stepsR σ1 π n k A B → (n : Int) - (k : Int) < (g : Int) → sE g_tt mX5_tellKindness d (fun r σ' => r = none ∧ chg inS σ0 σ' ∧ stepsR σ' π n n A B) 12 [some (.ref 1), some (.int (iZ (h : Int))), some (.int (iZ v)), some (.int (iZ (k : Int)))] [] σ1 := by
  intro g
  induction g with
  | zero =>
    intro k σ1 hk hc1 hR hg
    exact absurd hg (by omega)
  | succ g ih =>
    intro k σ1 hk hc1 hR hg
    refine q_iload_n dX5_tellKindness_12 rfl rfl ?_
    refine q_aload_n dX5_tellKindness_13 rfl rfl ?_
    refine sg5 (kf := 2) (v := .int (iZ (n : Int))) dX5_tellKindness_14 flX5_22 (show kd 1 = 5 from rfl) (by decide) (by show some (Value.int (iZ (σ1.1 1 2))) = _; rw [(hc1.1 1 (by unfold inS; omega)).1, hn2]) ?_
    refine z_icmp_ge (tgt := 44) dX5_tellKindness_17 (by decide) (by unfold inR at *; omega) (by unfold inR at *; omega) (fun c_1 => ?_) (fun c_1 => ?_)
    · exact s_vret dX5_tellKindness_44 rfl ⟨rfl, hc1, by rw [show n = k by omega] at hR ⊢; exact hR⟩
    · refine q_iload_n dX5_tellKindness_20 rfl rfl ?_
      refine z_bipush dX5_tellKindness_21 (by decide +kernel) ?_
      refine z_icmp_ge (tgt := 44) dX5_tellKindness_23 (by decide) (by unfold inR at *; omega) (by unfold inR at *; omega) (fun c_2 => ?_) (fun c_2 => ?_)
      · exact s_vret dX5_tellKindness_44 rfl ⟨rfl, hc1, by rw [show n = k by omega] at hR ⊢; exact hR⟩
      · refine q_aload_n dX5_tellKindness_26 rfl rfl ?_
        refine sg5 (kf := 1) (v := .ref 7) dX5_tellKindness_27 flX5_18 (show kd 1 = 5 from rfl) (by decide) rfl ?_
        refine q_iload_n dX5_tellKindness_30 rfl rfl ?_
        refine s_aaldS (n := 30) (x := (π k)) dX5_tellKindness_31 (show kd 7 = 300000 + 30 from rfl) (by omega) (by omega) (by decide) (by show σ1.2.2.2.2 7 k = _; rw [(hc1.1 7 (by unfold inS; omega)).2.2.1]; exact hπ k (by omega)) ?_
        refine sg2 (kf := 0) (v := .ref ((π k) + 1)) dX5_tellKindness_32 flX5_55 (hp.1 k (by omega)).2.2 (by decide) rfl ?_
        refine q_iload_n dX5_tellKindness_35 rfl rfl ?_
        refine q_iload_n dX5_tellKindness_36 rfl rfl ?_
        refine s_iast (n := 8) dX5_tellKindness_37 (kd_st (hp.1 k (by omega)).2.2).1 (by omega) (by omega) (by decide) ?_
        refine z_iinc dX5_tellKindness_38 rfl (by decide) ?_
        show sE g_tt _ _ _ 41 [some (.ref 1), some (.int (iZ (h : Int))), some (.int (iZ v)), some (.int (iZ ((k : Int) + 1)))] [] (sR σ1 ((π k) + 1) h v)
        refine q_goto (tgt := 12) dX5_tellKindness_41 (by decide) ?_
        have pk := hp.1 k (by omega)
        refine sE_eq (sR_st σ1 (π k) h v).symm (ih (k + 1) _ (by omega) (chg_tr hc1 (chg_mono (chg_st _ _ _ _ _ _ _) (fun a q => by unfold inS; omega))) (stepsR_st hp hn (by omega) hR ?_) (by omega))
        have h1 := hR k (by omega)
        rw [if_neg (by omega)] at h1
        rw [hB k (by omega)]
        exact trR_kind h1 hh v
set_option maxHeartbeats 4000000 in
set_option maxRecDepth 100000 in
theorem c_tellKind {d h : Nat} (hh : h < 8) {v : Int} (σ : gS) (π : Nat → Nat) (hp : piOK π) (hπ : ∀ i, i < 30 → σ.2.2.2.2 7 i = some (π i)) {n : Nat} (hn : n ≤ 30) (hn2 : σ.1 1 2 = (n : Int)) (A B : Nat → Nat → Int) (hB : ∀ i, i < n → B i = va_up (A i) (11 + h) v) (hR0 : stepsR (sR σ 3 h v) π n 0 A B) : sC mX5_tellKindness d [.ref 1, .int (iZ (h : Int)), .int (iZ v)] σ (fun r σ' => r = none ∧ chg inS (sR σ 3 h v) σ' ∧ stepsR σ' π n n A B) := by
  refine sC_of rfl (Nat.le_of_ble_eq_true rfl) ?_
  show sE g_tt _ _ _ 0 [some (.ref 1), some (.int (iZ (h : Int))), some (.int (iZ v)), none] [] σ
  refine q_aload_n dX5_tellKindness_0 rfl rfl ?_
  refine sg5 (kf := 0) (v := .ref 2) dX5_tellKindness_1 flX5_12 (show kd 1 = 5 from rfl) (by decide) rfl ?_
  refine sg2 (kf := 0) (v := .ref 3) dX5_tellKindness_4 flX5_55 (show kd 2 = 2 from rfl) (by decide) rfl ?_
  refine q_iload_n dX5_tellKindness_7 rfl rfl ?_
  refine q_iload_n dX5_tellKindness_8 rfl rfl ?_
  refine s_iast (n := 8) dX5_tellKindness_9 (show kd 3 = 100 + 8 from rfl) (by omega) (by omega) (by decide) ?_
  refine z_iconst dX5_tellKindness_10 ?_
  refine q_istore_n dX5_tellKindness_11 rfl (by decide) ?_
  show sE g_tt _ _ _ 12 [some (.ref 1), some (.int (iZ (h : Int))), some (.int (iZ v)), some (.int (iZ 0))] [] (sR σ 3 h v)
  exact lp_tellKind hh (sR σ 3 h v) π hp hπ hn hn2 A B hB (n + 1) 0 _ (by omega) (chg_rf _ _) hR0 (by omega)
set_option maxHeartbeats 4000000 in
set_option maxRecDepth 100000 in
theorem lp_tellPer {d : Nat} (hd : 1 ≤ d) {v : Int} (σ0 : gS) (π : Nat → Nat) (hp : piOK π) (hπ : ∀ i, i < 30 → σ0.2.2.2.2 7 i = some (π i)) {n : Nat} (hn : n ≤ 30) (hn2 : σ0.1 1 2 = (n : Int)) (A B : Nat → Nat → Int) (hB : ∀ i, i < n → B i = addP (A i) v) (h05 : ∀ i, i < n → 0 ≤ A i 0 ∧ A i 0 < 5) : ∀ (g : Nat) (k : Nat) (σ1 : gS), k ≤ n → chg inS σ0 σ1 → stepsR σ1 π n k A B → (n : Int) - (k : Int) < (g : Int) → sE g_tt mX5_tellPerson d (fun r σ' => r = none ∧ chg inS σ0 σ' ∧ stepsR σ' π n n A B) 10 [some (.ref 1), some (.int (iZ v)), some (.int (iZ (k : Int)))] [] σ1 := by
  intro g
  induction g with
  | zero =>
    intro k σ1 hk hc1 hR hg
    exact absurd hg (by omega)
  | succ g ih =>
    intro k σ1 hk hc1 hR hg
    rcases Nat.lt_or_ge k n with hkn | hkn
    · have h1 := hR k (by omega)
      rw [if_neg (by omega)] at h1
      refine q_iload_n dX5_tellPerson_10 rfl rfl ?_
      refine q_aload_n dX5_tellPerson_11 rfl rfl ?_
      refine sg5 (kf := 2) (v := .int (iZ (n : Int))) dX5_tellPerson_12 flX5_22 (show kd 1 = 5 from rfl) (by decide) (by show some (Value.int (iZ (σ1.1 1 2))) = _; rw [(hc1.1 1 (by unfold inS; omega)).1, hn2]) ?_
      refine z_icmp_ge (tgt := 40) dX5_tellPerson_15 (by decide) (by unfold inR at *; omega) (by unfold inR at *; omega) (fun c_1 => ?_) (fun c_1 => ?_)
      · exfalso
        omega
      · refine q_iload_n dX5_tellPerson_18 rfl rfl ?_
        refine z_bipush dX5_tellPerson_19 (by decide +kernel) ?_
        refine z_icmp_ge (tgt := 40) dX5_tellPerson_21 (by decide) (by unfold inR at *; omega) (by unfold inR at *; omega) (fun c_2 => ?_) (fun c_2 => ?_)
        · exfalso
          omega
        · refine q_aload_n dX5_tellPerson_24 rfl rfl ?_
          refine sg5 (kf := 1) (v := .ref 7) dX5_tellPerson_25 flX5_18 (show kd 1 = 5 from rfl) (by decide) rfl ?_
          refine q_iload_n dX5_tellPerson_28 rfl rfl ?_
          refine s_aaldS (n := 30) (x := (π k)) dX5_tellPerson_29 (show kd 7 = 300000 + 30 from rfl) (by omega) (by omega) (by decide) (by show σ1.2.2.2.2 7 k = _; rw [(hc1.1 7 (by unfold inS; omega)).2.2.1]; exact hπ k (by omega)) ?_
          refine q_iload_n dX5_tellPerson_30 rfl rfl ?_
          refine s_callV (ci := 2) (a := (π k)) (As := [.int (iZ v)]) (S := []) dX5_tellPerson_31 okX2_addPerson mlX5_58 rfl (by omega) rfl (Nat.le_of_ble_eq_true rfl) (hp.1 k (by omega)).2.2 (by decide) rfl (c_addS (d := d - 1) (s := π k) (hp.1 k (by omega)).2.2 σ1 (by rw [h1.2.2.1.1]; exact (h05 k (by omega)).1) (by rw [h1.2.2.1.1]; exact (h05 k (by omega)).2)) (fun v_ σ_ hq => ?_)
          obtain ⟨rfl, e9⟩ := hq
          have e9 := e9.symm
          subst e9
          show sE g_tt _ _ _ 34 [some (.ref 1), some (.int (iZ v)), some (.int (iZ (k : Int)))] [] (st σ1 (π k) (σ1.2.1 (π k + 1)) (va_up (σ1.2.1 (π k + 2)) (σ1.1 (π k) 2).toNat v) (σ1.2.1 (π k + 3)) (σ1.2.1 (π k + 4)) (va_up (σ1.1 (π k)) 2 (σ1.1 (π k) 2 + 1)))
          refine z_iinc dX5_tellPerson_34 rfl (by decide) ?_
          show sE g_tt _ _ _ 37 [some (.ref 1), some (.int (iZ v)), some (.int (iZ ((k : Int) + 1)))] [] (st σ1 (π k) (σ1.2.1 (π k + 1)) (va_up (σ1.2.1 (π k + 2)) (σ1.1 (π k) 2).toNat v) (σ1.2.1 (π k + 3)) (σ1.2.1 (π k + 4)) (va_up (σ1.1 (π k)) 2 (σ1.1 (π k) 2 + 1)))
          refine q_goto (tgt := 10) dX5_tellPerson_37 (by decide) ?_
          have pk := hp.1 k (by omega)
          refine ih (k + 1) _ (by omega) (chg_tr hc1 (chg_mono (chg_st _ _ _ _ _ _ _) (fun a q => by unfold inS; omega))) (stepsR_st hp hn (by omega) hR ?_) (by omega)
          rw [hB k (by omega)]
          exact trR_add h1 (h05 k (by omega)).1 (h05 k (by omega)).2 v
    · refine q_iload_n dX5_tellPerson_10 rfl rfl ?_
      refine q_aload_n dX5_tellPerson_11 rfl rfl ?_
      refine sg5 (kf := 2) (v := .int (iZ (n : Int))) dX5_tellPerson_12 flX5_22 (show kd 1 = 5 from rfl) (by decide) (by show some (Value.int (iZ (σ1.1 1 2))) = _; rw [(hc1.1 1 (by unfold inS; omega)).1, hn2]) ?_
      refine z_icmp_ge (tgt := 40) dX5_tellPerson_15 (by decide) (by unfold inR at *; omega) (by unfold inR at *; omega) (fun c_1 => ?_) (fun c_1 => ?_)
      · exact s_vret dX5_tellPerson_40 rfl ⟨rfl, hc1, by rw [show n = k by omega] at hR ⊢; exact hR⟩
      · refine q_iload_n dX5_tellPerson_18 rfl rfl ?_
        refine z_bipush dX5_tellPerson_19 (by decide +kernel) ?_
        refine z_icmp_ge (tgt := 40) dX5_tellPerson_21 (by decide) (by unfold inR at *; omega) (by unfold inR at *; omega) (fun c_2 => ?_) (fun c_2 => ?_)
        · exact s_vret dX5_tellPerson_40 rfl ⟨rfl, hc1, by rw [show n = k by omega] at hR ⊢; exact hR⟩
        · exfalso
          omega
set_option maxHeartbeats 4000000 in
set_option maxRecDepth 100000 in
theorem c_tellPer {d : Nat} (hd : 1 ≤ d) {v : Int} (σ : gS) (π : Nat → Nat) (hp : piOK π) (hπ : ∀ i, i < 30 → σ.2.2.2.2 7 i = some (π i)) {n : Nat} (hn : n ≤ 30) (hn2 : σ.1 1 2 = (n : Int)) (A B : Nat → Nat → Int) (hB : ∀ i, i < n → B i = addP (A i) v) (h05 : ∀ i, i < n → 0 ≤ A i 0 ∧ A i 0 < 5) (h0 : 0 ≤ σ.1 2 2) (h5 : σ.1 2 2 < 5) (hR0 : stepsR (st σ 2 (σ.2.1 (2 + 1)) (va_up (σ.2.1 (2 + 2)) (σ.1 2 2).toNat v) (σ.2.1 (2 + 3)) (σ.2.1 (2 + 4)) (va_up (σ.1 2) 2 (σ.1 2 2 + 1))) π n 0 A B) : sC mX5_tellPerson d [.ref 1, .int (iZ v)] σ (fun r σ' => r = none ∧ chg inS (st σ 2 (σ.2.1 (2 + 1)) (va_up (σ.2.1 (2 + 2)) (σ.1 2 2).toNat v) (σ.2.1 (2 + 3)) (σ.2.1 (2 + 4)) (va_up (σ.1 2) 2 (σ.1 2 2 + 1))) σ' ∧ stepsR σ' π n n A B) := by
  refine sC_of rfl (Nat.le_of_ble_eq_true rfl) ?_
  show sE g_tt _ _ _ 0 [some (.ref 1), some (.int (iZ v)), none] [] σ
  refine q_aload_n dX5_tellPerson_0 rfl rfl ?_
  refine sg5 (kf := 0) (v := .ref 2) dX5_tellPerson_1 flX5_12 (show kd 1 = 5 from rfl) (by decide) rfl ?_
  refine q_iload_n dX5_tellPerson_4 rfl rfl ?_
  refine s_callV (ci := 2) (a := 2) (As := [.int (iZ v)]) (S := []) dX5_tellPerson_5 okX2_addPerson mlX5_58 rfl (by omega) rfl (Nat.le_of_ble_eq_true rfl) (show kd 2 = 2 from rfl) (by decide) rfl (c_addS (d := d - 1) (s := 2) rfl σ h0 h5) (fun v_ σ_ hq => ?_)
  obtain ⟨rfl, e9⟩ := hq
  have e9 := e9.symm
  subst e9
  show sE g_tt _ _ _ 8 [some (.ref 1), some (.int (iZ v)), none] [] (st σ 2 (σ.2.1 (2 + 1)) (va_up (σ.2.1 (2 + 2)) (σ.1 2 2).toNat v) (σ.2.1 (2 + 3)) (σ.2.1 (2 + 4)) (va_up (σ.1 2) 2 (σ.1 2 2 + 1)))
  refine z_iconst dX5_tellPerson_8 ?_
  refine q_istore_n dX5_tellPerson_9 rfl (by decide) ?_
  show sE g_tt _ _ _ 10 [some (.ref 1), some (.int (iZ v)), some (.int (iZ 0))] [] (st σ 2 (σ.2.1 (2 + 1)) (va_up (σ.2.1 (2 + 2)) (σ.1 2 2).toNat v) (σ.2.1 (2 + 3)) (σ.2.1 (2 + 4)) (va_up (σ.1 2) 2 (σ.1 2 2 + 1)))
  exact lp_tellPer hd (st σ 2 (σ.2.1 (2 + 1)) (va_up (σ.2.1 (2 + 2)) (σ.1 2 2).toNat v) (σ.2.1 (2 + 3)) (σ.2.1 (2 + 4)) (va_up (σ.1 2) 2 (σ.1 2 2 + 1))) π hp hπ hn (by rw [st_o1 _ _ _ _ _ _ (by decide)]; exact hn2) A B hB h05 (n + 1) 0 _ (by omega) (chg_rf _ _) hR0 (by omega)
