/-! ===== what a law of the class asks ===== -/
/-- how many of the first n people are in house z -/
def cCn (A : Nat → Int) (z : Int) : Nat → Int
  | 0 => 0
  | n + 1 => cCn A z n + (if A (19 + n) = z then 1 else 0)
theorem cCn_ran (A : Nat → Int) (z : Int) : ∀ n : Nat, 0 ≤ cCn A z n ∧ cCn A z n ≤ (n : Int) := by
  intro n
  induction n with
  | zero => exact ⟨Int.le_refl _, Int.le_refl _⟩
  | succ n ih => rw [cCn]; split <;> omega
def bs5 (m : Nat) : Nat → Nat
  | 0 => 0
  | n + 1 => bs5 m n + (if m.testBit n then 1 else 0)
theorem bs5_bits : ∀ m, m < 32 → mBits (m + 1) m = bs5 m 5 := by decide +kernel
theorem bs5_cn (A : Nat → Int) (z : Int) (n : Nat) : ∀ k, k ≤ n → ((bs5 (mPeo A z n) k : Nat) : Int) = cCn A z k := by
  intro k
  induction k with
  | zero => intro _; rfl
  | succ k ih =>
    intro hk
    have i9 := ih (by omega)
    rw [bs5, cCn, mPeo_bit]
    by_cases c : A (19 + k) = z
    · rw [if_pos c, if_pos (by simp [c]; omega)]; omega
    · rw [if_neg c, if_neg (by simp [c])]; omega
theorem bs5_hi (A : Nat → Int) (z : Int) (n : Nat) : ∀ k, bs5 (mPeo A z n) (n + k) = bs5 (mPeo A z n) n := by
  intro k
  induction k with
  | zero => rfl
  | succ k ih => rw [← Nat.add_assoc, bs5, ih, mPeo_bit, if_neg (by simp; omega)]; rfl
theorem cCn_bits {A : Nat → Int} (h0 : 0 ≤ A 0) (h5 : A 0 ≤ 5) (z : Int) : ((mBits (mPeo A z (A 0).toNat + 1) (mPeo A z (A 0).toNat) : Nat) : Int) = cCn A z (A 0).toNat := by
  have q := mPeo_lt A z (A 0).toNat
  have q2 : 2 ^ (A 0).toNat ≤ 2 ^ 5 := Nat.pow_le_pow_right (by decide) (by omega)
  have e := bs5_hi A z (A 0).toNat (5 - (A 0).toNat)
  rw [show (A 0).toNat + (5 - (A 0).toNat) = 5 by omega] at e
  rw [bs5_bits _ (by omega), e]
  exact bs5_cn A z _ _ (Nat.le_refl _)
set_option maxHeartbeats 4000000 in
set_option maxRecDepth 100000 in
theorem lp_countIn {d s : Nat} (hs : kd s = 2) (σ : gS) (K H E N f : Nat → Int) {z : Int} (hz : inR z) {on : Int} {A : Nat → Int} {c nt : Int} (g : gd c nt A) (tr : trR on K H E f A) : ∀ (n : Nat) (p : Nat), (p : Int) ≤ A 0 → A 0 - (p : Int) < (n : Int) → sE g_tt mX2_countIn d (fun r σ' => r = some (.int (iZ (cCn A z (A 0).toNat))) ∧ σ' = st σ s K H E N f) 4 [some (.ref s), some (.int (iZ z)), some (.int (iZ (cCn A z p))), some (.int (iZ (p : Int)))] [] (st σ s K H E N f) := by
  intro n
  induction n with
  | zero =>
    intro p hp hn
    exact absurd hn (by omega)
  | succ n ih =>
    intro p hp hn
    have g0 := g.1
    have f2 := tr.2.2.1.1
    have cr := cCn_ran A z p
    refine q_iload_n dX2_countIn_4 rfl rfl ?_
    refine q_aload_n dX2_countIn_5 rfl rfl ?_
    refine tg (kf := 2) (x := f 2) dX2_countIn_6 flX2_18 hs (by decide) rfl ?_
    refine z_icmp_ge (tgt := 36) dX2_countIn_9 (by decide) (by unfold inR at *; omega) (by unfold inR at *; omega) (fun c_1 => ?_) (fun c_1 => ?_)
    · refine q_iload_n dX2_countIn_36 rfl rfl ?_
      exact s_iretZ dX2_countIn_37 rfl ⟨by rw [show (A 0).toNat = p by omega], rfl⟩
    · refine q_iload_n dX2_countIn_12 rfl rfl ?_
      refine z_iconst dX2_countIn_13 ?_
      refine z_icmp_ge (tgt := 36) dX2_countIn_14 (by decide) (by unfold inR at *; omega) (by unfold inR at *; omega) (fun c_2 => ?_) (fun c_2 => ?_)
      · refine q_iload_n dX2_countIn_36 rfl rfl ?_
        exact s_iretZ dX2_countIn_37 rfl ⟨by rw [show (A 0).toNat = p by omega], rfl⟩
      · refine q_aload_n dX2_countIn_17 rfl rfl ?_
        refine sg2 (kf := 1) (v := .ref (s + 2)) dX2_countIn_18 flX2_15 hs (by decide) rfl ?_
        refine q_iload_n dX2_countIn_21 rfl rfl ?_
        refine tl2 (x := H p) dX2_countIn_22 hs (by omega) (by omega) rfl ?_
        refine q_iload_n dX2_countIn_23 rfl rfl ?_
        refine z_icmp_ne (tgt := 30) dX2_countIn_24 (by decide) (by rw [tr.2.1 p (by omega)]; exact gdh g p (by omega)) (by unfold inR at *; omega) (fun c_3 => ?_) (fun c_3 => ?_)
        · refine z_iinc dX2_countIn_30 rfl (by decide) ?_
          show sE g_tt _ _ _ 33 [some (.ref s), some (.int (iZ z)), some (.int (iZ (cCn A z p))), some (.int (iZ ((p : Int) + 1)))] [] (st σ s K H E N f)
          refine q_goto (tgt := 4) dX2_countIn_33 (by decide) ?_
          have e : cCn A z (p + 1) = cCn A z p := by rw [cCn, if_neg (by rw [← tr.2.1 p (by omega)]; omega)]; omega
          have k9 := ih (p + 1) (by omega) (by omega)
          rw [e] at k9
          exact k9
        · refine z_iinc dX2_countIn_27 rfl (by decide) ?_
          show sE g_tt _ _ _ 30 [some (.ref s), some (.int (iZ z)), some (.int (iZ (cCn A z p + 1))), some (.int (iZ (p : Int)))] [] (st σ s K H E N f)
          refine z_iinc dX2_countIn_30 rfl (by decide) ?_
          show sE g_tt _ _ _ 33 [some (.ref s), some (.int (iZ z)), some (.int (iZ (cCn A z p + 1))), some (.int (iZ ((p : Int) + 1)))] [] (st σ s K H E N f)
          refine q_goto (tgt := 4) dX2_countIn_33 (by decide) ?_
          have e : cCn A z (p + 1) = cCn A z p + 1 := by rw [cCn, if_pos (by rw [← tr.2.1 p (by omega)]; omega)]
          have k9 := ih (p + 1) (by omega) (by omega)
          rw [e] at k9
          exact k9
set_option maxHeartbeats 4000000 in
set_option maxRecDepth 100000 in
theorem c_countIn {d s : Nat} (hs : kd s = 2) (σ : gS) (K H E N f : Nat → Int) {z : Int} (hz : inR z) {on : Int} {A : Nat → Int} {c nt : Int} (g : gd c nt A) (tr : trR on K H E f A) : sC mX2_countIn d [.ref s, .int (iZ z)] (st σ s K H E N f) (fun r σ' => r = some (.int (iZ (cCn A z (A 0).toNat))) ∧ σ' = st σ s K H E N f) := by
  refine sC_of rfl (Nat.le_of_ble_eq_true rfl) ?_
  show sE g_tt _ _ _ 0 [some (.ref s), some (.int (iZ z)), none, none] [] (st σ s K H E N f)
  refine z_iconst dX2_countIn_0 ?_
  refine q_istore_n dX2_countIn_1 rfl (by decide) ?_
  show sE g_tt _ _ _ 2 [some (.ref s), some (.int (iZ z)), some (.int (iZ 0)), none] [] (st σ s K H E N f)
  refine z_iconst dX2_countIn_2 ?_
  refine q_istore_n dX2_countIn_3 rfl (by decide) ?_
  show sE g_tt _ _ _ 4 [some (.ref s), some (.int (iZ z)), some (.int (iZ 0)), some (.int (iZ 0))] [] (st σ s K H E N f)
  exact lp_countIn hs σ K H E N f hz g tr 6 0 (by have := g.1; omega) (by have := g.1; omega)
set_option maxHeartbeats 4000000 in
set_option maxRecDepth 100000 in
theorem c_kindOf {d s : Nat} (hs : kd s = 2) (σ : gS) (K H E N f : Nat → Int) {z : Int} (hz : inR z) {on : Int} {A : Nat → Int} {c nt : Int} (g : gd c nt A) (tr : trR on K H E f A) : sC mX2_kindnessOf d [.ref s, .int (iZ z)] (st σ s K H E N f) (fun r σ' => r = some (.int (iZ (mHk A z))) ∧ σ' = st σ s K H E N f) := by
  refine sC_of rfl (Nat.le_of_ble_eq_true rfl) ?_
  show sE g_tt _ _ _ 0 [some (.ref s), some (.int (iZ z))] [] (st σ s K H E N f)
  refine q_iload_n dX2_kindnessOf_0 rfl rfl ?_
  refine z_if_lt (tgt := 19) dX2_kindnessOf_1 (by decide) (by unfold inR at *; omega) (fun c_1 => ?_) (fun c_1 => ?_)
  · refine z_iconst dX2_kindnessOf_19 ?_
    exact s_iretZ dX2_kindnessOf_20 rfl ⟨by unfold mHk; rw [if_neg (by omega)], rfl⟩
  · refine q_iload_n dX2_kindnessOf_4 rfl rfl ?_
    refine z_bipush dX2_kindnessOf_5 (by decide +kernel) ?_
    refine z_icmp_ge (tgt := 19) dX2_kindnessOf_7 (by decide) (by unfold inR at *; omega) (by unfold inR at *; omega) (fun c_2 => ?_) (fun c_2 => ?_)
    · refine z_iconst dX2_kindnessOf_19 ?_
      exact s_iretZ dX2_kindnessOf_20 rfl ⟨by unfold mHk; rw [if_neg (by omega)], rfl⟩
    · refine q_aload_n dX2_kindnessOf_10 rfl rfl ?_
      refine sg2 (kf := 0) (v := .ref (s + 1)) dX2_kindnessOf_11 flX2_9 hs (by decide) rfl ?_
      refine q_iload_n dX2_kindnessOf_14 rfl rfl ?_
      refine tl1 (x := K z.toNat) dX2_kindnessOf_15 hs (by omega) (by omega) rfl ?_
      refine q_goto (tgt := 20) dX2_kindnessOf_16 (by decide) ?_
      exact s_iretZ dX2_kindnessOf_20 rfl ⟨by unfold mHk; rw [if_pos (by omega), show (11 + z).toNat = 11 + z.toNat by omega, tr.1 z.toNat (by omega)], rfl⟩
theorem mHk_ran {c nt : Int} {A : Nat → Int} (g : gd c nt A) (hc : c ≤ 100000) (z : Int) : 0 ≤ mHk A z ∧ mHk A z ≤ 100000 := by
  unfold mHk
  split
  · have := kd_ran g (h := z.toNat) (by omega)
    rw [show (11 + z).toNat = 11 + z.toNat by omega]; omega
  · omega
/-- names of the class's law -/
def cNa (A : Nat → Int) (h : Nat) (op v : Nat) : Int := if op = 7 then A 5 else if op = 19 then A 7 else if op = 20 then (h : Int) else if op = 3 then mHk A (h : Int) else if op = 21 then cCn A (h : Int) (A 0).toNat else if op = 22 then mHk A ((h : Int) - 1) else if op = 23 then mHk A ((h : Int) + 1) else if op = 24 then A 9 else (v : Int)
def cCh (A : Nat → Int) (op : Nat) (b : Int) : Int := if op = 11 then mHk A b else if op = 18 then (if b = 0 then 1 else 0) else -b
def cJn (op : Nat) (a b : Int) : Int := if op = 29 then a + b else if op = 30 then a - b else if op = 31 then a * b else if op = 32 then (if b = 0 then 0 else a.tdiv b) else if op = 9 then max 0 (a - b) else if op = 17 then (if a = 0 ∨ b = 0 then 0 else 1) else if op = 16 then (if a = 0 ∧ b = 0 then 0 else 1) else if op = 25 then (if a < b then 1 else 0) else if op = 36 then (if a ≤ b then 1 else 0) else if op = 26 then (if b < a then 1 else 0) else if op = 37 then (if b ≤ a then 1 else 0) else if op = 27 then (if a = b then 1 else 0) else (if a = b then 0 else 1)
def cTk (op : Nat) : Nat := if op = 38 ∨ op = 7 ∨ op = 19 ∨ op = 20 ∨ op = 3 ∨ op = 21 ∨ op = 22 ∨ op = 23 ∨ op = 24 ∨ op = 14 then 0 else if op = 12 ∨ op = 41 ∨ op = 18 ∨ op = 11 then 1 else 2
set_option maxHeartbeats 4000000 in
set_option maxRecDepth 100000 in
theorem c_operands {d op : Nat} (ho : op < 64) (σ : gS) : sC mX4_operands d [.int (iZ (op : Int))] σ (fun r σ' => r = some (.int (iZ ((cTk op : Nat) : Int))) ∧ σ' = σ) := by
  refine sC_of rfl (Nat.le_of_ble_eq_true rfl) ?_
  show sE g_tt _ _ _ 0 [some (.int (iZ (op : Int)))] [] σ
  refine q_iload_n dX4_operands_0 rfl rfl ?_
  by_cases s_1 : (op : Int) = 3
  · refine z_top s_1 ?_
    refine q_tableIn (tgt := 172) (off := 171) dX4_operands_1 (by decide +kernel) (by decide +kernel) (by decide +kernel) (by decide) ?_
    refine z_iconst dX4_operands_172 ?_
    exact s_iretZ dX4_operands_173 rfl ⟨by unfold cTk; (repeat (first | rw [if_pos (by omega)] | rw [if_neg (by omega)])); (try rfl), rfl⟩
  by_cases s_2 : (op : Int) = 4
  · refine z_top s_2 ?_
    refine q_tableIn (tgt := 176) (off := 175) dX4_operands_1 (by decide +kernel) (by decide +kernel) (by decide +kernel) (by decide) ?_
    refine z_iconst dX4_operands_176 ?_
    exact s_iretZ dX4_operands_177 rfl ⟨by unfold cTk; (repeat (first | rw [if_pos (by omega)] | rw [if_neg (by omega)])); (try rfl), rfl⟩
  by_cases s_3 : (op : Int) = 5
  · refine z_top s_3 ?_
    refine q_tableIn (tgt := 176) (off := 175) dX4_operands_1 (by decide +kernel) (by decide +kernel) (by decide +kernel) (by decide) ?_
    refine z_iconst dX4_operands_176 ?_
    exact s_iretZ dX4_operands_177 rfl ⟨by unfold cTk; (repeat (first | rw [if_pos (by omega)] | rw [if_neg (by omega)])); (try rfl), rfl⟩
  by_cases s_4 : (op : Int) = 6
  · refine z_top s_4 ?_
    refine q_tableIn (tgt := 176) (off := 175) dX4_operands_1 (by decide +kernel) (by decide +kernel) (by decide +kernel) (by decide) ?_
    refine z_iconst dX4_operands_176 ?_
    exact s_iretZ dX4_operands_177 rfl ⟨by unfold cTk; (repeat (first | rw [if_pos (by omega)] | rw [if_neg (by omega)])); (try rfl), rfl⟩
  by_cases s_5 : (op : Int) = 7
  · refine z_top s_5 ?_
    refine q_tableIn (tgt := 172) (off := 171) dX4_operands_1 (by decide +kernel) (by decide +kernel) (by decide +kernel) (by decide) ?_
    refine z_iconst dX4_operands_172 ?_
    exact s_iretZ dX4_operands_173 rfl ⟨by unfold cTk; (repeat (first | rw [if_pos (by omega)] | rw [if_neg (by omega)])); (try rfl), rfl⟩
  by_cases s_6 : (op : Int) = 8
  · refine z_top s_6 ?_
    refine q_tableIn (tgt := 176) (off := 175) dX4_operands_1 (by decide +kernel) (by decide +kernel) (by decide +kernel) (by decide) ?_
    refine z_iconst dX4_operands_176 ?_
    exact s_iretZ dX4_operands_177 rfl ⟨by unfold cTk; (repeat (first | rw [if_pos (by omega)] | rw [if_neg (by omega)])); (try rfl), rfl⟩
  by_cases s_7 : (op : Int) = 9
  · refine z_top s_7 ?_
    refine q_tableIn (tgt := 176) (off := 175) dX4_operands_1 (by decide +kernel) (by decide +kernel) (by decide +kernel) (by decide) ?_
    refine z_iconst dX4_operands_176 ?_
    exact s_iretZ dX4_operands_177 rfl ⟨by unfold cTk; (repeat (first | rw [if_pos (by omega)] | rw [if_neg (by omega)])); (try rfl), rfl⟩
  by_cases s_8 : (op : Int) = 10
  · refine z_top s_8 ?_
    refine q_tableIn (tgt := 176) (off := 175) dX4_operands_1 (by decide +kernel) (by decide +kernel) (by decide +kernel) (by decide) ?_
    refine z_iconst dX4_operands_176 ?_
    exact s_iretZ dX4_operands_177 rfl ⟨by unfold cTk; (repeat (first | rw [if_pos (by omega)] | rw [if_neg (by omega)])); (try rfl), rfl⟩
  by_cases s_9 : (op : Int) = 11
  · refine z_top s_9 ?_
    refine q_tableIn (tgt := 174) (off := 173) dX4_operands_1 (by decide +kernel) (by decide +kernel) (by decide +kernel) (by decide) ?_
    refine z_iconst dX4_operands_174 ?_
    exact s_iretZ dX4_operands_175 rfl ⟨by unfold cTk; (repeat (first | rw [if_pos (by omega)] | rw [if_neg (by omega)])); (try rfl), rfl⟩
  by_cases s_10 : (op : Int) = 12
  · refine z_top s_10 ?_
    refine q_tableIn (tgt := 174) (off := 173) dX4_operands_1 (by decide +kernel) (by decide +kernel) (by decide +kernel) (by decide) ?_
    refine z_iconst dX4_operands_174 ?_
    exact s_iretZ dX4_operands_175 rfl ⟨by unfold cTk; (repeat (first | rw [if_pos (by omega)] | rw [if_neg (by omega)])); (try rfl), rfl⟩
  by_cases s_11 : (op : Int) = 13
  · refine z_top s_11 ?_
    refine q_tableIn (tgt := 176) (off := 175) dX4_operands_1 (by decide +kernel) (by decide +kernel) (by decide +kernel) (by decide) ?_
    refine z_iconst dX4_operands_176 ?_
    exact s_iretZ dX4_operands_177 rfl ⟨by unfold cTk; (repeat (first | rw [if_pos (by omega)] | rw [if_neg (by omega)])); (try rfl), rfl⟩
  by_cases s_12 : (op : Int) = 14
  · refine z_top s_12 ?_
    refine q_tableIn (tgt := 172) (off := 171) dX4_operands_1 (by decide +kernel) (by decide +kernel) (by decide +kernel) (by decide) ?_
    refine z_iconst dX4_operands_172 ?_
    exact s_iretZ dX4_operands_173 rfl ⟨by unfold cTk; (repeat (first | rw [if_pos (by omega)] | rw [if_neg (by omega)])); (try rfl), rfl⟩
  by_cases s_13 : (op : Int) = 15
  · refine z_top s_13 ?_
    refine q_tableIn (tgt := 176) (off := 175) dX4_operands_1 (by decide +kernel) (by decide +kernel) (by decide +kernel) (by decide) ?_
    refine z_iconst dX4_operands_176 ?_
    exact s_iretZ dX4_operands_177 rfl ⟨by unfold cTk; (repeat (first | rw [if_pos (by omega)] | rw [if_neg (by omega)])); (try rfl), rfl⟩
  by_cases s_14 : (op : Int) = 16
  · refine z_top s_14 ?_
    refine q_tableIn (tgt := 176) (off := 175) dX4_operands_1 (by decide +kernel) (by decide +kernel) (by decide +kernel) (by decide) ?_
    refine z_iconst dX4_operands_176 ?_
    exact s_iretZ dX4_operands_177 rfl ⟨by unfold cTk; (repeat (first | rw [if_pos (by omega)] | rw [if_neg (by omega)])); (try rfl), rfl⟩
  by_cases s_15 : (op : Int) = 17
  · refine z_top s_15 ?_
    refine q_tableIn (tgt := 176) (off := 175) dX4_operands_1 (by decide +kernel) (by decide +kernel) (by decide +kernel) (by decide) ?_
    refine z_iconst dX4_operands_176 ?_
    exact s_iretZ dX4_operands_177 rfl ⟨by unfold cTk; (repeat (first | rw [if_pos (by omega)] | rw [if_neg (by omega)])); (try rfl), rfl⟩
  by_cases s_16 : (op : Int) = 18
  · refine z_top s_16 ?_
    refine q_tableIn (tgt := 174) (off := 173) dX4_operands_1 (by decide +kernel) (by decide +kernel) (by decide +kernel) (by decide) ?_
    refine z_iconst dX4_operands_174 ?_
    exact s_iretZ dX4_operands_175 rfl ⟨by unfold cTk; (repeat (first | rw [if_pos (by omega)] | rw [if_neg (by omega)])); (try rfl), rfl⟩
  by_cases s_17 : (op : Int) = 19
  · refine z_top s_17 ?_
    refine q_tableIn (tgt := 172) (off := 171) dX4_operands_1 (by decide +kernel) (by decide +kernel) (by decide +kernel) (by decide) ?_
    refine z_iconst dX4_operands_172 ?_
    exact s_iretZ dX4_operands_173 rfl ⟨by unfold cTk; (repeat (first | rw [if_pos (by omega)] | rw [if_neg (by omega)])); (try rfl), rfl⟩
  by_cases s_18 : (op : Int) = 20
  · refine z_top s_18 ?_
    refine q_tableIn (tgt := 172) (off := 171) dX4_operands_1 (by decide +kernel) (by decide +kernel) (by decide +kernel) (by decide) ?_
    refine z_iconst dX4_operands_172 ?_
    exact s_iretZ dX4_operands_173 rfl ⟨by unfold cTk; (repeat (first | rw [if_pos (by omega)] | rw [if_neg (by omega)])); (try rfl), rfl⟩
  by_cases s_19 : (op : Int) = 21
  · refine z_top s_19 ?_
    refine q_tableIn (tgt := 172) (off := 171) dX4_operands_1 (by decide +kernel) (by decide +kernel) (by decide +kernel) (by decide) ?_
    refine z_iconst dX4_operands_172 ?_
    exact s_iretZ dX4_operands_173 rfl ⟨by unfold cTk; (repeat (first | rw [if_pos (by omega)] | rw [if_neg (by omega)])); (try rfl), rfl⟩
  by_cases s_20 : (op : Int) = 22
  · refine z_top s_20 ?_
    refine q_tableIn (tgt := 172) (off := 171) dX4_operands_1 (by decide +kernel) (by decide +kernel) (by decide +kernel) (by decide) ?_
    refine z_iconst dX4_operands_172 ?_
    exact s_iretZ dX4_operands_173 rfl ⟨by unfold cTk; (repeat (first | rw [if_pos (by omega)] | rw [if_neg (by omega)])); (try rfl), rfl⟩
  by_cases s_21 : (op : Int) = 23
  · refine z_top s_21 ?_
    refine q_tableIn (tgt := 172) (off := 171) dX4_operands_1 (by decide +kernel) (by decide +kernel) (by decide +kernel) (by decide) ?_
    refine z_iconst dX4_operands_172 ?_
    exact s_iretZ dX4_operands_173 rfl ⟨by unfold cTk; (repeat (first | rw [if_pos (by omega)] | rw [if_neg (by omega)])); (try rfl), rfl⟩
  by_cases s_22 : (op : Int) = 24
  · refine z_top s_22 ?_
    refine q_tableIn (tgt := 172) (off := 171) dX4_operands_1 (by decide +kernel) (by decide +kernel) (by decide +kernel) (by decide) ?_
    refine z_iconst dX4_operands_172 ?_
    exact s_iretZ dX4_operands_173 rfl ⟨by unfold cTk; (repeat (first | rw [if_pos (by omega)] | rw [if_neg (by omega)])); (try rfl), rfl⟩
  by_cases s_23 : (op : Int) = 25
  · refine z_top s_23 ?_
    refine q_tableIn (tgt := 176) (off := 175) dX4_operands_1 (by decide +kernel) (by decide +kernel) (by decide +kernel) (by decide) ?_
    refine z_iconst dX4_operands_176 ?_
    exact s_iretZ dX4_operands_177 rfl ⟨by unfold cTk; (repeat (first | rw [if_pos (by omega)] | rw [if_neg (by omega)])); (try rfl), rfl⟩
  by_cases s_24 : (op : Int) = 26
  · refine z_top s_24 ?_
    refine q_tableIn (tgt := 176) (off := 175) dX4_operands_1 (by decide +kernel) (by decide +kernel) (by decide +kernel) (by decide) ?_
    refine z_iconst dX4_operands_176 ?_
    exact s_iretZ dX4_operands_177 rfl ⟨by unfold cTk; (repeat (first | rw [if_pos (by omega)] | rw [if_neg (by omega)])); (try rfl), rfl⟩
  by_cases s_25 : (op : Int) = 27
  · refine z_top s_25 ?_
    refine q_tableIn (tgt := 176) (off := 175) dX4_operands_1 (by decide +kernel) (by decide +kernel) (by decide +kernel) (by decide) ?_
    refine z_iconst dX4_operands_176 ?_
    exact s_iretZ dX4_operands_177 rfl ⟨by unfold cTk; (repeat (first | rw [if_pos (by omega)] | rw [if_neg (by omega)])); (try rfl), rfl⟩
  by_cases s_26 : (op : Int) = 28
  · refine z_top s_26 ?_
    refine q_tableIn (tgt := 176) (off := 175) dX4_operands_1 (by decide +kernel) (by decide +kernel) (by decide +kernel) (by decide) ?_
    refine z_iconst dX4_operands_176 ?_
    exact s_iretZ dX4_operands_177 rfl ⟨by unfold cTk; (repeat (first | rw [if_pos (by omega)] | rw [if_neg (by omega)])); (try rfl), rfl⟩
  by_cases s_27 : (op : Int) = 29
  · refine z_top s_27 ?_
    refine q_tableIn (tgt := 176) (off := 175) dX4_operands_1 (by decide +kernel) (by decide +kernel) (by decide +kernel) (by decide) ?_
    refine z_iconst dX4_operands_176 ?_
    exact s_iretZ dX4_operands_177 rfl ⟨by unfold cTk; (repeat (first | rw [if_pos (by omega)] | rw [if_neg (by omega)])); (try rfl), rfl⟩
  by_cases s_28 : (op : Int) = 30
  · refine z_top s_28 ?_
    refine q_tableIn (tgt := 176) (off := 175) dX4_operands_1 (by decide +kernel) (by decide +kernel) (by decide +kernel) (by decide) ?_
    refine z_iconst dX4_operands_176 ?_
    exact s_iretZ dX4_operands_177 rfl ⟨by unfold cTk; (repeat (first | rw [if_pos (by omega)] | rw [if_neg (by omega)])); (try rfl), rfl⟩
  by_cases s_29 : (op : Int) = 31
  · refine z_top s_29 ?_
    refine q_tableIn (tgt := 176) (off := 175) dX4_operands_1 (by decide +kernel) (by decide +kernel) (by decide +kernel) (by decide) ?_
    refine z_iconst dX4_operands_176 ?_
    exact s_iretZ dX4_operands_177 rfl ⟨by unfold cTk; (repeat (first | rw [if_pos (by omega)] | rw [if_neg (by omega)])); (try rfl), rfl⟩
  by_cases s_30 : (op : Int) = 32
  · refine z_top s_30 ?_
    refine q_tableIn (tgt := 176) (off := 175) dX4_operands_1 (by decide +kernel) (by decide +kernel) (by decide +kernel) (by decide) ?_
    refine z_iconst dX4_operands_176 ?_
    exact s_iretZ dX4_operands_177 rfl ⟨by unfold cTk; (repeat (first | rw [if_pos (by omega)] | rw [if_neg (by omega)])); (try rfl), rfl⟩
  by_cases s_31 : (op : Int) = 33
  · refine z_top s_31 ?_
    refine q_tableIn (tgt := 176) (off := 175) dX4_operands_1 (by decide +kernel) (by decide +kernel) (by decide +kernel) (by decide) ?_
    refine z_iconst dX4_operands_176 ?_
    exact s_iretZ dX4_operands_177 rfl ⟨by unfold cTk; (repeat (first | rw [if_pos (by omega)] | rw [if_neg (by omega)])); (try rfl), rfl⟩
  by_cases s_32 : (op : Int) = 34
  · refine z_top s_32 ?_
    refine q_tableIn (tgt := 176) (off := 175) dX4_operands_1 (by decide +kernel) (by decide +kernel) (by decide +kernel) (by decide) ?_
    refine z_iconst dX4_operands_176 ?_
    exact s_iretZ dX4_operands_177 rfl ⟨by unfold cTk; (repeat (first | rw [if_pos (by omega)] | rw [if_neg (by omega)])); (try rfl), rfl⟩
  by_cases s_33 : (op : Int) = 35
  · refine z_top s_33 ?_
    refine q_tableIn (tgt := 176) (off := 175) dX4_operands_1 (by decide +kernel) (by decide +kernel) (by decide +kernel) (by decide) ?_
    refine z_iconst dX4_operands_176 ?_
    exact s_iretZ dX4_operands_177 rfl ⟨by unfold cTk; (repeat (first | rw [if_pos (by omega)] | rw [if_neg (by omega)])); (try rfl), rfl⟩
  by_cases s_34 : (op : Int) = 36
  · refine z_top s_34 ?_
    refine q_tableIn (tgt := 176) (off := 175) dX4_operands_1 (by decide +kernel) (by decide +kernel) (by decide +kernel) (by decide) ?_
    refine z_iconst dX4_operands_176 ?_
    exact s_iretZ dX4_operands_177 rfl ⟨by unfold cTk; (repeat (first | rw [if_pos (by omega)] | rw [if_neg (by omega)])); (try rfl), rfl⟩
  by_cases s_35 : (op : Int) = 37
  · refine z_top s_35 ?_
    refine q_tableIn (tgt := 176) (off := 175) dX4_operands_1 (by decide +kernel) (by decide +kernel) (by decide +kernel) (by decide) ?_
    refine z_iconst dX4_operands_176 ?_
    exact s_iretZ dX4_operands_177 rfl ⟨by unfold cTk; (repeat (first | rw [if_pos (by omega)] | rw [if_neg (by omega)])); (try rfl), rfl⟩
  by_cases s_36 : (op : Int) = 38
  · refine z_top s_36 ?_
    refine q_tableIn (tgt := 172) (off := 171) dX4_operands_1 (by decide +kernel) (by decide +kernel) (by decide +kernel) (by decide) ?_
    refine z_iconst dX4_operands_172 ?_
    exact s_iretZ dX4_operands_173 rfl ⟨by unfold cTk; (repeat (first | rw [if_pos (by omega)] | rw [if_neg (by omega)])); (try rfl), rfl⟩
  by_cases s_37 : (op : Int) = 39
  · refine z_top s_37 ?_
    refine q_tableIn (tgt := 176) (off := 175) dX4_operands_1 (by decide +kernel) (by decide +kernel) (by decide +kernel) (by decide) ?_
    refine z_iconst dX4_operands_176 ?_
    exact s_iretZ dX4_operands_177 rfl ⟨by unfold cTk; (repeat (first | rw [if_pos (by omega)] | rw [if_neg (by omega)])); (try rfl), rfl⟩
  by_cases s_38 : (op : Int) = 40
  · refine z_top s_38 ?_
    refine q_tableIn (tgt := 176) (off := 175) dX4_operands_1 (by decide +kernel) (by decide +kernel) (by decide +kernel) (by decide) ?_
    refine z_iconst dX4_operands_176 ?_
    exact s_iretZ dX4_operands_177 rfl ⟨by unfold cTk; (repeat (first | rw [if_pos (by omega)] | rw [if_neg (by omega)])); (try rfl), rfl⟩
  by_cases s_39 : (op : Int) = 41
  · refine z_top s_39 ?_
    refine q_tableIn (tgt := 174) (off := 173) dX4_operands_1 (by decide +kernel) (by decide +kernel) (by decide +kernel) (by decide) ?_
    refine z_iconst dX4_operands_174 ?_
    exact s_iretZ dX4_operands_175 rfl ⟨by unfold cTk; (repeat (first | rw [if_pos (by omega)] | rw [if_neg (by omega)])); (try rfl), rfl⟩
  refine q_tableOut (tgt := 176) dX4_operands_1 (by rw [iZ_toInt (by unfold inR at *; omega)]; omega) (by decide) ?_
  refine z_iconst dX4_operands_176 ?_
  exact s_iretZ dX4_operands_177 rfl ⟨by unfold cTk; (repeat (first | rw [if_pos (by omega)] | rw [if_neg (by omega)])); (try rfl), rfl⟩
set_option maxHeartbeats 4000000 in
set_option maxRecDepth 100000 in
theorem c_named {d s h op v : Nat} (hd : 1 ≤ d) (hh : h < 8) (ho : op < 64) (hv : v ≤ 1000000) (hs : kd s = 2) (σ : gS) (K H E N f : Nat → Int) {on : Int} {A : Nat → Int} {c nt : Int} (g : gd c nt A) (tr : trR on K H E f A) (hc : c ≤ 100000) : sC mX4_named d [.int (iZ (op : Int)), .int (iZ (v : Int)), .ref s, .int (iZ (h : Int))] (st σ s K H E N f) (fun r σ' => r = some (.long (lZ (cNa A h op v))) ∧ σ' = st σ s K H E N f) := by
  have f2 := tr.2.2.1
  have g0 := g.1
  have g5 := g.2.2.2.2.2
  refine sC_of rfl (Nat.le_of_ble_eq_true rfl) ?_
  show sE g_tt _ _ _ 0 [some (.int (iZ (op : Int))), some (.int (iZ (v : Int))), some (.ref s), some (.int (iZ (h : Int)))] [] (st σ s K H E N f)
  refine q_iload_n dX4_named_0 rfl rfl ?_
  by_cases s_1 : (op : Int) = 3
  · refine z_top s_1 ?_
    refine q_tableIn (tgt := 119) (off := 118) dX4_named_1 (by decide +kernel) (by decide +kernel) (by decide +kernel) (by decide) ?_
    refine q_aload_n dX4_named_119 rfl rfl ?_
    refine q_iload_n dX4_named_120 rfl rfl ?_
    refine s_callV (ci := 2) (a := s) (As := [.int (iZ (h : Int))]) (S := []) dX4_named_121 okX2_kindnessOf mlX4_92 rfl (by omega) rfl (Nat.le_of_ble_eq_true rfl) hs (by decide) rfl (c_kindOf (d := d - 1) hs σ K H E N f (z := (h : Int)) (by unfold inR; omega) g tr) (fun v_ σ_ hq => ?_)
    obtain ⟨rfl, e9⟩ := hq
    have e9 := e9.symm
    subst e9
    have kr := mHk_ran g hc ((h : Int))
    show sE g_tt _ _ _ 124 [some (.int (iZ (op : Int))), some (.int (iZ (v : Int))), some (.ref s), some (.int (iZ (h : Int)))] [.int (iZ (mHk A (h : Int)))] (st σ s K H E N f)
    refine z_i2l dX4_named_124 (by unfold inR at *; omega) ?_
    exact s_lret dX4_named_125 rfl ⟨by unfold cNa; (repeat (first | rw [if_pos (by omega)] | rw [if_neg (by omega)])); (try rfl), rfl⟩
  by_cases s_2 : (op : Int) = 4
  · refine z_top s_2 ?_
    refine q_tableIn (tgt := 157) (off := 156) dX4_named_1 (by decide +kernel) (by decide +kernel) (by decide +kernel) (by decide) ?_
    refine q_iload_n dX4_named_157 rfl rfl ?_
    refine z_i2l dX4_named_158 (by unfold inR at *; omega) ?_
    exact s_lret dX4_named_159 rfl ⟨by unfold cNa; (repeat (first | rw [if_pos (by omega)] | rw [if_neg (by omega)])); (try rfl), rfl⟩
  by_cases s_3 : (op : Int) = 5
  · refine z_top s_3 ?_
    refine q_tableIn (tgt := 157) (off := 156) dX4_named_1 (by decide +kernel) (by decide +kernel) (by decide +kernel) (by decide) ?_
    refine q_iload_n dX4_named_157 rfl rfl ?_
    refine z_i2l dX4_named_158 (by unfold inR at *; omega) ?_
    exact s_lret dX4_named_159 rfl ⟨by unfold cNa; (repeat (first | rw [if_pos (by omega)] | rw [if_neg (by omega)])); (try rfl), rfl⟩
  by_cases s_4 : (op : Int) = 6
  · refine z_top s_4 ?_
    refine q_tableIn (tgt := 157) (off := 156) dX4_named_1 (by decide +kernel) (by decide +kernel) (by decide +kernel) (by decide) ?_
    refine q_iload_n dX4_named_157 rfl rfl ?_
    refine z_i2l dX4_named_158 (by unfold inR at *; omega) ?_
    exact s_lret dX4_named_159 rfl ⟨by unfold cNa; (repeat (first | rw [if_pos (by omega)] | rw [if_neg (by omega)])); (try rfl), rfl⟩
  by_cases s_5 : (op : Int) = 7
  · refine z_top s_5 ?_
    refine q_tableIn (tgt := 104) (off := 103) dX4_named_1 (by decide +kernel) (by decide +kernel) (by decide +kernel) (by decide) ?_
    refine q_aload_n dX4_named_104 rfl rfl ?_
    refine tg (kf := 6) (x := f 6) dX4_named_105 flX4_89 hs (by decide) rfl ?_
    refine z_i2l dX4_named_108 (by unfold inR at *; omega) ?_
    exact s_lret dX4_named_109 rfl ⟨by unfold cNa; (repeat (first | rw [if_pos (by omega)] | rw [if_neg (by omega)])); rw [tr.2.2.1.2.2.2.2.1]; (try rfl), rfl⟩
  by_cases s_6 : (op : Int) = 8
  · refine z_top s_6 ?_
    refine q_tableIn (tgt := 157) (off := 156) dX4_named_1 (by decide +kernel) (by decide +kernel) (by decide +kernel) (by decide) ?_
    refine q_iload_n dX4_named_157 rfl rfl ?_
    refine z_i2l dX4_named_158 (by unfold inR at *; omega) ?_
    exact s_lret dX4_named_159 rfl ⟨by unfold cNa; (repeat (first | rw [if_pos (by omega)] | rw [if_neg (by omega)])); (try rfl), rfl⟩
  by_cases s_7 : (op : Int) = 9
  · refine z_top s_7 ?_
    refine q_tableIn (tgt := 157) (off := 156) dX4_named_1 (by decide +kernel) (by decide +kernel) (by decide +kernel) (by decide) ?_
    refine q_iload_n dX4_named_157 rfl rfl ?_
    refine z_i2l dX4_named_158 (by unfold inR at *; omega) ?_
    exact s_lret dX4_named_159 rfl ⟨by unfold cNa; (repeat (first | rw [if_pos (by omega)] | rw [if_neg (by omega)])); (try rfl), rfl⟩
  by_cases s_8 : (op : Int) = 10
  · refine z_top s_8 ?_
    refine q_tableIn (tgt := 157) (off := 156) dX4_named_1 (by decide +kernel) (by decide +kernel) (by decide +kernel) (by decide) ?_
    refine q_iload_n dX4_named_157 rfl rfl ?_
    refine z_i2l dX4_named_158 (by unfold inR at *; omega) ?_
    exact s_lret dX4_named_159 rfl ⟨by unfold cNa; (repeat (first | rw [if_pos (by omega)] | rw [if_neg (by omega)])); (try rfl), rfl⟩
  by_cases s_9 : (op : Int) = 11
  · refine z_top s_9 ?_
    refine q_tableIn (tgt := 157) (off := 156) dX4_named_1 (by decide +kernel) (by decide +kernel) (by decide +kernel) (by decide) ?_
    refine q_iload_n dX4_named_157 rfl rfl ?_
    refine z_i2l dX4_named_158 (by unfold inR at *; omega) ?_
    exact s_lret dX4_named_159 rfl ⟨by unfold cNa; (repeat (first | rw [if_pos (by omega)] | rw [if_neg (by omega)])); (try rfl), rfl⟩
  by_cases s_10 : (op : Int) = 12
  · refine z_top s_10 ?_
    refine q_tableIn (tgt := 157) (off := 156) dX4_named_1 (by decide +kernel) (by decide +kernel) (by decide +kernel) (by decide) ?_
    refine q_iload_n dX4_named_157 rfl rfl ?_
    refine z_i2l dX4_named_158 (by unfold inR at *; omega) ?_
    exact s_lret dX4_named_159 rfl ⟨by unfold cNa; (repeat (first | rw [if_pos (by omega)] | rw [if_neg (by omega)])); (try rfl), rfl⟩
  by_cases s_11 : (op : Int) = 13
  · refine z_top s_11 ?_
    refine q_tableIn (tgt := 157) (off := 156) dX4_named_1 (by decide +kernel) (by decide +kernel) (by decide +kernel) (by decide) ?_
    refine q_iload_n dX4_named_157 rfl rfl ?_
    refine z_i2l dX4_named_158 (by unfold inR at *; omega) ?_
    exact s_lret dX4_named_159 rfl ⟨by unfold cNa; (repeat (first | rw [if_pos (by omega)] | rw [if_neg (by omega)])); (try rfl), rfl⟩
  by_cases s_12 : (op : Int) = 14
  · refine z_top s_12 ?_
    refine q_tableIn (tgt := 157) (off := 156) dX4_named_1 (by decide +kernel) (by decide +kernel) (by decide +kernel) (by decide) ?_
    refine q_iload_n dX4_named_157 rfl rfl ?_
    refine z_i2l dX4_named_158 (by unfold inR at *; omega) ?_
    exact s_lret dX4_named_159 rfl ⟨by unfold cNa; (repeat (first | rw [if_pos (by omega)] | rw [if_neg (by omega)])); (try rfl), rfl⟩
  by_cases s_13 : (op : Int) = 15
  · refine z_top s_13 ?_
    refine q_tableIn (tgt := 157) (off := 156) dX4_named_1 (by decide +kernel) (by decide +kernel) (by decide +kernel) (by decide) ?_
    refine q_iload_n dX4_named_157 rfl rfl ?_
    refine z_i2l dX4_named_158 (by unfold inR at *; omega) ?_
    exact s_lret dX4_named_159 rfl ⟨by unfold cNa; (repeat (first | rw [if_pos (by omega)] | rw [if_neg (by omega)])); (try rfl), rfl⟩
  by_cases s_14 : (op : Int) = 16
  · refine z_top s_14 ?_
    refine q_tableIn (tgt := 157) (off := 156) dX4_named_1 (by decide +kernel) (by decide +kernel) (by decide +kernel) (by decide) ?_
    refine q_iload_n dX4_named_157 rfl rfl ?_
    refine z_i2l dX4_named_158 (by unfold inR at *; omega) ?_
    exact s_lret dX4_named_159 rfl ⟨by unfold cNa; (repeat (first | rw [if_pos (by omega)] | rw [if_neg (by omega)])); (try rfl), rfl⟩
  by_cases s_15 : (op : Int) = 17
  · refine z_top s_15 ?_
    refine q_tableIn (tgt := 157) (off := 156) dX4_named_1 (by decide +kernel) (by decide +kernel) (by decide +kernel) (by decide) ?_
    refine q_iload_n dX4_named_157 rfl rfl ?_
    refine z_i2l dX4_named_158 (by unfold inR at *; omega) ?_
    exact s_lret dX4_named_159 rfl ⟨by unfold cNa; (repeat (first | rw [if_pos (by omega)] | rw [if_neg (by omega)])); (try rfl), rfl⟩
  by_cases s_16 : (op : Int) = 18
  · refine z_top s_16 ?_
    refine q_tableIn (tgt := 157) (off := 156) dX4_named_1 (by decide +kernel) (by decide +kernel) (by decide +kernel) (by decide) ?_
    refine q_iload_n dX4_named_157 rfl rfl ?_
    refine z_i2l dX4_named_158 (by unfold inR at *; omega) ?_
    exact s_lret dX4_named_159 rfl ⟨by unfold cNa; (repeat (first | rw [if_pos (by omega)] | rw [if_neg (by omega)])); (try rfl), rfl⟩
  by_cases s_17 : (op : Int) = 19
  · refine z_top s_17 ?_
    refine q_tableIn (tgt := 110) (off := 109) dX4_named_1 (by decide +kernel) (by decide +kernel) (by decide +kernel) (by decide) ?_
    refine q_aload_n dX4_named_110 rfl rfl ?_
    refine tg (kf := 4) (x := f 4) dX4_named_111 flX4_56 hs (by decide) rfl ?_
    refine z_i2l dX4_named_114 (by unfold inR at *; omega) ?_
    exact s_lret dX4_named_115 rfl ⟨by unfold cNa; (repeat (first | rw [if_pos (by omega)] | rw [if_neg (by omega)])); rw [tr.2.2.1.2.2.1]; (try rfl), rfl⟩
  by_cases s_18 : (op : Int) = 20
  · refine z_top s_18 ?_
    refine q_tableIn (tgt := 116) (off := 115) dX4_named_1 (by decide +kernel) (by decide +kernel) (by decide +kernel) (by decide) ?_
    refine q_iload_n dX4_named_116 rfl rfl ?_
    refine z_i2l dX4_named_117 (by unfold inR at *; omega) ?_
    exact s_lret dX4_named_118 rfl ⟨by unfold cNa; (repeat (first | rw [if_pos (by omega)] | rw [if_neg (by omega)])); (try rfl), rfl⟩
  by_cases s_19 : (op : Int) = 21
  · refine z_top s_19 ?_
    refine q_tableIn (tgt := 126) (off := 125) dX4_named_1 (by decide +kernel) (by decide +kernel) (by decide +kernel) (by decide) ?_
    refine q_aload_n dX4_named_126 rfl rfl ?_
    refine q_iload_n dX4_named_127 rfl rfl ?_
    refine s_callV (ci := 2) (a := s) (As := [.int (iZ (h : Int))]) (S := []) dX4_named_128 okX2_countIn mlX4_95 rfl (by omega) rfl (Nat.le_of_ble_eq_true rfl) hs (by decide) rfl (c_countIn (d := d - 1) hs σ K H E N f (z := (h : Int)) (by unfold inR; omega) g tr) (fun v_ σ_ hq => ?_)
    obtain ⟨rfl, e9⟩ := hq
    have e9 := e9.symm
    subst e9
    have kr := cCn_ran A (h : Int) (A 0).toNat
    show sE g_tt _ _ _ 131 [some (.int (iZ (op : Int))), some (.int (iZ (v : Int))), some (.ref s), some (.int (iZ (h : Int)))] [.int (iZ (cCn A (h : Int) (A 0).toNat))] (st σ s K H E N f)
    refine z_i2l dX4_named_131 (by unfold inR at *; omega) ?_
    exact s_lret dX4_named_132 rfl ⟨by unfold cNa; (repeat (first | rw [if_pos (by omega)] | rw [if_neg (by omega)])); (try rfl), rfl⟩
  by_cases s_20 : (op : Int) = 22
  · refine z_top s_20 ?_
    refine q_tableIn (tgt := 133) (off := 132) dX4_named_1 (by decide +kernel) (by decide +kernel) (by decide +kernel) (by decide) ?_
    refine q_aload_n dX4_named_133 rfl rfl ?_
    refine q_iload_n dX4_named_134 rfl rfl ?_
    refine z_iconst dX4_named_135 ?_
    refine z_isub dX4_named_136 ?_
    refine s_callV (ci := 2) (a := s) (As := [.int (iZ ((h : Int) - 1))]) (S := []) dX4_named_137 okX2_kindnessOf mlX4_92 rfl (by omega) rfl (Nat.le_of_ble_eq_true rfl) hs (by decide) rfl (c_kindOf (d := d - 1) hs σ K H E N f (z := (h : Int) - 1) (by unfold inR; omega) g tr) (fun v_ σ_ hq => ?_)
    obtain ⟨rfl, e9⟩ := hq
    have e9 := e9.symm
    subst e9
    have kr := mHk_ran g hc ((h : Int) - 1)
    show sE g_tt _ _ _ 140 [some (.int (iZ (op : Int))), some (.int (iZ (v : Int))), some (.ref s), some (.int (iZ (h : Int)))] [.int (iZ (mHk A ((h : Int) - 1)))] (st σ s K H E N f)
    refine z_i2l dX4_named_140 (by unfold inR at *; omega) ?_
    exact s_lret dX4_named_141 rfl ⟨by unfold cNa; (repeat (first | rw [if_pos (by omega)] | rw [if_neg (by omega)])); (try rfl), rfl⟩
  by_cases s_21 : (op : Int) = 23
  · refine z_top s_21 ?_
    refine q_tableIn (tgt := 142) (off := 141) dX4_named_1 (by decide +kernel) (by decide +kernel) (by decide +kernel) (by decide) ?_
    refine q_aload_n dX4_named_142 rfl rfl ?_
    refine q_iload_n dX4_named_143 rfl rfl ?_
    refine z_iconst dX4_named_144 ?_
    refine z_iadd dX4_named_145 ?_
    refine s_callV (ci := 2) (a := s) (As := [.int (iZ ((h : Int) + 1))]) (S := []) dX4_named_146 okX2_kindnessOf mlX4_92 rfl (by omega) rfl (Nat.le_of_ble_eq_true rfl) hs (by decide) rfl (c_kindOf (d := d - 1) hs σ K H E N f (z := (h : Int) + 1) (by unfold inR; omega) g tr) (fun v_ σ_ hq => ?_)
    obtain ⟨rfl, e9⟩ := hq
    have e9 := e9.symm
    subst e9
    have kr := mHk_ran g hc ((h : Int) + 1)
    show sE g_tt _ _ _ 149 [some (.int (iZ (op : Int))), some (.int (iZ (v : Int))), some (.ref s), some (.int (iZ (h : Int)))] [.int (iZ (mHk A ((h : Int) + 1)))] (st σ s K H E N f)
    refine z_i2l dX4_named_149 (by unfold inR at *; omega) ?_
    exact s_lret dX4_named_150 rfl ⟨by unfold cNa; (repeat (first | rw [if_pos (by omega)] | rw [if_neg (by omega)])); (try rfl), rfl⟩
  by_cases s_22 : (op : Int) = 24
  · refine z_top s_22 ?_
    refine q_tableIn (tgt := 151) (off := 150) dX4_named_1 (by decide +kernel) (by decide +kernel) (by decide +kernel) (by decide) ?_
    refine q_aload_n dX4_named_151 rfl rfl ?_
    refine tg (kf := 5) (x := f 5) dX4_named_152 flX4_98 hs (by decide) rfl ?_
    refine z_i2l dX4_named_155 (by unfold inR at *; omega) ?_
    exact s_lret dX4_named_156 rfl ⟨by unfold cNa; (repeat (first | rw [if_pos (by omega)] | rw [if_neg (by omega)])); rw [tr.2.2.1.2.2.2.1]; (try rfl), rfl⟩
  refine q_tableOut (tgt := 157) dX4_named_1 (by rw [iZ_toInt (by unfold inR at *; omega)]; omega) (by decide) ?_
  refine q_iload_n dX4_named_157 rfl rfl ?_
  refine z_i2l dX4_named_158 (by unfold inR at *; omega) ?_
  exact s_lret dX4_named_159 rfl ⟨by unfold cNa; (repeat (first | rw [if_pos (by omega)] | rw [if_neg (by omega)])); (try rfl), rfl⟩
set_option maxHeartbeats 4000000 in
set_option maxRecDepth 100000 in
theorem c_changed {d s op : Nat} (hd : 1 ≤ d) (ho : op < 64) {b : Int} (hb : mil b) (hs : kd s = 2) (σ : gS) (K H E N f : Nat → Int) {on : Int} {A : Nat → Int} {c nt : Int} (g : gd c nt A) (tr : trR on K H E f A) (hc : c ≤ 100000) : sC mX4_changed d [.int (iZ (op : Int)), .int (iZ b), .ref s] (st σ s K H E N f) (fun r σ' => r = some (.long (lZ (cCh A op b))) ∧ σ' = st σ s K H E N f) := by
  have hb1 := hb.1
  have hb2 := hb.2
  refine sC_of rfl (Nat.le_of_ble_eq_true rfl) ?_
  show sE g_tt _ _ _ 0 [some (.int (iZ (op : Int))), some (.int (iZ b)), some (.ref s)] [] (st σ s K H E N f)
  refine q_iload_n dX4_changed_0 rfl rfl ?_
  refine z_bipush dX4_changed_1 (by decide +kernel) ?_
  refine z_icmp_ne (tgt := 13) dX4_changed_3 (by decide) (by unfold inR at *; omega) (by unfold inR at *; omega) (fun c_1 => ?_) (fun c_1 => ?_)
  · refine q_iload_n dX4_changed_13 rfl rfl ?_
    refine z_bipush dX4_changed_14 (by decide +kernel) ?_
    refine z_icmp_ne (tgt := 29) dX4_changed_16 (by decide) (by unfold inR at *; omega) (by unfold inR at *; omega) (fun c_2 => ?_) (fun c_2 => ?_)
    · refine q_iload_n dX4_changed_29 rfl rfl ?_
      refine z_ineg dX4_changed_30 ?_
      refine z_i2l dX4_changed_31 (by unfold inR at *; omega) ?_
      exact s_lret dX4_changed_32 rfl ⟨by unfold cCh; (repeat (first | rw [if_pos (by omega)] | rw [if_neg (by omega)])); (try rfl), rfl⟩
    · refine q_iload_n dX4_changed_19 rfl rfl ?_
      refine z_if_ne (tgt := 27) dX4_changed_20 (by decide) (by unfold inR at *; omega) (fun c_3 => ?_) (fun c_3 => ?_)
      · refine z_lconst (z := 0) dX4_changed_27 (by decide +kernel) ?_
        exact s_lret dX4_changed_28 rfl ⟨by unfold cCh; (repeat (first | rw [if_pos (by omega)] | rw [if_neg (by omega)])); (try rfl), rfl⟩
      · refine z_lconst (z := 1) dX4_changed_23 (by decide +kernel) ?_
        refine q_goto (tgt := 28) dX4_changed_24 (by decide) ?_
        exact s_lret dX4_changed_28 rfl ⟨by unfold cCh; (repeat (first | rw [if_pos (by omega)] | rw [if_neg (by omega)])); (try rfl), rfl⟩
  · refine q_aload_n dX4_changed_6 rfl rfl ?_
    refine q_iload_n dX4_changed_7 rfl rfl ?_
    refine s_callV (ci := 2) (a := s) (As := [.int (iZ b)]) (S := []) dX4_changed_8 okX2_kindnessOf mlX4_92 rfl (by omega) rfl (Nat.le_of_ble_eq_true rfl) hs (by decide) rfl (c_kindOf (d := d - 1) hs σ K H E N f (z := b) (by unfold inR; omega) g tr) (fun v_ σ_ hq => ?_)
    obtain ⟨rfl, e9⟩ := hq
    have e9 := e9.symm
    subst e9
    have kr := mHk_ran g hc (b)
    show sE g_tt _ _ _ 11 [some (.int (iZ (op : Int))), some (.int (iZ b)), some (.ref s)] [.int (iZ (mHk A b))] (st σ s K H E N f)
    refine z_i2l dX4_changed_11 (by unfold inR at *; omega) ?_
    exact s_lret dX4_changed_12 rfl ⟨by unfold cCh; (repeat (first | rw [if_pos (by omega)] | rw [if_neg (by omega)])); (try rfl), rfl⟩
theorem lZ_and01 {x y : Int} (hx : x = 0 ∨ x = 1) (hy : y = 0 ∨ y = 1) : lZ x &&& lZ y = lZ (if x = 0 ∨ y = 0 then 0 else 1) := by
  rcases hx with rfl | rfl <;> rcases hy with rfl | rfl <;> decide +kernel
theorem lZ_or01 {x y : Int} (hx : x = 0 ∨ x = 1) (hy : y = 0 ∨ y = 1) : lZ x ||| lZ y = lZ (if x = 0 ∧ y = 0 then 0 else 1) := by
  rcases hx with rfl | rfl <;> rcases hy with rfl | rfl <;> decide +kernel
theorem z_land {Y : gY} {M : gM} {d : Nat} {b : gB} {Q : Option Value → gH → Prop} {pc : Nat} {L : List (Option Value)} {S : List Value} {h : gH} {x y : Int} (hd : decode M.2.1 pc = .ok (.land, 1)) (hx : x = 0 ∨ x = 1) (hy : y = 0 ∨ y = 1) (k : gE Y M d b Q (pc + 1) L (.long (lZ (if x = 0 ∨ y = 0 then 0 else 1)) :: S) h) : gE Y M d b Q pc L (.long (lZ y) :: .long (lZ x) :: S) h := q_land hd (by rw [lZ_and01 hx hy]; exact k)
theorem z_lor {Y : gY} {M : gM} {d : Nat} {b : gB} {Q : Option Value → gH → Prop} {pc : Nat} {L : List (Option Value)} {S : List Value} {h : gH} {x y : Int} (hd : decode M.2.1 pc = .ok (.lor, 1)) (hx : x = 0 ∨ x = 1) (hy : y = 0 ∨ y = 1) (k : gE Y M d b Q (pc + 1) L (.long (lZ (if x = 0 ∧ y = 0 then 0 else 1)) :: S) h) : gE Y M d b Q pc L (.long (lZ y) :: .long (lZ x) :: S) h := q_lor hd (by rw [lZ_or01 hx hy]; exact k)
set_option maxHeartbeats 4000000 in
set_option maxRecDepth 100000 in
theorem c_joined {d op : Nat} (hd : 1 ≤ d) (ho : op < 64) {a b : Int} (ha1 : -1000000 ≤ a) (ha2 : a ≤ 1000000) (hb1 : -1000000 ≤ b) (hb2 : b ≤ 1000000) (h01 : op = 16 ∨ op = 17 → (a = 0 ∨ a = 1) ∧ (b = 0 ∨ b = 1)) (σ : gS) : sC mX4_joined d [.int (iZ (op : Int)), .long (lZ a), .long (lZ b)] σ (fun r σ' => r = some (.long (lZ (cJn op a b))) ∧ σ' = σ) := by
  refine sC_of rfl (Nat.le_of_ble_eq_true rfl) ?_
  show sE g_tt _ _ _ 0 [some (.int (iZ (op : Int))), some (.long (lZ a)), none, some (.long (lZ b)), none] [] σ
  refine q_iload_n dX4_joined_0 rfl rfl ?_
  by_cases s_1 : (op : Int) = 9
  · refine z_top s_1 ?_
    refine q_tableIn (tgt := 158) (off := 157) dX4_joined_1 (by decide +kernel) (by decide +kernel) (by decide +kernel) (by decide) ?_
    refine z_lconst (z := 0) dX4_joined_158 (by decide +kernel) ?_
    refine q_lload_n dX4_joined_159 rfl rfl ?_
    refine q_lload_n dX4_joined_160 rfl rfl ?_
    refine z_lsub dX4_joined_161 ?_
    refine z_mmaxl dX4_joined_162 mlX4_87 (by omega) (Nat.le_of_ble_eq_true rfl) (by unfold inL; omega) (by unfold inL; omega) ?_
    exact s_lret dX4_joined_165 rfl ⟨by unfold cJn; (repeat (first | rw [if_pos (by omega)] | rw [if_neg (by omega)])); (try rfl), rfl⟩
  by_cases s_2 : (op : Int) = 10
  · refine z_top s_2 ?_
    refine q_tableIn (tgt := 234) (off := 233) dX4_joined_1 (by decide +kernel) (by decide +kernel) (by decide +kernel) (by decide) ?_
    refine q_lload_n dX4_joined_234 rfl rfl ?_
    refine q_lload_n dX4_joined_235 rfl rfl ?_
    refine z_lif_eq (tgt := 244) dX4_joined_236 dX4_joined_237 (by decide) (by unfold inL; omega) (by unfold inL; omega) (fun c_3 => ?_) (fun c_3 => ?_)
    · refine z_lconst (z := 0) dX4_joined_244 (by decide +kernel) ?_
      exact s_lret dX4_joined_245 rfl ⟨by unfold cJn; (repeat (first | rw [if_pos (by omega)] | rw [if_neg (by omega)])); (try rfl), rfl⟩
    · refine z_lconst (z := 1) dX4_joined_240 (by decide +kernel) ?_
      refine q_goto (tgt := 245) dX4_joined_241 (by decide) ?_
      exact s_lret dX4_joined_245 rfl ⟨by unfold cJn; (repeat (first | rw [if_pos (by omega)] | rw [if_neg (by omega)])); (try rfl), rfl⟩
  by_cases s_4 : (op : Int) = 11
  · refine z_top s_4 ?_
    refine q_tableIn (tgt := 234) (off := 233) dX4_joined_1 (by decide +kernel) (by decide +kernel) (by decide +kernel) (by decide) ?_
    refine q_lload_n dX4_joined_234 rfl rfl ?_
    refine q_lload_n dX4_joined_235 rfl rfl ?_
    refine z_lif_eq (tgt := 244) dX4_joined_236 dX4_joined_237 (by decide) (by unfold inL; omega) (by unfold inL; omega) (fun c_5 => ?_) (fun c_5 => ?_)
    · refine z_lconst (z := 0) dX4_joined_244 (by decide +kernel) ?_
      exact s_lret dX4_joined_245 rfl ⟨by unfold cJn; (repeat (first | rw [if_pos (by omega)] | rw [if_neg (by omega)])); (try rfl), rfl⟩
    · refine z_lconst (z := 1) dX4_joined_240 (by decide +kernel) ?_
      refine q_goto (tgt := 245) dX4_joined_241 (by decide) ?_
      exact s_lret dX4_joined_245 rfl ⟨by unfold cJn; (repeat (first | rw [if_pos (by omega)] | rw [if_neg (by omega)])); (try rfl), rfl⟩
  by_cases s_6 : (op : Int) = 12
  · refine z_top s_6 ?_
    refine q_tableIn (tgt := 234) (off := 233) dX4_joined_1 (by decide +kernel) (by decide +kernel) (by decide +kernel) (by decide) ?_
    refine q_lload_n dX4_joined_234 rfl rfl ?_
    refine q_lload_n dX4_joined_235 rfl rfl ?_
    refine z_lif_eq (tgt := 244) dX4_joined_236 dX4_joined_237 (by decide) (by unfold inL; omega) (by unfold inL; omega) (fun c_7 => ?_) (fun c_7 => ?_)
    · refine z_lconst (z := 0) dX4_joined_244 (by decide +kernel) ?_
      exact s_lret dX4_joined_245 rfl ⟨by unfold cJn; (repeat (first | rw [if_pos (by omega)] | rw [if_neg (by omega)])); (try rfl), rfl⟩
    · refine z_lconst (z := 1) dX4_joined_240 (by decide +kernel) ?_
      refine q_goto (tgt := 245) dX4_joined_241 (by decide) ?_
      exact s_lret dX4_joined_245 rfl ⟨by unfold cJn; (repeat (first | rw [if_pos (by omega)] | rw [if_neg (by omega)])); (try rfl), rfl⟩
  by_cases s_8 : (op : Int) = 13
  · refine z_top s_8 ?_
    refine q_tableIn (tgt := 234) (off := 233) dX4_joined_1 (by decide +kernel) (by decide +kernel) (by decide +kernel) (by decide) ?_
    refine q_lload_n dX4_joined_234 rfl rfl ?_
    refine q_lload_n dX4_joined_235 rfl rfl ?_
    refine z_lif_eq (tgt := 244) dX4_joined_236 dX4_joined_237 (by decide) (by unfold inL; omega) (by unfold inL; omega) (fun c_9 => ?_) (fun c_9 => ?_)
    · refine z_lconst (z := 0) dX4_joined_244 (by decide +kernel) ?_
      exact s_lret dX4_joined_245 rfl ⟨by unfold cJn; (repeat (first | rw [if_pos (by omega)] | rw [if_neg (by omega)])); (try rfl), rfl⟩
    · refine z_lconst (z := 1) dX4_joined_240 (by decide +kernel) ?_
      refine q_goto (tgt := 245) dX4_joined_241 (by decide) ?_
      exact s_lret dX4_joined_245 rfl ⟨by unfold cJn; (repeat (first | rw [if_pos (by omega)] | rw [if_neg (by omega)])); (try rfl), rfl⟩
  by_cases s_10 : (op : Int) = 14
  · refine z_top s_10 ?_
    refine q_tableIn (tgt := 234) (off := 233) dX4_joined_1 (by decide +kernel) (by decide +kernel) (by decide +kernel) (by decide) ?_
    refine q_lload_n dX4_joined_234 rfl rfl ?_
    refine q_lload_n dX4_joined_235 rfl rfl ?_
    refine z_lif_eq (tgt := 244) dX4_joined_236 dX4_joined_237 (by decide) (by unfold inL; omega) (by unfold inL; omega) (fun c_11 => ?_) (fun c_11 => ?_)
    · refine z_lconst (z := 0) dX4_joined_244 (by decide +kernel) ?_
      exact s_lret dX4_joined_245 rfl ⟨by unfold cJn; (repeat (first | rw [if_pos (by omega)] | rw [if_neg (by omega)])); (try rfl), rfl⟩
    · refine z_lconst (z := 1) dX4_joined_240 (by decide +kernel) ?_
      refine q_goto (tgt := 245) dX4_joined_241 (by decide) ?_
      exact s_lret dX4_joined_245 rfl ⟨by unfold cJn; (repeat (first | rw [if_pos (by omega)] | rw [if_neg (by omega)])); (try rfl), rfl⟩
  by_cases s_12 : (op : Int) = 15
  · refine z_top s_12 ?_
    refine q_tableIn (tgt := 234) (off := 233) dX4_joined_1 (by decide +kernel) (by decide +kernel) (by decide +kernel) (by decide) ?_
    refine q_lload_n dX4_joined_234 rfl rfl ?_
    refine q_lload_n dX4_joined_235 rfl rfl ?_
    refine z_lif_eq (tgt := 244) dX4_joined_236 dX4_joined_237 (by decide) (by unfold inL; omega) (by unfold inL; omega) (fun c_13 => ?_) (fun c_13 => ?_)
    · refine z_lconst (z := 0) dX4_joined_244 (by decide +kernel) ?_
      exact s_lret dX4_joined_245 rfl ⟨by unfold cJn; (repeat (first | rw [if_pos (by omega)] | rw [if_neg (by omega)])); (try rfl), rfl⟩
    · refine z_lconst (z := 1) dX4_joined_240 (by decide +kernel) ?_
      refine q_goto (tgt := 245) dX4_joined_241 (by decide) ?_
      exact s_lret dX4_joined_245 rfl ⟨by unfold cJn; (repeat (first | rw [if_pos (by omega)] | rw [if_neg (by omega)])); (try rfl), rfl⟩
  by_cases s_14 : (op : Int) = 16
  · refine z_top s_14 ?_
    refine q_tableIn (tgt := 170) (off := 169) dX4_joined_1 (by decide +kernel) (by decide +kernel) (by decide +kernel) (by decide) ?_
    refine q_lload_n dX4_joined_170 rfl rfl ?_
    refine q_lload_n dX4_joined_171 rfl rfl ?_
    refine z_lor dX4_joined_172 (by omega) (by omega) ?_
    exact s_lret dX4_joined_173 rfl ⟨by rw [show op = 16 by omega]; rfl, rfl⟩
  by_cases s_15 : (op : Int) = 17
  · refine z_top s_15 ?_
    refine q_tableIn (tgt := 166) (off := 165) dX4_joined_1 (by decide +kernel) (by decide +kernel) (by decide +kernel) (by decide) ?_
    refine q_lload_n dX4_joined_166 rfl rfl ?_
    refine q_lload_n dX4_joined_167 rfl rfl ?_
    refine z_land dX4_joined_168 (by omega) (by omega) ?_
    exact s_lret dX4_joined_169 rfl ⟨by rw [show op = 17 by omega]; rfl, rfl⟩
  by_cases s_16 : (op : Int) = 18
  · refine z_top s_16 ?_
    refine q_tableIn (tgt := 234) (off := 233) dX4_joined_1 (by decide +kernel) (by decide +kernel) (by decide +kernel) (by decide) ?_
    refine q_lload_n dX4_joined_234 rfl rfl ?_
    refine q_lload_n dX4_joined_235 rfl rfl ?_
    refine z_lif_eq (tgt := 244) dX4_joined_236 dX4_joined_237 (by decide) (by unfold inL; omega) (by unfold inL; omega) (fun c_17 => ?_) (fun c_17 => ?_)
    · refine z_lconst (z := 0) dX4_joined_244 (by decide +kernel) ?_
      exact s_lret dX4_joined_245 rfl ⟨by unfold cJn; (repeat (first | rw [if_pos (by omega)] | rw [if_neg (by omega)])); (try rfl), rfl⟩
    · refine z_lconst (z := 1) dX4_joined_240 (by decide +kernel) ?_
      refine q_goto (tgt := 245) dX4_joined_241 (by decide) ?_
      exact s_lret dX4_joined_245 rfl ⟨by unfold cJn; (repeat (first | rw [if_pos (by omega)] | rw [if_neg (by omega)])); (try rfl), rfl⟩
  by_cases s_18 : (op : Int) = 19
  · refine z_top s_18 ?_
    refine q_tableIn (tgt := 234) (off := 233) dX4_joined_1 (by decide +kernel) (by decide +kernel) (by decide +kernel) (by decide) ?_
    refine q_lload_n dX4_joined_234 rfl rfl ?_
    refine q_lload_n dX4_joined_235 rfl rfl ?_
    refine z_lif_eq (tgt := 244) dX4_joined_236 dX4_joined_237 (by decide) (by unfold inL; omega) (by unfold inL; omega) (fun c_19 => ?_) (fun c_19 => ?_)
    · refine z_lconst (z := 0) dX4_joined_244 (by decide +kernel) ?_
      exact s_lret dX4_joined_245 rfl ⟨by unfold cJn; (repeat (first | rw [if_pos (by omega)] | rw [if_neg (by omega)])); (try rfl), rfl⟩
    · refine z_lconst (z := 1) dX4_joined_240 (by decide +kernel) ?_
      refine q_goto (tgt := 245) dX4_joined_241 (by decide) ?_
      exact s_lret dX4_joined_245 rfl ⟨by unfold cJn; (repeat (first | rw [if_pos (by omega)] | rw [if_neg (by omega)])); (try rfl), rfl⟩
  by_cases s_20 : (op : Int) = 20
  · refine z_top s_20 ?_
    refine q_tableIn (tgt := 234) (off := 233) dX4_joined_1 (by decide +kernel) (by decide +kernel) (by decide +kernel) (by decide) ?_
    refine q_lload_n dX4_joined_234 rfl rfl ?_
    refine q_lload_n dX4_joined_235 rfl rfl ?_
    refine z_lif_eq (tgt := 244) dX4_joined_236 dX4_joined_237 (by decide) (by unfold inL; omega) (by unfold inL; omega) (fun c_21 => ?_) (fun c_21 => ?_)
    · refine z_lconst (z := 0) dX4_joined_244 (by decide +kernel) ?_
      exact s_lret dX4_joined_245 rfl ⟨by unfold cJn; (repeat (first | rw [if_pos (by omega)] | rw [if_neg (by omega)])); (try rfl), rfl⟩
    · refine z_lconst (z := 1) dX4_joined_240 (by decide +kernel) ?_
      refine q_goto (tgt := 245) dX4_joined_241 (by decide) ?_
      exact s_lret dX4_joined_245 rfl ⟨by unfold cJn; (repeat (first | rw [if_pos (by omega)] | rw [if_neg (by omega)])); (try rfl), rfl⟩
  by_cases s_22 : (op : Int) = 21
  · refine z_top s_22 ?_
    refine q_tableIn (tgt := 234) (off := 233) dX4_joined_1 (by decide +kernel) (by decide +kernel) (by decide +kernel) (by decide) ?_
    refine q_lload_n dX4_joined_234 rfl rfl ?_
    refine q_lload_n dX4_joined_235 rfl rfl ?_
    refine z_lif_eq (tgt := 244) dX4_joined_236 dX4_joined_237 (by decide) (by unfold inL; omega) (by unfold inL; omega) (fun c_23 => ?_) (fun c_23 => ?_)
    · refine z_lconst (z := 0) dX4_joined_244 (by decide +kernel) ?_
      exact s_lret dX4_joined_245 rfl ⟨by unfold cJn; (repeat (first | rw [if_pos (by omega)] | rw [if_neg (by omega)])); (try rfl), rfl⟩
    · refine z_lconst (z := 1) dX4_joined_240 (by decide +kernel) ?_
      refine q_goto (tgt := 245) dX4_joined_241 (by decide) ?_
      exact s_lret dX4_joined_245 rfl ⟨by unfold cJn; (repeat (first | rw [if_pos (by omega)] | rw [if_neg (by omega)])); (try rfl), rfl⟩
  by_cases s_24 : (op : Int) = 22
  · refine z_top s_24 ?_
    refine q_tableIn (tgt := 234) (off := 233) dX4_joined_1 (by decide +kernel) (by decide +kernel) (by decide +kernel) (by decide) ?_
    refine q_lload_n dX4_joined_234 rfl rfl ?_
    refine q_lload_n dX4_joined_235 rfl rfl ?_
    refine z_lif_eq (tgt := 244) dX4_joined_236 dX4_joined_237 (by decide) (by unfold inL; omega) (by unfold inL; omega) (fun c_25 => ?_) (fun c_25 => ?_)
    · refine z_lconst (z := 0) dX4_joined_244 (by decide +kernel) ?_
      exact s_lret dX4_joined_245 rfl ⟨by unfold cJn; (repeat (first | rw [if_pos (by omega)] | rw [if_neg (by omega)])); (try rfl), rfl⟩
    · refine z_lconst (z := 1) dX4_joined_240 (by decide +kernel) ?_
      refine q_goto (tgt := 245) dX4_joined_241 (by decide) ?_
      exact s_lret dX4_joined_245 rfl ⟨by unfold cJn; (repeat (first | rw [if_pos (by omega)] | rw [if_neg (by omega)])); (try rfl), rfl⟩
  by_cases s_26 : (op : Int) = 23
  · refine z_top s_26 ?_
    refine q_tableIn (tgt := 234) (off := 233) dX4_joined_1 (by decide +kernel) (by decide +kernel) (by decide +kernel) (by decide) ?_
    refine q_lload_n dX4_joined_234 rfl rfl ?_
    refine q_lload_n dX4_joined_235 rfl rfl ?_
    refine z_lif_eq (tgt := 244) dX4_joined_236 dX4_joined_237 (by decide) (by unfold inL; omega) (by unfold inL; omega) (fun c_27 => ?_) (fun c_27 => ?_)
    · refine z_lconst (z := 0) dX4_joined_244 (by decide +kernel) ?_
      exact s_lret dX4_joined_245 rfl ⟨by unfold cJn; (repeat (first | rw [if_pos (by omega)] | rw [if_neg (by omega)])); (try rfl), rfl⟩
    · refine z_lconst (z := 1) dX4_joined_240 (by decide +kernel) ?_
      refine q_goto (tgt := 245) dX4_joined_241 (by decide) ?_
      exact s_lret dX4_joined_245 rfl ⟨by unfold cJn; (repeat (first | rw [if_pos (by omega)] | rw [if_neg (by omega)])); (try rfl), rfl⟩
  by_cases s_28 : (op : Int) = 24
  · refine z_top s_28 ?_
    refine q_tableIn (tgt := 234) (off := 233) dX4_joined_1 (by decide +kernel) (by decide +kernel) (by decide +kernel) (by decide) ?_
    refine q_lload_n dX4_joined_234 rfl rfl ?_
    refine q_lload_n dX4_joined_235 rfl rfl ?_
    refine z_lif_eq (tgt := 244) dX4_joined_236 dX4_joined_237 (by decide) (by unfold inL; omega) (by unfold inL; omega) (fun c_29 => ?_) (fun c_29 => ?_)
    · refine z_lconst (z := 0) dX4_joined_244 (by decide +kernel) ?_
      exact s_lret dX4_joined_245 rfl ⟨by unfold cJn; (repeat (first | rw [if_pos (by omega)] | rw [if_neg (by omega)])); (try rfl), rfl⟩
    · refine z_lconst (z := 1) dX4_joined_240 (by decide +kernel) ?_
      refine q_goto (tgt := 245) dX4_joined_241 (by decide) ?_
      exact s_lret dX4_joined_245 rfl ⟨by unfold cJn; (repeat (first | rw [if_pos (by omega)] | rw [if_neg (by omega)])); (try rfl), rfl⟩
  by_cases s_30 : (op : Int) = 25
  · refine z_top s_30 ?_
    refine q_tableIn (tgt := 174) (off := 173) dX4_joined_1 (by decide +kernel) (by decide +kernel) (by decide +kernel) (by decide) ?_
    refine q_lload_n dX4_joined_174 rfl rfl ?_
    refine q_lload_n dX4_joined_175 rfl rfl ?_
    refine z_lif_ge (tgt := 184) dX4_joined_176 dX4_joined_177 (by decide) (by unfold inL; omega) (by unfold inL; omega) (fun c_31 => ?_) (fun c_31 => ?_)
    · refine z_lconst (z := 0) dX4_joined_184 (by decide +kernel) ?_
      exact s_lret dX4_joined_185 rfl ⟨by unfold cJn; (repeat (first | rw [if_pos (by omega)] | rw [if_neg (by omega)])); (try rfl), rfl⟩
    · refine z_lconst (z := 1) dX4_joined_180 (by decide +kernel) ?_
      refine q_goto (tgt := 185) dX4_joined_181 (by decide) ?_
      exact s_lret dX4_joined_185 rfl ⟨by unfold cJn; (repeat (first | rw [if_pos (by omega)] | rw [if_neg (by omega)])); (try rfl), rfl⟩
  by_cases s_32 : (op : Int) = 26
  · refine z_top s_32 ?_
    refine q_tableIn (tgt := 198) (off := 197) dX4_joined_1 (by decide +kernel) (by decide +kernel) (by decide +kernel) (by decide) ?_
    refine q_lload_n dX4_joined_198 rfl rfl ?_
    refine q_lload_n dX4_joined_199 rfl rfl ?_
    refine z_lif_le (tgt := 208) dX4_joined_200 dX4_joined_201 (by decide) (by unfold inL; omega) (by unfold inL; omega) (fun c_33 => ?_) (fun c_33 => ?_)
    · refine z_lconst (z := 0) dX4_joined_208 (by decide +kernel) ?_
      exact s_lret dX4_joined_209 rfl ⟨by unfold cJn; (repeat (first | rw [if_pos (by omega)] | rw [if_neg (by omega)])); (try rfl), rfl⟩
    · refine z_lconst (z := 1) dX4_joined_204 (by decide +kernel) ?_
      refine q_goto (tgt := 209) dX4_joined_205 (by decide) ?_
      exact s_lret dX4_joined_209 rfl ⟨by unfold cJn; (repeat (first | rw [if_pos (by omega)] | rw [if_neg (by omega)])); (try rfl), rfl⟩
  by_cases s_34 : (op : Int) = 27
  · refine z_top s_34 ?_
    refine q_tableIn (tgt := 222) (off := 221) dX4_joined_1 (by decide +kernel) (by decide +kernel) (by decide +kernel) (by decide) ?_
    refine q_lload_n dX4_joined_222 rfl rfl ?_
    refine q_lload_n dX4_joined_223 rfl rfl ?_
    refine z_lif_ne (tgt := 232) dX4_joined_224 dX4_joined_225 (by decide) (by unfold inL; omega) (by unfold inL; omega) (fun c_35 => ?_) (fun c_35 => ?_)
    · refine z_lconst (z := 0) dX4_joined_232 (by decide +kernel) ?_
      exact s_lret dX4_joined_233 rfl ⟨by unfold cJn; (repeat (first | rw [if_pos (by omega)] | rw [if_neg (by omega)])); (try rfl), rfl⟩
    · refine z_lconst (z := 1) dX4_joined_228 (by decide +kernel) ?_
      refine q_goto (tgt := 233) dX4_joined_229 (by decide) ?_
      exact s_lret dX4_joined_233 rfl ⟨by unfold cJn; (repeat (first | rw [if_pos (by omega)] | rw [if_neg (by omega)])); (try rfl), rfl⟩
  by_cases s_36 : (op : Int) = 28
  · refine z_top s_36 ?_
    refine q_tableIn (tgt := 234) (off := 233) dX4_joined_1 (by decide +kernel) (by decide +kernel) (by decide +kernel) (by decide) ?_
    refine q_lload_n dX4_joined_234 rfl rfl ?_
    refine q_lload_n dX4_joined_235 rfl rfl ?_
    refine z_lif_eq (tgt := 244) dX4_joined_236 dX4_joined_237 (by decide) (by unfold inL; omega) (by unfold inL; omega) (fun c_37 => ?_) (fun c_37 => ?_)
    · refine z_lconst (z := 0) dX4_joined_244 (by decide +kernel) ?_
      exact s_lret dX4_joined_245 rfl ⟨by unfold cJn; (repeat (first | rw [if_pos (by omega)] | rw [if_neg (by omega)])); (try rfl), rfl⟩
    · refine z_lconst (z := 1) dX4_joined_240 (by decide +kernel) ?_
      refine q_goto (tgt := 245) dX4_joined_241 (by decide) ?_
      exact s_lret dX4_joined_245 rfl ⟨by unfold cJn; (repeat (first | rw [if_pos (by omega)] | rw [if_neg (by omega)])); (try rfl), rfl⟩
  by_cases s_38 : (op : Int) = 29
  · refine z_top s_38 ?_
    refine q_tableIn (tgt := 132) (off := 131) dX4_joined_1 (by decide +kernel) (by decide +kernel) (by decide +kernel) (by decide) ?_
    refine q_lload_n dX4_joined_132 rfl rfl ?_
    refine q_lload_n dX4_joined_133 rfl rfl ?_
    refine z_ladd dX4_joined_134 ?_
    exact s_lret dX4_joined_135 rfl ⟨by unfold cJn; (repeat (first | rw [if_pos (by omega)] | rw [if_neg (by omega)])); (try rfl), rfl⟩
  by_cases s_39 : (op : Int) = 30
  · refine z_top s_39 ?_
    refine q_tableIn (tgt := 136) (off := 135) dX4_joined_1 (by decide +kernel) (by decide +kernel) (by decide +kernel) (by decide) ?_
    refine q_lload_n dX4_joined_136 rfl rfl ?_
    refine q_lload_n dX4_joined_137 rfl rfl ?_
    refine z_lsub dX4_joined_138 ?_
    exact s_lret dX4_joined_139 rfl ⟨by unfold cJn; (repeat (first | rw [if_pos (by omega)] | rw [if_neg (by omega)])); (try rfl), rfl⟩
  by_cases s_40 : (op : Int) = 31
  · refine z_top s_40 ?_
    refine q_tableIn (tgt := 140) (off := 139) dX4_joined_1 (by decide +kernel) (by decide +kernel) (by decide +kernel) (by decide) ?_
    refine q_lload_n dX4_joined_140 rfl rfl ?_
    refine q_lload_n dX4_joined_141 rfl rfl ?_
    refine z_lmul dX4_joined_142 ?_
    exact s_lret dX4_joined_143 rfl ⟨by unfold cJn; (repeat (first | rw [if_pos (by omega)] | rw [if_neg (by omega)])); (try rfl), rfl⟩
  by_cases s_41 : (op : Int) = 32
  · refine z_top s_41 ?_
    refine q_tableIn (tgt := 144) (off := 143) dX4_joined_1 (by decide +kernel) (by decide +kernel) (by decide +kernel) (by decide) ?_
    refine q_lload_n dX4_joined_144 rfl rfl ?_
    refine z_lconst (z := 0) dX4_joined_145 (by decide +kernel) ?_
    refine z_lif_ne (tgt := 154) dX4_joined_146 dX4_joined_147 (by decide) (by unfold inL; omega) (by unfold inL; omega) (fun c_42 => ?_) (fun c_42 => ?_)
    · refine q_lload_n dX4_joined_154 rfl rfl ?_
      refine q_lload_n dX4_joined_155 rfl rfl ?_
      refine z_ldiv2 dX4_joined_156 (by unfold inL; omega) (by unfold inL; omega) (by omega) (by have := tdiv_ran (x := a) (y := b) (B := 1000000) ha1 ha2; unfold inL; omega) ?_
      exact s_lret dX4_joined_157 rfl ⟨by unfold cJn; (repeat (first | rw [if_pos (by omega)] | rw [if_neg (by omega)])); (try rfl), rfl⟩
    · refine z_lconst (z := 0) dX4_joined_150 (by decide +kernel) ?_
      refine q_goto (tgt := 157) dX4_joined_151 (by decide) ?_
      exact s_lret dX4_joined_157 rfl ⟨by unfold cJn; (repeat (first | rw [if_pos (by omega)] | rw [if_neg (by omega)])); (try rfl), rfl⟩
  by_cases s_43 : (op : Int) = 33
  · refine z_top s_43 ?_
    refine q_tableIn (tgt := 234) (off := 233) dX4_joined_1 (by decide +kernel) (by decide +kernel) (by decide +kernel) (by decide) ?_
    refine q_lload_n dX4_joined_234 rfl rfl ?_
    refine q_lload_n dX4_joined_235 rfl rfl ?_
    refine z_lif_eq (tgt := 244) dX4_joined_236 dX4_joined_237 (by decide) (by unfold inL; omega) (by unfold inL; omega) (fun c_44 => ?_) (fun c_44 => ?_)
    · refine z_lconst (z := 0) dX4_joined_244 (by decide +kernel) ?_
      exact s_lret dX4_joined_245 rfl ⟨by unfold cJn; (repeat (first | rw [if_pos (by omega)] | rw [if_neg (by omega)])); (try rfl), rfl⟩
    · refine z_lconst (z := 1) dX4_joined_240 (by decide +kernel) ?_
      refine q_goto (tgt := 245) dX4_joined_241 (by decide) ?_
      exact s_lret dX4_joined_245 rfl ⟨by unfold cJn; (repeat (first | rw [if_pos (by omega)] | rw [if_neg (by omega)])); (try rfl), rfl⟩
  by_cases s_45 : (op : Int) = 34
  · refine z_top s_45 ?_
    refine q_tableIn (tgt := 234) (off := 233) dX4_joined_1 (by decide +kernel) (by decide +kernel) (by decide +kernel) (by decide) ?_
    refine q_lload_n dX4_joined_234 rfl rfl ?_
    refine q_lload_n dX4_joined_235 rfl rfl ?_
    refine z_lif_eq (tgt := 244) dX4_joined_236 dX4_joined_237 (by decide) (by unfold inL; omega) (by unfold inL; omega) (fun c_46 => ?_) (fun c_46 => ?_)
    · refine z_lconst (z := 0) dX4_joined_244 (by decide +kernel) ?_
      exact s_lret dX4_joined_245 rfl ⟨by unfold cJn; (repeat (first | rw [if_pos (by omega)] | rw [if_neg (by omega)])); (try rfl), rfl⟩
    · refine z_lconst (z := 1) dX4_joined_240 (by decide +kernel) ?_
      refine q_goto (tgt := 245) dX4_joined_241 (by decide) ?_
      exact s_lret dX4_joined_245 rfl ⟨by unfold cJn; (repeat (first | rw [if_pos (by omega)] | rw [if_neg (by omega)])); (try rfl), rfl⟩
  by_cases s_47 : (op : Int) = 35
  · refine z_top s_47 ?_
    refine q_tableIn (tgt := 234) (off := 233) dX4_joined_1 (by decide +kernel) (by decide +kernel) (by decide +kernel) (by decide) ?_
    refine q_lload_n dX4_joined_234 rfl rfl ?_
    refine q_lload_n dX4_joined_235 rfl rfl ?_
    refine z_lif_eq (tgt := 244) dX4_joined_236 dX4_joined_237 (by decide) (by unfold inL; omega) (by unfold inL; omega) (fun c_48 => ?_) (fun c_48 => ?_)
    · refine z_lconst (z := 0) dX4_joined_244 (by decide +kernel) ?_
      exact s_lret dX4_joined_245 rfl ⟨by unfold cJn; (repeat (first | rw [if_pos (by omega)] | rw [if_neg (by omega)])); (try rfl), rfl⟩
    · refine z_lconst (z := 1) dX4_joined_240 (by decide +kernel) ?_
      refine q_goto (tgt := 245) dX4_joined_241 (by decide) ?_
      exact s_lret dX4_joined_245 rfl ⟨by unfold cJn; (repeat (first | rw [if_pos (by omega)] | rw [if_neg (by omega)])); (try rfl), rfl⟩
  by_cases s_49 : (op : Int) = 36
  · refine z_top s_49 ?_
    refine q_tableIn (tgt := 186) (off := 185) dX4_joined_1 (by decide +kernel) (by decide +kernel) (by decide +kernel) (by decide) ?_
    refine q_lload_n dX4_joined_186 rfl rfl ?_
    refine q_lload_n dX4_joined_187 rfl rfl ?_
    refine z_lif_gt (tgt := 196) dX4_joined_188 dX4_joined_189 (by decide) (by unfold inL; omega) (by unfold inL; omega) (fun c_50 => ?_) (fun c_50 => ?_)
    · refine z_lconst (z := 0) dX4_joined_196 (by decide +kernel) ?_
      exact s_lret dX4_joined_197 rfl ⟨by unfold cJn; (repeat (first | rw [if_pos (by omega)] | rw [if_neg (by omega)])); (try rfl), rfl⟩
    · refine z_lconst (z := 1) dX4_joined_192 (by decide +kernel) ?_
      refine q_goto (tgt := 197) dX4_joined_193 (by decide) ?_
      exact s_lret dX4_joined_197 rfl ⟨by unfold cJn; (repeat (first | rw [if_pos (by omega)] | rw [if_neg (by omega)])); (try rfl), rfl⟩
  by_cases s_51 : (op : Int) = 37
  · refine z_top s_51 ?_
    refine q_tableIn (tgt := 210) (off := 209) dX4_joined_1 (by decide +kernel) (by decide +kernel) (by decide +kernel) (by decide) ?_
    refine q_lload_n dX4_joined_210 rfl rfl ?_
    refine q_lload_n dX4_joined_211 rfl rfl ?_
    refine z_lif_lt (tgt := 220) dX4_joined_212 dX4_joined_213 (by decide) (by unfold inL; omega) (by unfold inL; omega) (fun c_52 => ?_) (fun c_52 => ?_)
    · refine z_lconst (z := 0) dX4_joined_220 (by decide +kernel) ?_
      exact s_lret dX4_joined_221 rfl ⟨by unfold cJn; (repeat (first | rw [if_pos (by omega)] | rw [if_neg (by omega)])); (try rfl), rfl⟩
    · refine z_lconst (z := 1) dX4_joined_216 (by decide +kernel) ?_
      refine q_goto (tgt := 221) dX4_joined_217 (by decide) ?_
      exact s_lret dX4_joined_221 rfl ⟨by unfold cJn; (repeat (first | rw [if_pos (by omega)] | rw [if_neg (by omega)])); (try rfl), rfl⟩
  refine q_tableOut (tgt := 234) dX4_joined_1 (by rw [iZ_toInt (by unfold inR at *; omega)]; omega) (by decide) ?_
  refine q_lload_n dX4_joined_234 rfl rfl ?_
  refine q_lload_n dX4_joined_235 rfl rfl ?_
  refine z_lif_eq (tgt := 244) dX4_joined_236 dX4_joined_237 (by decide) (by unfold inL; omega) (by unfold inL; omega) (fun c_53 => ?_) (fun c_53 => ?_)
  · refine z_lconst (z := 0) dX4_joined_244 (by decide +kernel) ?_
    exact s_lret dX4_joined_245 rfl ⟨by unfold cJn; (repeat (first | rw [if_pos (by omega)] | rw [if_neg (by omega)])); (try rfl), rfl⟩
  · refine z_lconst (z := 1) dX4_joined_240 (by decide +kernel) ?_
    refine q_goto (tgt := 245) dX4_joined_241 (by decide) ?_
    exact s_lret dX4_joined_245 rfl ⟨by unfold cJn; (repeat (first | rw [if_pos (by omega)] | rw [if_neg (by omega)])); (try rfl), rfl⟩
