set_option maxHeartbeats 4000000 in
set_option maxRecDepth 100000 in
theorem m_has {d m k : Nat} (hsm : inR ((m : Nat) : Int)) (hk : k < 32) (σ : gS) : sC mX7_has d [.int (iZ ((m : Nat) : Int)), .int (iZ (k : Int))] σ (fun r σ' => r = some (.int (iZ (if m.testBit k then 1 else 0))) ∧ σ' = σ) := by
  refine sC_of rfl (Nat.le_of_ble_eq_true rfl) ?_
  show sE g_tt _ _ _ 0 [some (.int (iZ ((m : Nat) : Int))), some (.int (iZ (k : Int)))] [] σ
  refine q_iload_n dX7_has_0 rfl rfl ?_
  refine q_iload_n dX7_has_1 rfl rfl ?_
  refine z_ishr (x := ((m : Nat) : Int)) (k := k) dX7_has_2 (by omega) (hsm) ?_
  refine z_top (y := ((m / 2 ^ k : Nat) : Int)) (by simp) ?_
  refine z_iconst dX7_has_3 ?_
  refine z_iand (m := m / 2 ^ k) (k := 1) dX7_has_4 ?_
  refine z_iconst dX7_has_5 ?_
  refine z_icmp_ne (tgt := 13) dX7_has_6 (by decide) ⟨by omega, by have := Nat.and_le_right (n := m / 2 ^ k) (m := 1); omega⟩ (by unfold inR at *; omega) (fun c_1 => ?_) (fun c_1 => ?_)
  · refine z_iconst dX7_has_13 ?_
    exact s_zret dX7_has_14 rfl (by omega) ⟨by congr 3; (first | rw [if_pos (by rw [Nat.testBit_eq_decide_div_mod_eq]; rw [Nat.and_one_is_mod] at c_1; simp; omega)] | rw [if_neg (by rw [Nat.testBit_eq_decide_div_mod_eq]; rw [Nat.and_one_is_mod] at c_1; simp; omega)]), rfl⟩
  · refine z_iconst dX7_has_9 ?_
    refine q_goto (tgt := 14) dX7_has_10 (by decide) ?_
    exact s_zret dX7_has_14 rfl (by omega) ⟨by congr 3; (first | rw [if_pos (by rw [Nat.testBit_eq_decide_div_mod_eq]; rw [Nat.and_one_is_mod] at c_1; simp; omega)] | rw [if_neg (by rw [Nat.testBit_eq_decide_div_mod_eq]; rw [Nat.and_one_is_mod] at c_1; simp; omega)]), rfl⟩
/-- the book's rows one place down, the first k - 1 of them -/
def mSh (A : Nat → Int) (k : Nat) : Nat → Int := fun i => if 1553 ≤ i ∧ i + 1 < 1553 + k then A (i + 1) else A i
theorem mSh_1 (A : Nat → Int) : mSh A 1 = A := by
  funext i
  unfold mSh
  rw [if_neg (by omega)]
theorem mSh_step (A : Nat → Int) (k : Nat) (hk : 1 ≤ k) : mSh A (k + 1) = va_up (mSh A k) (1553 + (k : Int) - 1).toNat (mSh A k (1553 + k)) := by
  funext i
  have e : (1553 + (k : Int) - 1).toNat = 1552 + k := by omega
  rw [e]
  by_cases h : i = 1552 + k
  · subst h
    rw [va_up_self]
    unfold mSh
    rw [if_pos (by omega), if_neg (by omega)]
    congr 1
    omega
  · rw [va_up_ne _ _ h]
    unfold mSh
    by_cases h2 : 1553 ≤ i ∧ i + 1 < 1553 + k
    · rw [if_pos (by omega), if_pos h2]
    · rw [if_neg (by omega), if_neg h2]
/-- a line into the book that has room -/
def mWr (B : Nat → Int) (p hs : Int) : Nat → Int :=
  va_up (va_up B (1553 + B 10).toNat ((B 5 * 5 + p) * 9 + hs + 1)) 10 ((va_up B (1553 + B 10).toNat ((B 5 * 5 + p) * 9 + hs + 1)) 10 + 1)
/-- a line into the book -/
def mWrite (A : Nat → Int) (p hs : Int) : Nat → Int := if A 10 = 30 then mWr (va_up (mSh A 30) 10 (mSh A 30 10 - 1)) p hs else mWr A p hs
set_option maxHeartbeats 4000000 in
set_option maxRecDepth 100000 in
theorem tl_write {d : Nat} (σ : gS) (B F : Nat → Int) (p hs : Int) (v3 : Option Value) (h0 : 0 ≤ B 10) (h1 : B 10 < 30) : sE g_tt mX7_write d (fun r σ' => r = none ∧ σ' = ms σ (mWr B p hs) F) 67 [some (.ref 384), some (.int (iZ p)), some (.int (iZ hs)), v3] [] (ms σ B F) := by
  refine q_aload_n dX7_write_67 rfl rfl ?_
  refine sg7 (kf := 0) (v := .ref 385) dX7_write_68 flX7_7 (show kd 384 = 7 from rfl) (by decide) rfl ?_
  refine z_sipush dX7_write_71 (by decide +kernel) ?_
  refine q_aload_n dX7_write_74 rfl rfl ?_
  refine sg7 (kf := 0) (v := .ref 385) dX7_write_75 flX7_7 (show kd 384 = 7 from rfl) (by decide) rfl ?_
  refine z_bipush dX7_write_78 (by decide +kernel) ?_
  refine s_iald (n := 1583) (x := B 10) dX7_write_80 (show kd 385 = 100 + 1583 from rfl) (by omega) (by omega) (by decide) rfl ?_
  refine z_iadd dX7_write_81 ?_
  refine q_aload_n dX7_write_82 rfl rfl ?_
  refine sg7 (kf := 0) (v := .ref 385) dX7_write_83 flX7_7 (show kd 384 = 7 from rfl) (by decide) rfl ?_
  refine z_iconst dX7_write_86 ?_
  refine s_iald (n := 1583) (x := B 5) dX7_write_87 (show kd 385 = 100 + 1583 from rfl) (by omega) (by omega) (by decide) rfl ?_
  refine z_iconst dX7_write_88 ?_
  refine z_imul dX7_write_89 ?_
  refine q_iload_n dX7_write_90 rfl rfl ?_
  refine z_iadd dX7_write_91 ?_
  refine z_bipush dX7_write_92 (by decide +kernel) ?_
  refine z_imul dX7_write_94 ?_
  refine q_iload_n dX7_write_95 rfl rfl ?_
  refine z_iadd dX7_write_96 ?_
  refine z_iconst dX7_write_97 ?_
  refine z_iadd dX7_write_98 ?_
  refine ma_st dX7_write_99 (by omega) (by omega) ?_
  refine q_aload_n dX7_write_100 rfl rfl ?_
  refine sg7 (kf := 0) (v := .ref 385) dX7_write_101 flX7_7 (show kd 384 = 7 from rfl) (by decide) rfl ?_
  refine z_bipush dX7_write_104 (by decide +kernel) ?_
  refine q_dup2 dX7_write_106 rfl rfl ?_
  refine s_iald (n := 1583) (x := (va_up B ((1553 + (B 10)).toNat) ((((((B 5) * 5) + p) * 9) + hs) + 1)) 10) dX7_write_107 (show kd 385 = 100 + 1583 from rfl) (by omega) (by omega) (by decide) rfl ?_
  refine z_iconst dX7_write_108 ?_
  refine z_iadd dX7_write_109 ?_
  refine ma_st dX7_write_110 (by omega) (by omega) ?_
  exact s_vret dX7_write_111 rfl ⟨rfl, rfl⟩
set_option maxHeartbeats 4000000 in
set_option maxRecDepth 100000 in
theorem lp_write {d : Nat} (σ : gS) (A F : Nat → Int) (p hs : Int) (e30 : mSh A 30 10 = 30) : ∀ (n : Nat) (k : Nat), 1 ≤ k → k ≤ 30 → 30 - (k : Int) < (n : Int) → sE g_tt mX7_write d (fun r σ' => r = none ∧ σ' = ms σ (mWr (va_up (mSh A 30) 10 (mSh A 30 10 - 1)) p hs) F) 22 [some (.ref 384), some (.int (iZ p)), some (.int (iZ hs)), some (.int (iZ (k : Int)))] [] (ms σ (mSh A k) F) := by
  intro n
  induction n with
  | zero =>
    intro k hk hk2 hn
    exact absurd hn (by omega)
  | succ n ih =>
    intro k hk hk2 hn
    refine q_iload_n dX7_write_22 rfl rfl ?_
    refine z_bipush dX7_write_23 (by decide +kernel) ?_
    refine z_icmp_ge (tgt := 56) dX7_write_25 (by decide) (by unfold inR at *; omega) (by unfold inR at *; omega) (fun c_1 => ?_) (fun c_1 => ?_)
    · refine q_aload_n dX7_write_56 rfl rfl ?_
      refine sg7 (kf := 0) (v := .ref 385) dX7_write_57 flX7_7 (show kd 384 = 7 from rfl) (by decide) rfl ?_
      refine z_bipush dX7_write_60 (by decide +kernel) ?_
      refine q_dup2 dX7_write_62 rfl rfl ?_
      refine s_iald (n := 1583) (x := (mSh A k) 10) dX7_write_63 (show kd 385 = 100 + 1583 from rfl) (by omega) (by omega) (by decide) rfl ?_
      refine z_iconst dX7_write_64 ?_
      refine z_isub dX7_write_65 ?_
      refine ma_st dX7_write_66 (by omega) (by omega) ?_
      obtain rfl : k = 30 := by omega
      exact tl_write σ _ F p hs _ (by show 0 ≤ mSh A 30 10 - 1; rw [e30]; decide) (by show mSh A 30 10 - 1 < 30; rw [e30]; decide)
    · refine q_aload_n dX7_write_28 rfl rfl ?_
      refine sg7 (kf := 0) (v := .ref 385) dX7_write_29 flX7_7 (show kd 384 = 7 from rfl) (by decide) rfl ?_
      refine z_sipush dX7_write_32 (by decide +kernel) ?_
      refine q_iload_n dX7_write_35 rfl rfl ?_
      refine z_iadd dX7_write_36 ?_
      refine z_iconst dX7_write_37 ?_
      refine z_isub dX7_write_38 ?_
      refine q_aload_n dX7_write_39 rfl rfl ?_
      refine sg7 (kf := 0) (v := .ref 385) dX7_write_40 flX7_7 (show kd 384 = 7 from rfl) (by decide) rfl ?_
      refine z_sipush dX7_write_43 (by decide +kernel) ?_
      refine q_iload_n dX7_write_46 rfl rfl ?_
      refine z_iadd dX7_write_47 ?_
      refine s_iald (n := 1583) (x := (mSh A k) (1553 + k)) dX7_write_48 (show kd 385 = 100 + 1583 from rfl) (by omega) (by omega) (by decide) rfl ?_
      refine ma_st dX7_write_49 (by omega) (by omega) ?_
      refine z_iinc dX7_write_50 rfl (by decide) ?_
      show sE g_tt _ _ _ 53 [some (.ref 384), some (.int (iZ p)), some (.int (iZ hs)), some (.int (iZ ((k : Int) + 1)))] [] (ms σ (va_up (mSh A k) (((1553 + (k : Int)) - 1).toNat) ((mSh A k) (1553 + k))) F)
      refine q_goto (tgt := 22) dX7_write_53 (by decide) ?_
      have k9 := ih (k + 1) (by omega) (by omega) (by omega)
      rw [mSh_step A k hk] at k9
      exact k9
set_option maxHeartbeats 4000000 in
set_option maxRecDepth 100000 in
theorem m_write {d : Nat} (σ : gS) (A F : Nat → Int) (p hs : Int) (h23 : inR (F 23)) (h10 : 0 ≤ A 10) (h30 : A 10 ≤ 30) : sC mX7_write d [.ref 384, .int (iZ p), .int (iZ hs)] (ms σ A F) (fun r σ' => r = none ∧ σ' = ms σ (if F 23 = 0 then A else mWrite A p hs) F) := by
  refine sC_of rfl (Nat.le_of_ble_eq_true rfl) ?_
  show sE g_tt _ _ _ 0 [some (.ref 384), some (.int (iZ p)), some (.int (iZ hs)), none] [] (ms σ A F)
  refine q_aload_n dX7_write_0 rfl rfl ?_
  refine sg7 (kf := 23) (v := .int (iZ (F 23))) dX7_write_1 flX7_43 (show kd 384 = 7 from rfl) (by decide) rfl ?_
  refine z_if_ne (tgt := 8) dX7_write_4 (by decide) (h23) (fun c_1 => ?_) (fun c_1 => ?_)
  · refine q_aload_n dX7_write_8 rfl rfl ?_
    refine sg7 (kf := 0) (v := .ref 385) dX7_write_9 flX7_7 (show kd 384 = 7 from rfl) (by decide) rfl ?_
    refine z_bipush dX7_write_12 (by decide +kernel) ?_
    refine s_iald (n := 1583) (x := A 10) dX7_write_14 (show kd 385 = 100 + 1583 from rfl) (by omega) (by omega) (by decide) rfl ?_
    refine z_bipush dX7_write_15 (by decide +kernel) ?_
    refine z_icmp_ne (tgt := 67) dX7_write_17 (by decide) (by unfold inR at *; omega) (by unfold inR at *; omega) (fun c_2 => ?_) (fun c_2 => ?_)
    · rw [if_neg c_1]
      unfold mWrite
      rw [if_neg c_2]
      exact tl_write σ A F p hs _ h10 (by omega)
    · refine z_iconst dX7_write_20 ?_
      refine q_istore_n dX7_write_21 rfl (by decide) ?_
      show sE g_tt _ _ _ 22 [some (.ref 384), some (.int (iZ p)), some (.int (iZ hs)), some (.int (iZ 1))] [] (ms σ A F)
      rw [if_neg c_1]
      unfold mWrite
      rw [if_pos c_2]
      have e30 : mSh A 30 10 = 30 := by unfold mSh; rw [if_neg (by omega)]; exact c_2
      have k9 := lp_write (d := d) σ A F p hs e30 30 1 (by omega) (by omega) (by omega)
      rw [mSh_1] at k9
      exact k9
  · exact s_vret dX7_write_7 rfl ⟨rfl, by rw [if_pos c_1]⟩
