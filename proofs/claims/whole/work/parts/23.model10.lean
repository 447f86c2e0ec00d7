/-- n places from src copied to dst -/
def mCp (A : Nat → Int) (dst src n : Nat) : Nat → Int := fun i => if dst ≤ i ∧ i < dst + n then A (src + (i - dst)) else A i
theorem mCp_0 (A : Nat → Int) (dst src : Nat) : mCp A dst src 0 = A := by
  funext i
  unfold mCp
  rw [if_neg (by omega)]
theorem mCp_out (A : Nat → Int) (dst src n : Nat) {i : Nat} (h : i < dst ∨ dst + n ≤ i) : mCp A dst src n i = A i := by
  unfold mCp
  rw [if_neg (by omega)]
theorem mCp_step (A : Nat → Int) (dst src k : Nat) (h : src + k < dst ∨ dst ≤ src) : mCp A dst src (k + 1) = va_up (mCp A dst src k) (dst + k) (mCp A dst src k (src + k)) := by
  funext i
  by_cases e : i = dst + k
  · subst e
    rw [va_up_self, mCp_out _ _ _ _ (show src + k < dst ∨ dst + k ≤ src + k by omega)]
    unfold mCp
    rw [if_pos (by omega)]
    congr 1
    omega
  · rw [va_up_ne _ _ e]
    unfold mCp
    by_cases q : dst ≤ i ∧ i < dst + k
    · rw [if_pos (by omega), if_pos q]
    · rw [if_neg (by omega), if_neg q]
/-- a step kept where there is room -/
def mKeepT (B : Nat → Int) : Nat → Int :=
  va_up (mCp (mCp (va_up B (53 + 50 * (B 3).toNat) (B 0)) (53 + 50 * (B 3).toNat + 1) 5 19) (53 + 50 * (B 3).toNat + 20) 1553 30) 3 ((mCp (mCp (va_up B (53 + 50 * (B 3).toNat) (B 0)) (53 + 50 * (B 3).toNat + 1) 5 19) (53 + 50 * (B 3).toNat + 20) 1553 30) 3 + 1)
/-- a step kept -/
def mKeep (A : Nat → Int) : Nat → Int := if A 3 = 30 then mKeepT (va_up (mCp A 53 103 1450) 3 (mCp A 53 103 1450 3 - 1)) else mKeepT A
theorem sR_sRw (σ : gS) (b : Nat) (f : Nat → Int) (k : Nat) (z : Int) : sR (sRw σ b f) b k z = sRw σ b (va_up f k z) := by
  unfold sR sRw up2
  simp only [va_up_self, bx_uu]
theorem sRw_id (σ : gS) (b : Nat) : sRw σ b (σ.2.1 b) = σ := by
  unfold sRw
  have e2 : va_up σ.2.1 b (σ.2.1 b) = σ.2.1 := by
    funext x; by_cases h : x = b
    · subst h; exact va_up_self _ _ _
    · exact va_up_ne _ _ h
  rw [e2]
theorem mr_st {Y : gY} {M : gM} {d : Nat} {Q : Option Value → gS → Prop} {pc : Nat} {L : List (Option Value)} {S : List Value} {σ : gS} {A F f : Nat → Int} {b n : Nat} {z x : Int} {k : Nat} (hd : decode M.2.1 pc = .ok (.iastore, 1)) (ha : kd b = 100 + n) (hb : b ≠ 385) (h0 : 0 ≤ z) (h1 : z < n) (hn : n < 90000) (hk : z.toNat = k) (kk : sE Y M d Q (pc + 1) L S (ms (sRw σ b (va_up f k x)) A F)) : sE Y M d Q pc L (.int (iZ x) :: .int (iZ z) :: .ref b :: S) (ms (sRw σ b f) A F) :=
  mo_ist hd ha hb h0 h1 hn (by rw [sR_sRw, hk]; exact kk)
set_option maxHeartbeats 4000000 in
set_option maxRecDepth 100000 in
theorem lp_keep3 {d x : Nat} (σ : gS) (C F : Nat → Int) (hx : x + 50 ≤ 1553) : ∀ (n : Nat) (k : Nat), k ≤ 30 → 30 - (k : Int) < (n : Int) → sE g_tt mX7_keep d (fun r σ' => r = none ∧ σ' = ms σ (va_up (mCp C (x + 20) 1553 30) 3 (mCp C (x + 20) 1553 30 3 + 1)) F) 113 [some (.ref 384), some (.int (iZ (x : Int))), some (.int (iZ (k : Int)))] [] (ms σ (mCp C (x + 20) 1553 k) F) := by
  intro n
  induction n with
  | zero =>
    intro k hk hn
    exact absurd hn (by omega)
  | succ n ih =>
    intro k hk hn
    refine q_iload_n dX7_keep_113 rfl rfl ?_
    refine z_bipush dX7_keep_114 (by decide +kernel) ?_
    refine z_icmp_ge (tgt := 146) dX7_keep_116 (by decide) (by unfold inR at *; omega) (by unfold inR at *; omega) (fun c_1 => ?_) (fun c_1 => ?_)
    · refine q_aload_n dX7_keep_146 rfl rfl ?_
      refine sg7 (kf := 0) (v := .ref 385) dX7_keep_147 flX7_7 (show kd 384 = 7 from rfl) (by decide) rfl ?_
      refine z_iconst dX7_keep_150 ?_
      refine q_dup2 dX7_keep_151 rfl rfl ?_
      refine s_iald (n := 1583) (x := (mCp C (x + 20) 1553 k) 3) dX7_keep_152 (show kd 385 = 100 + 1583 from rfl) (by omega) (by omega) (by decide) rfl ?_
      refine z_iconst dX7_keep_153 ?_
      refine z_iadd dX7_keep_154 ?_
      refine ma_st dX7_keep_155 (by omega) (by omega) ?_
      exact s_vret dX7_keep_156 rfl ⟨rfl, by rw [show k = 30 by omega]; rfl⟩
    · refine q_aload_n dX7_keep_119 rfl rfl ?_
      refine sg7 (kf := 0) (v := .ref 385) dX7_keep_120 flX7_7 (show kd 384 = 7 from rfl) (by decide) rfl ?_
      refine q_iload_n dX7_keep_123 rfl rfl ?_
      refine z_bipush dX7_keep_124 (by decide +kernel) ?_
      refine z_iadd dX7_keep_126 ?_
      refine q_iload_n dX7_keep_127 rfl rfl ?_
      refine z_iadd dX7_keep_128 ?_
      refine q_aload_n dX7_keep_129 rfl rfl ?_
      refine sg7 (kf := 0) (v := .ref 385) dX7_keep_130 flX7_7 (show kd 384 = 7 from rfl) (by decide) rfl ?_
      refine z_sipush dX7_keep_133 (by decide +kernel) ?_
      refine q_iload_n dX7_keep_136 rfl rfl ?_
      refine z_iadd dX7_keep_137 ?_
      refine s_iald (n := 1583) (x := (mCp C (x + 20) 1553 k) (1553 + k)) dX7_keep_138 (show kd 385 = 100 + 1583 from rfl) (by omega) (by omega) (by decide) rfl ?_
      refine ma_st dX7_keep_139 (by omega) (by omega) ?_
      refine z_iinc dX7_keep_140 rfl (by decide) ?_
      show sE g_tt _ _ _ 143 [some (.ref 384), some (.int (iZ (x : Int))), some (.int (iZ ((k : Int) + 1)))] [] (ms σ (va_up (mCp C (x + 20) 1553 k) ((((x : Int) + 20) + (k : Int)).toNat) ((mCp C (x + 20) 1553 k) (1553 + k))) F)
      refine q_goto (tgt := 113) dX7_keep_143 (by decide) ?_
      have k9 := ih (k + 1) (by omega) (by omega)
      rw [mCp_step C (x + 20) 1553 k (Or.inr (by omega))] at k9
      rw [show ((x : Int) + 20 + (k : Int)).toNat = x + 20 + k by omega]
      exact k9
set_option maxHeartbeats 4000000 in
set_option maxRecDepth 100000 in
theorem lp_keep2 {d x : Nat} (σ : gS) (C F : Nat → Int) (hx : x + 50 ≤ 1553) (hx5 : 53 ≤ x) : ∀ (n : Nat) (k : Nat), k ≤ 19 → 19 - (k : Int) < (n : Int) → sE g_tt mX7_keep d (fun r σ' => r = none ∧ σ' = ms σ (va_up (mCp (mCp C (x + 1) 5 19) (x + 20) 1553 30) 3 (mCp (mCp C (x + 1) 5 19) (x + 20) 1553 30 3 + 1)) F) 81 [some (.ref 384), some (.int (iZ (x : Int))), some (.int (iZ (k : Int)))] [] (ms σ (mCp C (x + 1) 5 k) F) := by
  intro n
  induction n with
  | zero =>
    intro k hk hn
    exact absurd hn (by omega)
  | succ n ih =>
    intro k hk hn
    refine q_iload_n dX7_keep_81 rfl rfl ?_
    refine z_bipush dX7_keep_82 (by decide +kernel) ?_
    refine z_icmp_ge (tgt := 111) dX7_keep_84 (by decide) (by unfold inR at *; omega) (by unfold inR at *; omega) (fun c_1 => ?_) (fun c_1 => ?_)
    · refine z_iconst dX7_keep_111 ?_
      refine q_istore_n dX7_keep_112 rfl (by decide) ?_
      show sE g_tt _ _ _ 113 [some (.ref 384), some (.int (iZ (x : Int))), some (.int (iZ 0))] [] (ms σ (mCp C (x + 1) 5 k) F)
      obtain rfl : k = 19 := by omega
      have k9 := lp_keep3 (d := d) σ (mCp C (x + 1) 5 19) F hx 31 0 (by omega) (by omega)
      rw [mCp_0] at k9
      exact k9
    · refine q_aload_n dX7_keep_87 rfl rfl ?_
      refine sg7 (kf := 0) (v := .ref 385) dX7_keep_88 flX7_7 (show kd 384 = 7 from rfl) (by decide) rfl ?_
      refine q_iload_n dX7_keep_91 rfl rfl ?_
      refine z_iconst dX7_keep_92 ?_
      refine z_iadd dX7_keep_93 ?_
      refine q_iload_n dX7_keep_94 rfl rfl ?_
      refine z_iadd dX7_keep_95 ?_
      refine q_aload_n dX7_keep_96 rfl rfl ?_
      refine sg7 (kf := 0) (v := .ref 385) dX7_keep_97 flX7_7 (show kd 384 = 7 from rfl) (by decide) rfl ?_
      refine z_iconst dX7_keep_100 ?_
      refine q_iload_n dX7_keep_101 rfl rfl ?_
      refine z_iadd dX7_keep_102 ?_
      refine s_iald (n := 1583) (x := (mCp C (x + 1) 5 k) (5 + k)) dX7_keep_103 (show kd 385 = 100 + 1583 from rfl) (by omega) (by omega) (by decide) rfl ?_
      refine ma_st dX7_keep_104 (by omega) (by omega) ?_
      refine z_iinc dX7_keep_105 rfl (by decide) ?_
      show sE g_tt _ _ _ 108 [some (.ref 384), some (.int (iZ (x : Int))), some (.int (iZ ((k : Int) + 1)))] [] (ms σ (va_up (mCp C (x + 1) 5 k) ((((x : Int) + 1) + (k : Int)).toNat) ((mCp C (x + 1) 5 k) (5 + k))) F)
      refine q_goto (tgt := 81) dX7_keep_108 (by decide) ?_
      have k9 := ih (k + 1) (by omega) (by omega)
      rw [mCp_step C (x + 1) 5 k (Or.inl (by omega))] at k9
      rw [show ((x : Int) + 1 + (k : Int)).toNat = x + 1 + k by omega]
      exact k9
set_option maxHeartbeats 4000000 in
set_option maxRecDepth 100000 in
theorem tl_keep {d q : Nat} (σ : gS) (B F : Nat → Int) (l1 l2 : Option Value) (hq : B 3 = (q : Int)) (hq9 : q < 30) : sE g_tt mX7_keep d (fun r σ' => r = none ∧ σ' = ms σ (mKeepT B) F) 54 [some (.ref 384), l1, l2] [] (ms σ B F) := by
  refine z_bipush dX7_keep_54 (by decide +kernel) ?_
  refine z_bipush dX7_keep_56 (by decide +kernel) ?_
  refine q_aload_n dX7_keep_58 rfl rfl ?_
  refine sg7 (kf := 0) (v := .ref 385) dX7_keep_59 flX7_7 (show kd 384 = 7 from rfl) (by decide) rfl ?_
  refine z_iconst dX7_keep_62 ?_
  refine s_iald (n := 1583) (x := (q : Int)) dX7_keep_63 (show kd 385 = 100 + 1583 from rfl) (by omega) (by omega) (by decide) (by show B 3 = _; exact hq) ?_
  refine z_imul dX7_keep_64 ?_
  refine z_iadd dX7_keep_65 ?_
  refine q_istore_n dX7_keep_66 rfl (by decide) ?_
  show sE g_tt _ _ _ 67 [some (.ref 384), some (.int (iZ (53 + (50 * (q : Int))))), l2] [] (ms σ B F)
  refine q_aload_n dX7_keep_67 rfl rfl ?_
  refine sg7 (kf := 0) (v := .ref 385) dX7_keep_68 flX7_7 (show kd 384 = 7 from rfl) (by decide) rfl ?_
  refine q_iload_n dX7_keep_71 rfl rfl ?_
  refine q_aload_n dX7_keep_72 rfl rfl ?_
  refine sg7 (kf := 0) (v := .ref 385) dX7_keep_73 flX7_7 (show kd 384 = 7 from rfl) (by decide) rfl ?_
  refine z_iconst dX7_keep_76 ?_
  refine s_iald (n := 1583) (x := B 0) dX7_keep_77 (show kd 385 = 100 + 1583 from rfl) (by omega) (by omega) (by decide) rfl ?_
  refine ma_st dX7_keep_78 (by omega) (by omega) ?_
  refine z_iconst dX7_keep_79 ?_
  refine q_istore_n dX7_keep_80 rfl (by decide) ?_
  show sE g_tt _ _ _ 81 [some (.ref 384), some (.int (iZ (53 + (50 * (q : Int))))), some (.int (iZ 0))] [] (ms σ (va_up B ((53 + (50 * (q : Int))).toNat) (B 0)) F)
  have k9 := lp_keep2 (d := d) (x := 53 + 50 * q) σ (va_up B (53 + 50 * q) (B 0)) F (by omega) (by omega) 20 0 (by omega) (by omega)
  rw [mCp_0, show ((53 + 50 * q : Nat) : Int) = 53 + 50 * (q : Int) by omega] at k9
  rw [show ((53 : Int) + 50 * (q : Int)).toNat = 53 + 50 * q by omega]
  unfold mKeepT
  rw [show (B 3).toNat = q by omega]
  exact k9
set_option maxHeartbeats 4000000 in
set_option maxRecDepth 100000 in
theorem lp_keep1 {d : Nat} (σ : gS) (A F : Nat → Int) (h30 : A 3 = 30) : ∀ (n : Nat) (k : Nat), k ≤ 1450 → 1450 - (k : Int) < (n : Int) → sE g_tt mX7_keep d (fun r σ' => r = none ∧ σ' = ms σ (mKeepT (va_up (mCp A 53 103 1450) 3 (mCp A 53 103 1450 3 - 1))) F) 13 [some (.ref 384), some (.int (iZ (k : Int))), none] [] (ms σ (mCp A 53 103 k) F) := by
  intro n
  induction n with
  | zero =>
    intro k hk hn
    exact absurd hn (by omega)
  | succ n ih =>
    intro k hk hn
    refine q_iload_n dX7_keep_13 rfl rfl ?_
    refine z_sipush dX7_keep_14 (by decide +kernel) ?_
    refine z_icmp_ge (tgt := 44) dX7_keep_17 (by decide) (by unfold inR at *; omega) (by unfold inR at *; omega) (fun c_1 => ?_) (fun c_1 => ?_)
    · refine q_aload_n dX7_keep_44 rfl rfl ?_
      refine sg7 (kf := 0) (v := .ref 385) dX7_keep_45 flX7_7 (show kd 384 = 7 from rfl) (by decide) rfl ?_
      refine z_iconst dX7_keep_48 ?_
      refine q_dup2 dX7_keep_49 rfl rfl ?_
      refine s_iald (n := 1583) (x := (mCp A 53 103 k) 3) dX7_keep_50 (show kd 385 = 100 + 1583 from rfl) (by omega) (by omega) (by decide) rfl ?_
      refine z_iconst dX7_keep_51 ?_
      refine z_isub dX7_keep_52 ?_
      refine ma_st dX7_keep_53 (by omega) (by omega) ?_
      obtain rfl : k = 1450 := by omega
      exact tl_keep (q := 29) σ _ F _ _ (by show mCp A 53 103 1450 3 - 1 = _; rw [mCp_out _ _ _ _ (by omega), h30]; decide) (by decide)
    · refine q_aload_n dX7_keep_20 rfl rfl ?_
      refine sg7 (kf := 0) (v := .ref 385) dX7_keep_21 flX7_7 (show kd 384 = 7 from rfl) (by decide) rfl ?_
      refine z_bipush dX7_keep_24 (by decide +kernel) ?_
      refine q_iload_n dX7_keep_26 rfl rfl ?_
      refine z_iadd dX7_keep_27 ?_
      refine q_aload_n dX7_keep_28 rfl rfl ?_
      refine sg7 (kf := 0) (v := .ref 385) dX7_keep_29 flX7_7 (show kd 384 = 7 from rfl) (by decide) rfl ?_
      refine z_bipush dX7_keep_32 (by decide +kernel) ?_
      refine q_iload_n dX7_keep_34 rfl rfl ?_
      refine z_iadd dX7_keep_35 ?_
      refine s_iald (n := 1583) (x := (mCp A 53 103 k) (103 + k)) dX7_keep_36 (show kd 385 = 100 + 1583 from rfl) (by omega) (by omega) (by decide) rfl ?_
      refine ma_st dX7_keep_37 (by omega) (by omega) ?_
      refine z_iinc dX7_keep_38 rfl (by decide) ?_
      show sE g_tt _ _ _ 41 [some (.ref 384), some (.int (iZ ((k : Int) + 1))), none] [] (ms σ (va_up (mCp A 53 103 k) (53 + k) ((mCp A 53 103 k) (103 + k))) F)
      refine q_goto (tgt := 13) dX7_keep_41 (by decide) ?_
      have k9 := ih (k + 1) (by omega) (by omega)
      rw [mCp_step A 53 103 k (Or.inr (by omega))] at k9
      exact k9
set_option maxHeartbeats 4000000 in
set_option maxRecDepth 100000 in
theorem m_keep {d : Nat} (σ : gS) (A F : Nat → Int) (h0 : 0 ≤ A 3) (h30 : A 3 ≤ 30) : sC mX7_keep d [.ref 384] (ms σ A F) (fun r σ' => r = none ∧ σ' = ms σ (mKeep A) F) := by
  refine sC_of rfl (Nat.le_of_ble_eq_true rfl) ?_
  show sE g_tt _ _ _ 0 [some (.ref 384), none, none] [] (ms σ A F)
  refine q_aload_n dX7_keep_0 rfl rfl ?_
  refine sg7 (kf := 0) (v := .ref 385) dX7_keep_1 flX7_7 (show kd 384 = 7 from rfl) (by decide) rfl ?_
  refine z_iconst dX7_keep_4 ?_
  refine s_iald (n := 1583) (x := A 3) dX7_keep_5 (show kd 385 = 100 + 1583 from rfl) (by omega) (by omega) (by decide) rfl ?_
  refine z_bipush dX7_keep_6 (by decide +kernel) ?_
  refine z_icmp_ne (tgt := 54) dX7_keep_8 (by decide) (by unfold inR at *; omega) (by unfold inR at *; omega) (fun c_1 => ?_) (fun c_1 => ?_)
  · unfold mKeep
    rw [if_neg c_1]
    exact tl_keep (q := (A 3).toNat) σ A F _ _ (by omega) (by omega)
  · refine z_iconst dX7_keep_11 ?_
    refine q_istore_n dX7_keep_12 rfl (by decide) ?_
    show sE g_tt _ _ _ 13 [some (.ref 384), some (.int (iZ 0)), none] [] (ms σ A F)
    unfold mKeep
    rw [if_pos c_1]
    have k9 := lp_keep1 (d := d) σ A F c_1 1451 0 (by omega) (by omega)
    rw [mCp_0] at k9
    exact k9
/-- the places 5 .. k - 1 of A, the rest of S -/
def mAs (A S : Nat → Int) (k : Nat) : Nat → Int := fun i => if 5 ≤ i ∧ i < k then A i else S i
theorem mAs_5 (A S : Nat → Int) : mAs A S 5 = S := by
  funext i
  unfold mAs
  rw [if_neg (by omega)]
theorem mAs_step (A S : Nat → Int) (k : Nat) (h : 5 ≤ k) : mAs A S (k + 1) = va_up (mAs A S k) k (A k) := by
  funext i
  by_cases e : i = k
  · subst e
    rw [va_up_self]
    unfold mAs
    rw [if_pos (by omega)]
  · rw [va_up_ne _ _ e]
    unfold mAs
    by_cases q : 5 ≤ i ∧ i < k
    · rw [if_pos (by omega), if_pos q]
    · rw [if_neg (by omega), if_neg q]
set_option maxHeartbeats 4000000 in
set_option maxRecDepth 100000 in
theorem lp_setAside {d : Nat} (σ : gS) (A F : Nat → Int) : ∀ (n : Nat) (k : Nat), 5 ≤ k → k ≤ 24 → 24 - (k : Int) < (n : Int) → sE g_tt mX7_setAside d (fun r σ' => r = none ∧ σ' = ms (sRw σ 393 (mAs A (σ.2.1 393) 24)) A (va_up F 23 0)) 2 [some (.ref 384), some (.int (iZ (k : Int)))] [] (ms (sRw σ 393 (mAs A (σ.2.1 393) k)) A F) := by
  intro n
  induction n with
  | zero =>
    intro k h5k hk hn
    exact absurd hn (by omega)
  | succ n ih =>
    intro k h5k hk hn
    refine q_iload_n dX7_setAside_2 rfl rfl ?_
    refine z_bipush dX7_setAside_3 (by decide +kernel) ?_
    refine z_icmp_ge (tgt := 26) dX7_setAside_5 (by decide) (by unfold inR at *; omega) (by unfold inR at *; omega) (fun c_1 => ?_) (fun c_1 => ?_)
    · refine q_aload_n dX7_setAside_26 rfl rfl ?_
      refine z_iconst dX7_setAside_27 ?_
      refine mz23 dX7_setAside_28 flX7_43 (by omega) ?_
      exact s_vret dX7_setAside_31 rfl ⟨rfl, by rw [show k = 24 by omega]⟩
    · refine q_aload_n dX7_setAside_8 rfl rfl ?_
      refine sg7 (kf := 27) (v := .ref 393) dX7_setAside_9 flX7_47 (show kd 384 = 7 from rfl) (by decide) rfl ?_
      refine q_iload_n dX7_setAside_12 rfl rfl ?_
      refine q_aload_n dX7_setAside_13 rfl rfl ?_
      refine sg7 (kf := 0) (v := .ref 385) dX7_setAside_14 flX7_7 (show kd 384 = 7 from rfl) (by decide) rfl ?_
      refine q_iload_n dX7_setAside_17 rfl rfl ?_
      refine s_iald (n := 1583) (x := A k) dX7_setAside_18 (show kd 385 = 100 + 1583 from rfl) (by omega) (by omega) (by decide) rfl ?_
      refine mr_st (b := 393) (n := 24) (k := k) dX7_setAside_19 (show kd 393 = 100 + 24 from rfl) (by decide) (by omega) (by omega) (by decide) (by omega) ?_
      refine z_iinc dX7_setAside_20 rfl (by decide) ?_
      show sE g_tt _ _ _ 23 [some (.ref 384), some (.int (iZ ((k : Int) + 1)))] [] (ms (sRw σ 393 (va_up (mAs A (σ.2.1 393) k) k (A k))) A F)
      refine q_goto (tgt := 2) dX7_setAside_23 (by decide) ?_
      have k9 := ih (k + 1) (by omega) (by omega) (by omega)
      rw [mAs_step _ _ _ h5k] at k9
      exact k9
set_option maxHeartbeats 4000000 in
set_option maxRecDepth 100000 in
theorem m_setAside {d : Nat} (σ : gS) (A F : Nat → Int) : sC mX7_setAside d [.ref 384] (ms σ A F) (fun r σ' => r = none ∧ σ' = ms (sRw σ 393 (mAs A (σ.2.1 393) 24)) A (va_up F 23 0)) := by
  refine sC_of rfl (Nat.le_of_ble_eq_true rfl) ?_
  show sE g_tt _ _ _ 0 [some (.ref 384), none] [] (ms σ A F)
  refine z_iconst dX7_setAside_0 ?_
  refine q_istore_n dX7_setAside_1 rfl (by decide) ?_
  show sE g_tt _ _ _ 2 [some (.ref 384), some (.int (iZ 5))] [] (ms σ A F)
  have k9 := lp_setAside (d := d) σ A F 20 5 (by omega) (by omega) (by omega)
  rw [mAs_5, sRw_id] at k9
  exact k9
set_option maxHeartbeats 4000000 in
set_option maxRecDepth 100000 in
theorem lp_putBack {d : Nat} (σ : gS) (A F : Nat → Int) : ∀ (n : Nat) (k : Nat), 5 ≤ k → k ≤ 24 → 24 - (k : Int) < (n : Int) → sE g_tt mX7_putBack d (fun r σ' => r = none ∧ σ' = ms σ (mAs (σ.2.1 393) A 24) (va_up F 23 1)) 2 [some (.ref 384), some (.int (iZ (k : Int)))] [] (ms σ (mAs (σ.2.1 393) A k) F) := by
  intro n
  induction n with
  | zero =>
    intro k h5k hk hn
    exact absurd hn (by omega)
  | succ n ih =>
    intro k h5k hk hn
    refine q_iload_n dX7_putBack_2 rfl rfl ?_
    refine z_bipush dX7_putBack_3 (by decide +kernel) ?_
    refine z_icmp_ge (tgt := 26) dX7_putBack_5 (by decide) (by unfold inR at *; omega) (by unfold inR at *; omega) (fun c_1 => ?_) (fun c_1 => ?_)
    · refine q_aload_n dX7_putBack_26 rfl rfl ?_
      refine z_iconst dX7_putBack_27 ?_
      refine mz23 dX7_putBack_28 flX7_43 (by omega) ?_
      exact s_vret dX7_putBack_31 rfl ⟨rfl, by rw [show k = 24 by omega]⟩
    · refine q_aload_n dX7_putBack_8 rfl rfl ?_
      refine sg7 (kf := 0) (v := .ref 385) dX7_putBack_9 flX7_7 (show kd 384 = 7 from rfl) (by decide) rfl ?_
      refine q_iload_n dX7_putBack_12 rfl rfl ?_
      refine q_aload_n dX7_putBack_13 rfl rfl ?_
      refine sg7 (kf := 27) (v := .ref 393) dX7_putBack_14 flX7_47 (show kd 384 = 7 from rfl) (by decide) rfl ?_
      refine q_iload_n dX7_putBack_17 rfl rfl ?_
      refine s_iald (n := 24) (x := σ.2.1 393 k) dX7_putBack_18 (show kd 393 = 100 + 24 from rfl) (by omega) (by omega) (by decide) rfl ?_
      refine ma_st dX7_putBack_19 (by omega) (by omega) ?_
      refine z_iinc dX7_putBack_20 rfl (by decide) ?_
      show sE g_tt _ _ _ 23 [some (.ref 384), some (.int (iZ ((k : Int) + 1)))] [] (ms σ (va_up (mAs (σ.2.1 393) A k) k (σ.2.1 393 k)) F)
      refine q_goto (tgt := 2) dX7_putBack_23 (by decide) ?_
      have k9 := ih (k + 1) (by omega) (by omega) (by omega)
      rw [mAs_step _ _ _ h5k] at k9
      exact k9
set_option maxHeartbeats 4000000 in
set_option maxRecDepth 100000 in
theorem m_putBack {d : Nat} (σ : gS) (A F : Nat → Int) : sC mX7_putBack d [.ref 384] (ms σ A F) (fun r σ' => r = none ∧ σ' = ms σ (mAs (σ.2.1 393) A 24) (va_up F 23 1)) := by
  refine sC_of rfl (Nat.le_of_ble_eq_true rfl) ?_
  show sE g_tt _ _ _ 0 [some (.ref 384), none] [] (ms σ A F)
  refine z_iconst dX7_putBack_0 ?_
  refine q_istore_n dX7_putBack_1 rfl (by decide) ?_
  show sE g_tt _ _ _ 2 [some (.ref 384), some (.int (iZ 5))] [] (ms σ A F)
  have k9 := lp_putBack (d := d) σ A F 20 5 (by omega) (by omega) (by omega)
  rw [mAs_5] at k9
  exact k9
