/-- people told since (p0 .. p - 1) are where they were told -/
def mTo (C : Nat → Int) (p0 p : Nat) : Nat → Int := fun i => if 19 + p0 ≤ i ∧ i < 19 + p then C (i + 5) else C i
theorem mTo_0 (C : Nat → Int) (p0 : Nat) : mTo C p0 p0 = C := by
  funext i
  unfold mTo
  rw [if_neg (by omega)]
theorem mTo_out (C : Nat → Int) (p0 p : Nat) {i : Nat} (h : i < 19 + p0 ∨ 19 + p ≤ i) : mTo C p0 p i = C i := by
  unfold mTo
  rw [if_neg (by omega)]
theorem mTo_step (C : Nat → Int) (p0 p : Nat) (h : p0 ≤ p) : mTo C p0 (p + 1) = va_up (mTo C p0 p) (19 + p) (mTo C p0 p (24 + p)) := by
  funext i
  by_cases e : i = 19 + p
  · subst e
    rw [va_up_self, mTo_out _ _ _ (show 24 + p < 19 + p0 ∨ 19 + p ≤ 24 + p by omega)]
    unfold mTo
    rw [if_pos (by omega)]
    congr 1
    omega
  · rw [va_up_ne _ _ e]
    unfold mTo
    by_cases q : 19 + p0 ≤ i ∧ i < 19 + p
    · rw [if_pos (by omega), if_pos q]
    · rw [if_neg (by omega), if_neg q]
/-- the latest step taken back: q steps are left, it began with p0 people -/
def mUndo (A : Nat → Int) (q p0 : Nat) : Nat → Int :=
  mCp (mTo (mCp (va_up A 3 (q : Int)) 5 (53 + 50 * q + 1) 19) p0 (A 0).toNat) 1553 (53 + 50 * q + 20) 30
set_option maxHeartbeats 4000000 in
set_option maxRecDepth 100000 in
theorem lp_undo3 {d x : Nat} (σ : gS) (D F : Nat → Int) (hx : x + 50 ≤ 1553) (hx5 : 53 ≤ x) : ∀ (n : Nat) (k : Nat), k ≤ 30 → 30 - (k : Int) < (n : Int) → sE g_tt mX7_undo d (fun r σ' => r = some (.int (iZ (D 3))) ∧ σ' = ms σ (mCp D 1553 (x + 20) 30) F) 109 [some (.ref 384), some (.int (iZ (x : Int))), some (.int (iZ (k : Int)))] [] (ms σ (mCp D 1553 (x + 20) k) F) := by
  intro n
  induction n with
  | zero =>
    intro k hk hn
    exact absurd hn (by omega)
  | succ n ih =>
    intro k hk hn
    refine q_iload_n dX7_undo_109 rfl rfl ?_
    refine z_bipush dX7_undo_110 (by decide +kernel) ?_
    refine z_icmp_ge (tgt := 142) dX7_undo_112 (by decide) (by unfold inR at *; omega) (by unfold inR at *; omega) (fun c_1 => ?_) (fun c_1 => ?_)
    · refine q_aload_n dX7_undo_142 rfl rfl ?_
      refine sg7 (kf := 0) (v := .ref 385) dX7_undo_143 flX7_7 (show kd 384 = 7 from rfl) (by decide) rfl ?_
      refine z_iconst dX7_undo_146 ?_
      refine s_iald (n := 1583) (x := (mCp D 1553 (x + 20) k) 3) dX7_undo_147 (show kd 385 = 100 + 1583 from rfl) (by omega) (by omega) (by decide) rfl ?_
      exact s_iretZ dX7_undo_148 rfl ⟨by rw [mCp_out _ _ _ _ (by omega)], by rw [show k = 30 by omega]⟩
    · refine q_aload_n dX7_undo_115 rfl rfl ?_
      refine sg7 (kf := 0) (v := .ref 385) dX7_undo_116 flX7_7 (show kd 384 = 7 from rfl) (by decide) rfl ?_
      refine z_sipush dX7_undo_119 (by decide +kernel) ?_
      refine q_iload_n dX7_undo_122 rfl rfl ?_
      refine z_iadd dX7_undo_123 ?_
      refine q_aload_n dX7_undo_124 rfl rfl ?_
      refine sg7 (kf := 0) (v := .ref 385) dX7_undo_125 flX7_7 (show kd 384 = 7 from rfl) (by decide) rfl ?_
      refine q_iload_n dX7_undo_128 rfl rfl ?_
      refine z_bipush dX7_undo_129 (by decide +kernel) ?_
      refine z_iadd dX7_undo_131 ?_
      refine q_iload_n dX7_undo_132 rfl rfl ?_
      refine z_iadd dX7_undo_133 ?_
      refine s_iald (n := 1583) (x := (mCp D 1553 (x + 20) k) ((((x : Int) + 20) + (k : Int)).toNat)) dX7_undo_134 (show kd 385 = 100 + 1583 from rfl) (by omega) (by omega) (by decide) rfl ?_
      refine ma_st dX7_undo_135 (by omega) (by omega) ?_
      refine z_iinc dX7_undo_136 rfl (by decide) ?_
      show sE g_tt _ _ _ 139 [some (.ref 384), some (.int (iZ (x : Int))), some (.int (iZ ((k : Int) + 1)))] [] (ms σ (va_up (mCp D 1553 (x + 20) k) (1553 + k) ((mCp D 1553 (x + 20) k) ((((x : Int) + 20) + (k : Int)).toNat))) F)
      refine q_goto (tgt := 109) dX7_undo_139 (by decide) ?_
      have k9 := ih (k + 1) (by omega) (by omega)
      rw [mCp_step D 1553 (x + 20) k (Or.inl (by omega))] at k9
      rw [show ((x : Int) + 20 + (k : Int)).toNat = x + 20 + k by omega]
      exact k9
set_option maxHeartbeats 4000000 in
set_option maxRecDepth 100000 in
theorem lp_undo2 {d x p0 : Nat} (σ : gS) (C F : Nat → Int) (hx : x + 50 ≤ 1553) (hx5 : 53 ≤ x) (h0 : 0 ≤ C 0) (h5 : C 0 ≤ 5) : ∀ (n : Nat) (p : Nat), p0 ≤ p → (p : Int) ≤ C 0 → C 0 - (p : Int) < (n : Int) → sE g_tt mX7_undo d (fun r σ' => r = some (.int (iZ (C 3))) ∧ σ' = ms σ (mCp (mTo C p0 (C 0).toNat) 1553 (x + 20) 30) F) 73 [some (.ref 384), some (.int (iZ (x : Int))), some (.int (iZ (p : Int)))] [] (ms σ (mTo C p0 p) F) := by
  intro n
  induction n with
  | zero =>
    intro p hp0 hp hn
    exact absurd hn (by omega)
  | succ n ih =>
    intro p hp0 hp hn
    refine q_iload_n dX7_undo_73 rfl rfl ?_
    refine q_aload_n dX7_undo_74 rfl rfl ?_
    refine sg7 (kf := 0) (v := .ref 385) dX7_undo_75 flX7_7 (show kd 384 = 7 from rfl) (by decide) rfl ?_
    refine z_iconst dX7_undo_78 ?_
    refine s_iald (n := 1583) (x := C 0) dX7_undo_79 (show kd 385 = 100 + 1583 from rfl) (by omega) (by omega) (by decide) (by show mTo C p0 p 0 = _; exact mTo_out _ _ _ (by omega)) ?_
    refine z_icmp_ge (tgt := 107) dX7_undo_80 (by decide) (by unfold inR at *; omega) (by unfold inR at *; omega) (fun c_1 => ?_) (fun c_1 => ?_)
    · refine z_iconst dX7_undo_107 ?_
      refine q_istore_n dX7_undo_108 rfl (by decide) ?_
      show sE g_tt _ _ _ 109 [some (.ref 384), some (.int (iZ (x : Int))), some (.int (iZ 0))] [] (ms σ (mTo C p0 p) F)
      obtain rfl : p = (C 0).toNat := by omega
      have k9 := lp_undo3 (d := d) σ (mTo C p0 (C 0).toNat) F hx hx5 31 0 (by omega) (by omega)
      rw [mCp_0, mTo_out _ _ _ (by omega)] at k9
      exact k9
    · refine q_aload_n dX7_undo_83 rfl rfl ?_
      refine sg7 (kf := 0) (v := .ref 385) dX7_undo_84 flX7_7 (show kd 384 = 7 from rfl) (by decide) rfl ?_
      refine z_bipush dX7_undo_87 (by decide +kernel) ?_
      refine q_iload_n dX7_undo_89 rfl rfl ?_
      refine z_iadd dX7_undo_90 ?_
      refine q_aload_n dX7_undo_91 rfl rfl ?_
      refine sg7 (kf := 0) (v := .ref 385) dX7_undo_92 flX7_7 (show kd 384 = 7 from rfl) (by decide) rfl ?_
      refine z_bipush dX7_undo_95 (by decide +kernel) ?_
      refine q_iload_n dX7_undo_97 rfl rfl ?_
      refine z_iadd dX7_undo_98 ?_
      refine s_iald (n := 1583) (x := (mTo C p0 p) (24 + p)) dX7_undo_99 (show kd 385 = 100 + 1583 from rfl) (by omega) (by omega) (by decide) rfl ?_
      refine ma_st dX7_undo_100 (by omega) (by omega) ?_
      refine z_iinc dX7_undo_101 rfl (by decide) ?_
      show sE g_tt _ _ _ 104 [some (.ref 384), some (.int (iZ (x : Int))), some (.int (iZ ((p : Int) + 1)))] [] (ms σ (va_up (mTo C p0 p) (19 + p) ((mTo C p0 p) (24 + p))) F)
      refine q_goto (tgt := 73) dX7_undo_104 (by decide) ?_
      have k9 := ih (p + 1) (by omega) (by omega) (by omega)
      rw [mTo_step C p0 p hp0] at k9
      exact k9
set_option maxHeartbeats 4000000 in
set_option maxRecDepth 100000 in
theorem lp_undo1 {d x p0 : Nat} (σ : gS) (B F : Nat → Int) (hx : x + 50 ≤ 1553) (hx5 : 53 ≤ x) (h0 : 0 ≤ B 0) (h5 : B 0 ≤ 5) (hp0 : B x = (p0 : Int)) (hpp : (p0 : Int) ≤ B 0) : ∀ (n : Nat) (k : Nat), k ≤ 19 → 19 - (k : Int) < (n : Int) → sE g_tt mX7_undo d (fun r σ' => r = some (.int (iZ (B 3))) ∧ σ' = ms σ (mCp (mTo (mCp B 5 (x + 1) 19) p0 (B 0).toNat) 1553 (x + 20) 30) F) 36 [some (.ref 384), some (.int (iZ (x : Int))), some (.int (iZ (k : Int)))] [] (ms σ (mCp B 5 (x + 1) k) F) := by
  intro n
  induction n with
  | zero =>
    intro k hk hn
    exact absurd hn (by omega)
  | succ n ih =>
    intro k hk hn
    refine q_iload_n dX7_undo_36 rfl rfl ?_
    refine z_bipush dX7_undo_37 (by decide +kernel) ?_
    refine z_icmp_ge (tgt := 66) dX7_undo_39 (by decide) (by unfold inR at *; omega) (by unfold inR at *; omega) (fun c_1 => ?_) (fun c_1 => ?_)
    · refine q_aload_n dX7_undo_66 rfl rfl ?_
      refine sg7 (kf := 0) (v := .ref 385) dX7_undo_67 flX7_7 (show kd 384 = 7 from rfl) (by decide) rfl ?_
      refine q_iload_n dX7_undo_70 rfl rfl ?_
      refine s_iald (n := 1583) (x := (p0 : Int)) dX7_undo_71 (show kd 385 = 100 + 1583 from rfl) (by omega) (by omega) (by decide) (by show mCp B 5 (x + 1) k _ = _; rw [show ((x : Int)).toNat = x from rfl, mCp_out _ _ _ _ (by omega)]; exact hp0) ?_
      refine q_istore_n dX7_undo_72 rfl (by decide) ?_
      show sE g_tt _ _ _ 73 [some (.ref 384), some (.int (iZ (x : Int))), some (.int (iZ (p0 : Int)))] [] (ms σ (mCp B 5 (x + 1) k) F)
      obtain rfl : k = 19 := by omega
      have e0 : mCp B 5 (x + 1) 19 0 = B 0 := mCp_out _ _ _ _ (by omega)
      have e3 : mCp B 5 (x + 1) 19 3 = B 3 := mCp_out _ _ _ _ (by omega)
      have k9 := lp_undo2 (d := d) (p0 := p0) σ (mCp B 5 (x + 1) 19) F hx hx5 (by rw [e0]; exact h0) (by rw [e0]; exact h5) 6 p0 (by omega) (by rw [e0]; exact hpp) (by rw [e0]; omega)
      rw [mTo_0, e0, e3] at k9
      exact k9
    · refine q_aload_n dX7_undo_42 rfl rfl ?_
      refine sg7 (kf := 0) (v := .ref 385) dX7_undo_43 flX7_7 (show kd 384 = 7 from rfl) (by decide) rfl ?_
      refine z_iconst dX7_undo_46 ?_
      refine q_iload_n dX7_undo_47 rfl rfl ?_
      refine z_iadd dX7_undo_48 ?_
      refine q_aload_n dX7_undo_49 rfl rfl ?_
      refine sg7 (kf := 0) (v := .ref 385) dX7_undo_50 flX7_7 (show kd 384 = 7 from rfl) (by decide) rfl ?_
      refine q_iload_n dX7_undo_53 rfl rfl ?_
      refine z_iconst dX7_undo_54 ?_
      refine z_iadd dX7_undo_55 ?_
      refine q_iload_n dX7_undo_56 rfl rfl ?_
      refine z_iadd dX7_undo_57 ?_
      refine s_iald (n := 1583) (x := (mCp B 5 (x + 1) k) ((((x : Int) + 1) + (k : Int)).toNat)) dX7_undo_58 (show kd 385 = 100 + 1583 from rfl) (by omega) (by omega) (by decide) rfl ?_
      refine ma_st dX7_undo_59 (by omega) (by omega) ?_
      refine z_iinc dX7_undo_60 rfl (by decide) ?_
      show sE g_tt _ _ _ 63 [some (.ref 384), some (.int (iZ (x : Int))), some (.int (iZ ((k : Int) + 1)))] [] (ms σ (va_up (mCp B 5 (x + 1) k) (5 + k) ((mCp B 5 (x + 1) k) ((((x : Int) + 1) + (k : Int)).toNat))) F)
      refine q_goto (tgt := 36) dX7_undo_63 (by decide) ?_
      have k9 := ih (k + 1) (by omega) (by omega)
      rw [mCp_step B 5 (x + 1) k (Or.inr (by omega))] at k9
      rw [show ((x : Int) + 1 + (k : Int)).toNat = x + 1 + k by omega]
      exact k9
set_option maxHeartbeats 4000000 in
set_option maxRecDepth 100000 in
theorem m_undo {d q p0 : Nat} (σ : gS) (A F : Nat → Int) (hq : A 3 = (q : Int) + 1) (hq9 : q < 30) (h0 : 0 ≤ A 0) (h5 : A 0 ≤ 5) (hp0 : A (53 + 50 * q) = (p0 : Int)) (hpp : (p0 : Int) ≤ A 0) : sC mX7_undo d [.ref 384] (ms σ A F) (fun r σ' => r = some (.int (iZ ((q : Int)))) ∧ σ' = ms σ (mUndo A q p0) F) := by
  refine sC_of rfl (Nat.le_of_ble_eq_true rfl) ?_
  show sE g_tt _ _ _ 0 [some (.ref 384), none, none] [] (ms σ A F)
  refine q_aload_n dX7_undo_0 rfl rfl ?_
  refine sg7 (kf := 0) (v := .ref 385) dX7_undo_1 flX7_7 (show kd 384 = 7 from rfl) (by decide) rfl ?_
  refine z_iconst dX7_undo_4 ?_
  refine s_iald (n := 1583) (x := ((q : Int) + 1)) dX7_undo_5 (show kd 385 = 100 + 1583 from rfl) (by omega) (by omega) (by decide) (by show A 3 = _; exact hq) ?_
  refine z_if_ne (tgt := 11) dX7_undo_6 (by decide) (by unfold inR at *; omega) (fun c_1 => ?_) (fun c_1 => ?_)
  · refine q_aload_n dX7_undo_11 rfl rfl ?_
    refine sg7 (kf := 0) (v := .ref 385) dX7_undo_12 flX7_7 (show kd 384 = 7 from rfl) (by decide) rfl ?_
    refine z_iconst dX7_undo_15 ?_
    refine q_dup2 dX7_undo_16 rfl rfl ?_
    refine s_iald (n := 1583) (x := ((q : Int) + 1)) dX7_undo_17 (show kd 385 = 100 + 1583 from rfl) (by omega) (by omega) (by decide) (by show A 3 = _; exact hq) ?_
    refine z_iconst dX7_undo_18 ?_
    refine z_isub dX7_undo_19 ?_
    refine ma_st dX7_undo_20 (by omega) (by omega) ?_
    refine z_bipush dX7_undo_21 (by decide +kernel) ?_
    refine z_bipush dX7_undo_23 (by decide +kernel) ?_
    refine q_aload_n dX7_undo_25 rfl rfl ?_
    refine sg7 (kf := 0) (v := .ref 385) dX7_undo_26 flX7_7 (show kd 384 = 7 from rfl) (by decide) rfl ?_
    refine z_iconst dX7_undo_29 ?_
    refine s_iald (n := 1583) (x := (q : Int)) dX7_undo_30 (show kd 385 = 100 + 1583 from rfl) (by omega) (by omega) (by decide) (by show (q : Int) + 1 - 1 = _; omega) ?_
    refine z_imul dX7_undo_31 ?_
    refine z_iadd dX7_undo_32 ?_
    refine q_istore_n dX7_undo_33 rfl (by decide) ?_
    show sE g_tt _ _ _ 34 [some (.ref 384), some (.int (iZ (53 + (50 * (q : Int))))), none] [] (ms σ (va_up A 3 (((q : Int) + 1) - 1)) F)
    refine z_iconst dX7_undo_34 ?_
    refine q_istore_n dX7_undo_35 rfl (by decide) ?_
    show sE g_tt _ _ _ 36 [some (.ref 384), some (.int (iZ (53 + (50 * (q : Int))))), some (.int (iZ 0))] [] (ms σ (va_up A 3 (((q : Int) + 1) - 1)) F)
    have k9 := lp_undo1 (d := d) (x := 53 + 50 * q) (p0 := p0) σ (va_up A 3 (q : Int)) F (by omega) (by omega) h0 h5 (by rw [va_up_ne _ _ (by omega)]; exact hp0) hpp 20 0 (by omega) (by omega)
    rw [mCp_0, show ((53 + 50 * q : Nat) : Int) = 53 + 50 * (q : Int) by omega] at k9
    rw [show (q : Int) + 1 - 1 = (q : Int) by omega]
    exact k9
  · refine z_iconst dX7_undo_9 ?_
    exact s_iretZ dX7_undo_10 rfl ⟨by exfalso; omega, by exfalso; omega⟩
set_option maxHeartbeats 4000000 in
set_option maxRecDepth 100000 in
theorem m_undo0 {d : Nat} (σ : gS) (A F : Nat → Int) (h3 : A 3 = 0) : sC mX7_undo d [.ref 384] (ms σ A F) (fun r σ' => r = some (.int (iZ (-1))) ∧ σ' = ms σ A F) := by
  refine sC_of rfl (Nat.le_of_ble_eq_true rfl) ?_
  show sE g_tt _ _ _ 0 [some (.ref 384), none, none] [] (ms σ A F)
  refine q_aload_n dX7_undo_0 rfl rfl ?_
  refine sg7 (kf := 0) (v := .ref 385) dX7_undo_1 flX7_7 (show kd 384 = 7 from rfl) (by decide) rfl ?_
  refine z_iconst dX7_undo_4 ?_
  refine s_iald (n := 1583) (x := A 3) dX7_undo_5 (show kd 385 = 100 + 1583 from rfl) (by omega) (by omega) (by decide) rfl ?_
  refine z_if_ne (tgt := 11) dX7_undo_6 (by decide) (by rw [h3]; unfold inR; decide) (fun c_1 => ?_) (fun c_1 => ?_)
  · exact absurd h3 c_1
  · refine z_iconst dX7_undo_9 ?_
    exact s_iretZ dX7_undo_10 rfl ⟨rfl, rfl⟩
