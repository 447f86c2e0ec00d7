def mHand (A : Nat → Int) (h : Int) : Nat → Int := if 0 ≤ h ∧ h < 8 then va_up A (11 + h).toNat (A (11 + h).toNat + 1) else va_up A 8 (A 8 + 1)
theorem mHand_ne (A : Nat → Int) (h : Int) {i : Nat} (h8 : i ≠ 8) (hi : i < 11 ∨ 19 ≤ i) : mHand A h i = A i := by
  unfold mHand
  split
  · exact va_up_ne _ _ (by omega)
  · exact va_up_ne _ _ h8
theorem mWr_lo (B : Nat → Int) (p hs : Int) (h0 : 0 ≤ B 10) {i : Nat} (hi : i < 1553) (h10 : i ≠ 10) : mWr B p hs i = B i := by
  unfold mWr
  rw [va_up_ne _ _ h10, va_up_ne _ _ (by omega)]
theorem mWr_10 (B : Nat → Int) (p hs : Int) (h0 : 0 ≤ B 10) : mWr B p hs 10 = B 10 + 1 := by
  unfold mWr
  rw [va_up_self, va_up_ne _ _ (by omega)]
theorem mSh_lo (A : Nat → Int) (k : Nat) {i : Nat} (hi : i < 1553) : mSh A k i = A i := by
  unfold mSh
  rw [if_neg (by omega)]
theorem mWrite_lo (A : Nat → Int) (p hs : Int) (h0 : 0 ≤ A 10) {i : Nat} (hi : i < 1553) (h10 : i ≠ 10) : mWrite A p hs i = A i := by
  unfold mWrite
  split
  · rw [mWr_lo _ _ _ (by rw [va_up_self, mSh_lo _ _ (by decide)]; omega) hi h10, va_up_ne _ _ h10, mSh_lo _ _ hi]
  · exact mWr_lo _ _ _ h0 hi h10
theorem mWrite_10 (A : Nat → Int) (p hs : Int) (h0 : 0 ≤ A 10) (h30 : A 10 ≤ 30) : mWrite A p hs 10 = if A 10 = 30 then 30 else A 10 + 1 := by
  unfold mWrite
  split
  · rename_i h
    rw [mWr_10 _ _ _ (by rw [va_up_self, mSh_lo _ _ (by decide)]; omega), va_up_self, mSh_lo _ _ (by decide), h]
    decide
  · exact mWr_10 _ _ _ h0
/-- where one goes who is thanked in house h -/
def mMv (h : Nat) : Int := if (h : Int) + 1 < 8 then (h : Int) + 1 else -1
/-- person p moves -/
def mStep (h p : Nat) (X : (Nat → Int) × (Nat → Int)) : (Nat → Int) × (Nat → Int) :=
  (if X.2 23 = 0 then va_up X.1 (19 + p) (mMv h) else mWrite (va_up X.1 (19 + p) (mMv h)) p (mMv h),
   va_up (va_up X.2 25 (X.2 25 + 1)) 24 (X.2 24 + (if mMv h = -1 then 1 else 0)))
/-- the first n people: those of the set th move -/
def mTh (A F : Nat → Int) (h th : Nat) : Nat → (Nat → Int) × (Nat → Int)
  | 0 => (A, F)
  | p + 1 => if th.testBit p then mStep h p (mTh A F h th p) else mTh A F h th p
theorem mTh_10 (A F : Nat → Int) (h th : Nat) (h0 : 0 ≤ A 10) (h30 : A 10 ≤ 30) : ∀ n, 0 ≤ (mTh A F h th n).1 10 ∧ (mTh A F h th n).1 10 ≤ 30 := by
  intro n
  induction n with
  | zero => exact ⟨h0, h30⟩
  | succ n ih =>
    simp only [mTh]
    split
    · have e : va_up (mTh A F h th n).1 (19 + n) (mMv h) 10 = (mTh A F h th n).1 10 := va_up_ne _ _ (by omega)
      simp only [mStep]
      split
      · rw [e]; exact ih
      · rw [mWrite_10 _ _ _ (by rw [e]; exact ih.1) (by rw [e]; exact ih.2), e]
        split
        · exact ⟨by decide, by decide⟩
        · exact ⟨by omega, by omega⟩
    · exact ih
theorem mTh_lo (A F : Nat → Int) (h th : Nat) (h0 : 0 ≤ A 10) (h30 : A 10 ≤ 30) {i : Nat} (hi : i < 19) (h10 : i ≠ 10) : ∀ n, (mTh A F h th n).1 i = A i := by
  intro n
  induction n with
  | zero => rfl
  | succ n ih =>
    simp only [mTh]
    split
    · have e : ∀ j, j ≠ 19 + n → va_up (mTh A F h th n).1 (19 + n) (mMv h) j = (mTh A F h th n).1 j := fun j hj => va_up_ne _ _ hj
      simp only [mStep]
      split
      · rw [e i (by omega)]; exact ih
      · rw [mWrite_lo _ _ _ (by rw [e 10 (by omega)]; exact (mTh_10 A F h th h0 h30 n).1) (by omega) h10, e i (by omega)]; exact ih
    · exact ih
theorem mTh_F (A F : Nat → Int) (h th : Nat) {k : Nat} (h1 : k ≠ 24) (h2 : k ≠ 25) : ∀ n, (mTh A F h th n).2 k = F k := by
  intro n
  induction n with
  | zero => rfl
  | succ n ih =>
    simp only [mTh]
    split
    · simp only [mStep]
      rw [va_up_ne _ _ h1, va_up_ne _ _ h2]; exact ih
    · exact ih
/-- kindness handed on by house h -/
def mKd (A : Nat → Int) (h : Nat) : Nat → Int := mHand (mHand (va_up A (11 + h) (A (11 + h) - 2)) ((h : Int) - 1)) ((h : Int) + 1)
theorem mKd_ne (A : Nat → Int) {h : Nat} (hh : h < 8) {i : Nat} (h8 : i ≠ 8) (hi : i < 11 ∨ 19 ≤ i) : mKd A h i = A i := by
  unfold mKd
  rw [mHand_ne _ _ h8 hi, mHand_ne _ _ h8 hi, va_up_ne _ _ (by omega)]
/-- a house is thanked: the row and the fields behind it -/
def mThank (A F : Nat → Int) (h : Nat) : (Nat → Int) × (Nat → Int) :=
  mTh (mKd A h) (va_up F 26 (((F 26).toNat ||| 2 ^ h : Nat) : Int)) h (mPeo (mKd A h) h (A 0).toNat) (A 0).toNat
set_option maxHeartbeats 4000000 in
set_option maxRecDepth 100000 in
theorem lp_thankNow {d h th : Nat} (hd : 1 ≤ d) (σ : gS) (A F : Nat → Int) (hh : h < 8) (hth : inR ((th : Nat) : Int)) (h0 : 0 ≤ A 0) (h5 : A 0 ≤ 5) (h10 : 0 ≤ A 10) (h30 : A 10 ≤ 30) (h23 : inR (F 23)) : ∀ (n : Nat) (p : Nat), (p : Int) ≤ A 0 → A 0 - p < (n : Int) → sE g_tt mX7_thankNow d (fun r σ' => r = none ∧ σ' = ms σ (mTh A F h th (A 0).toNat).1 (mTh A F h th (A 0).toNat).2) 47 [some (.ref 384), some (.int (iZ (h : Int))), some (.int (iZ ((th : Nat) : Int))), some (.int (iZ (p : Int)))] [] (ms σ ((mTh A F h th p).1) ((mTh A F h th p).2)) := by
  intro n
  induction n with
  | zero =>
    intro p hp hn
    exact absurd hn (by omega)
  | succ n ih =>
    intro p hp hn
    have e0 : (mTh A F h th p).1 0 = A 0 := mTh_lo A F h th h10 h30 (by decide) (by decide) p
    refine q_iload_n dX7_thankNow_47 rfl rfl ?_
    refine q_aload_n dX7_thankNow_48 rfl rfl ?_
    refine sg7 (kf := 0) (v := .ref 385) dX7_thankNow_49 flX7_7 (show kd 384 = 7 from rfl) (by decide) rfl ?_
    refine z_iconst dX7_thankNow_52 ?_
    refine s_iald (n := 1583) (x := ((mTh A F h th p).1) 0) dX7_thankNow_53 (show kd 385 = 100 + 1583 from rfl) (by omega) (by omega) (by decide) rfl ?_
    refine z_icmp_ge (tgt := 149) dX7_thankNow_54 (by decide) (by unfold inR at *; omega) (by unfold inR at *; omega) (fun c_1 => ?_) (fun c_1 => ?_)
    · exact s_vret dX7_thankNow_149 rfl ⟨rfl, by rw [show p = (A 0).toNat by omega]⟩
    · refine q_iload_n dX7_thankNow_57 rfl rfl ?_
      refine q_iload_n dX7_thankNow_58 rfl rfl ?_
      refine s_callS (As := [.int (iZ ((th : Nat) : Int)), .int (iZ (p : Int))]) (S := []) dX7_thankNow_59 okX7_has mlX7_228 rfl (by omega) rfl (Nat.le_of_ble_eq_true rfl) (m_has (d := d - 1) (m := th) (k := p) hth (by omega) (ms σ ((mTh A F h th p).1) ((mTh A F h th p).2))) (fun v_ σ_ hq => ?_)
      obtain ⟨rfl, e9⟩ := hq
      have e9 := e9.symm
      subst e9
      show sE g_tt _ _ _ 62 [some (.ref 384), some (.int (iZ (h : Int))), some (.int (iZ ((th : Nat) : Int))), some (.int (iZ (p : Int)))] [.int (iZ (if th.testBit p then 1 else 0))] (ms σ ((mTh A F h th p).1) ((mTh A F h th p).2))
      refine z_if_ne (tgt := 68) dX7_thankNow_62 (by decide) inR_01 (fun c_2 => ?_) (fun c_2 => ?_)
      · refine q_aload_n dX7_thankNow_68 rfl rfl ?_
        refine sg7 (kf := 0) (v := .ref 385) dX7_thankNow_69 flX7_7 (show kd 384 = 7 from rfl) (by decide) rfl ?_
        refine z_bipush dX7_thankNow_72 (by decide +kernel) ?_
        refine q_iload_n dX7_thankNow_74 rfl rfl ?_
        refine z_iadd dX7_thankNow_75 ?_
        refine q_iload_n dX7_thankNow_76 rfl rfl ?_
        refine z_iconst dX7_thankNow_77 ?_
        refine z_iadd dX7_thankNow_78 ?_
        refine z_bipush dX7_thankNow_79 (by decide +kernel) ?_
        refine z_icmp_ge (tgt := 90) dX7_thankNow_81 (by decide) (by unfold inR at *; omega) (by unfold inR at *; omega) (fun c_3 => ?_) (fun c_3 => ?_)
        · refine z_iconst dX7_thankNow_90 ?_
          refine ma_st dX7_thankNow_91 (by omega) (by omega) ?_
          refine q_aload_n dX7_thankNow_92 rfl rfl ?_
          refine q_dup dX7_thankNow_93 rfl ?_
          refine sg7 (kf := 25) (v := .int (iZ (((mTh A F h th p).2) 25))) dX7_thankNow_94 flX7_307 (show kd 384 = 7 from rfl) (by decide) rfl ?_
          refine z_iconst dX7_thankNow_97 ?_
          refine z_iadd dX7_thankNow_98 ?_
          refine mp (kf := 25) dX7_thankNow_99 flX7_307 (by decide) ?_
          refine q_aload_n dX7_thankNow_102 rfl rfl ?_
          refine q_dup dX7_thankNow_103 rfl ?_
          refine sg7 (kf := 24) (v := .int (iZ (((mTh A F h th p).2) 24))) dX7_thankNow_104 flX7_310 (show kd 384 = 7 from rfl) (by decide) rfl ?_
          refine q_aload_n dX7_thankNow_107 rfl rfl ?_
          refine sg7 (kf := 0) (v := .ref 385) dX7_thankNow_108 flX7_7 (show kd 384 = 7 from rfl) (by decide) rfl ?_
          refine z_bipush dX7_thankNow_111 (by decide +kernel) ?_
          refine q_iload_n dX7_thankNow_113 rfl rfl ?_
          refine z_iadd dX7_thankNow_114 ?_
          refine s_iald (n := 1583) (x := (-1)) dX7_thankNow_115 (show kd 385 = 100 + 1583 from rfl) (by omega) (by omega) (by decide) (by show va_up ((mTh A F h th p).1) (19 + p) (-1) (19 + p) = _; exact va_up_self _ _ _) ?_
          refine z_iconst dX7_thankNow_116 ?_
          refine z_icmp_ne (tgt := 124) dX7_thankNow_117 (by decide) (by unfold inR at *; omega) (by unfold inR at *; omega) (fun c_4 => ?_) (fun c_4 => ?_)
          · refine z_iconst dX7_thankNow_124 ?_
            refine z_iadd dX7_thankNow_125 ?_
            refine mp (kf := 24) dX7_thankNow_126 flX7_310 (by decide) ?_
            refine q_aload_n dX7_thankNow_129 rfl rfl ?_
            refine q_iload_n dX7_thankNow_130 rfl rfl ?_
            refine q_aload_n dX7_thankNow_131 rfl rfl ?_
            refine sg7 (kf := 0) (v := .ref 385) dX7_thankNow_132 flX7_7 (show kd 384 = 7 from rfl) (by decide) rfl ?_
            refine z_bipush dX7_thankNow_135 (by decide +kernel) ?_
            refine q_iload_n dX7_thankNow_137 rfl rfl ?_
            refine z_iadd dX7_thankNow_138 ?_
            refine s_iald (n := 1583) (x := (-1)) dX7_thankNow_139 (show kd 385 = 100 + 1583 from rfl) (by omega) (by omega) (by decide) (by show va_up ((mTh A F h th p).1) (19 + p) (-1) (19 + p) = _; exact va_up_self _ _ _) ?_
            refine s_callV (ci := 7) (a := 384) (As := [.int (iZ (p : Int)), .int (iZ (-1))]) (S := []) dX7_thankNow_140 okX7_write mlX7_313 rfl (by omega) rfl (Nat.le_of_ble_eq_true rfl) (show kd 384 = 7 from rfl) (by decide) rfl (m_write (d := d - 1) σ (va_up ((mTh A F h th p).1) (19 + p) (-1)) (va_up (va_up ((mTh A F h th p).2) 25 ((((mTh A F h th p).2) 25) + 1)) 24 ((((mTh A F h th p).2) 24) + 0)) (p : Int) (-1) (by show inR ((mTh A F h th p).2 23); rw [mTh_F A F h th (by decide) (by decide)]; exact h23) (by rw [show va_up (mTh A F h th p).1 (19 + p) (-1) 10 = (mTh A F h th p).1 10 from va_up_ne _ _ (by omega)]; exact (mTh_10 A F h th h10 h30 p).1) (by rw [show va_up (mTh A F h th p).1 (19 + p) (-1) 10 = (mTh A F h th p).1 10 from va_up_ne _ _ (by omega)]; exact (mTh_10 A F h th h10 h30 p).2)) (fun v_ σ_ hq => ?_)
            obtain ⟨rfl, e9⟩ := hq
            have e9 := e9.symm
            subst e9
            show sE g_tt _ _ _ 143 [some (.ref 384), some (.int (iZ (h : Int))), some (.int (iZ ((th : Nat) : Int))), some (.int (iZ (p : Int)))] [] (ms σ (if (mTh A F h th p).2 23 = 0 then va_up ((mTh A F h th p).1) (19 + p) (-1) else mWrite (va_up ((mTh A F h th p).1) (19 + p) (-1)) (p : Int) (-1)) (va_up (va_up ((mTh A F h th p).2) 25 ((((mTh A F h th p).2) 25) + 1)) 24 ((((mTh A F h th p).2) 24) + 0)))
            refine z_iinc dX7_thankNow_143 rfl (by decide) ?_
            show sE g_tt _ _ _ 146 [some (.ref 384), some (.int (iZ (h : Int))), some (.int (iZ ((th : Nat) : Int))), some (.int (iZ ((p : Int) + 1)))] [] (ms σ (if (mTh A F h th p).2 23 = 0 then va_up ((mTh A F h th p).1) (19 + p) (-1) else mWrite (va_up ((mTh A F h th p).1) (19 + p) (-1)) (p : Int) (-1)) (va_up (va_up ((mTh A F h th p).2) 25 ((((mTh A F h th p).2) 25) + 1)) 24 ((((mTh A F h th p).2) 24) + 0)))
            refine q_goto (tgt := 47) dX7_thankNow_146 (by decide) ?_
            have k9 := ih (p + 1) (by omega) (by omega)
            simp only [mTh, if_pos (show th.testBit p = true from if01_1 c_2), mStep, mMv] at k9
            first | (exfalso; omega) | (simp only [if_pos (show (h : Int) + 1 < 8 by omega), if_neg (show ¬ (h : Int) + 1 = -1 by omega)] at k9; exact k9) | (simp only [if_neg (show ¬ (h : Int) + 1 < 8 by omega), if_true] at k9; exact k9)
          · refine z_iconst dX7_thankNow_120 ?_
            refine q_goto (tgt := 125) dX7_thankNow_121 (by decide) ?_
            refine z_iadd dX7_thankNow_125 ?_
            refine mp (kf := 24) dX7_thankNow_126 flX7_310 (by decide) ?_
            refine q_aload_n dX7_thankNow_129 rfl rfl ?_
            refine q_iload_n dX7_thankNow_130 rfl rfl ?_
            refine q_aload_n dX7_thankNow_131 rfl rfl ?_
            refine sg7 (kf := 0) (v := .ref 385) dX7_thankNow_132 flX7_7 (show kd 384 = 7 from rfl) (by decide) rfl ?_
            refine z_bipush dX7_thankNow_135 (by decide +kernel) ?_
            refine q_iload_n dX7_thankNow_137 rfl rfl ?_
            refine z_iadd dX7_thankNow_138 ?_
            refine s_iald (n := 1583) (x := (-1)) dX7_thankNow_139 (show kd 385 = 100 + 1583 from rfl) (by omega) (by omega) (by decide) (by show va_up ((mTh A F h th p).1) (19 + p) (-1) (19 + p) = _; exact va_up_self _ _ _) ?_
            refine s_callV (ci := 7) (a := 384) (As := [.int (iZ (p : Int)), .int (iZ (-1))]) (S := []) dX7_thankNow_140 okX7_write mlX7_313 rfl (by omega) rfl (Nat.le_of_ble_eq_true rfl) (show kd 384 = 7 from rfl) (by decide) rfl (m_write (d := d - 1) σ (va_up ((mTh A F h th p).1) (19 + p) (-1)) (va_up (va_up ((mTh A F h th p).2) 25 ((((mTh A F h th p).2) 25) + 1)) 24 ((((mTh A F h th p).2) 24) + 1)) (p : Int) (-1) (by show inR ((mTh A F h th p).2 23); rw [mTh_F A F h th (by decide) (by decide)]; exact h23) (by rw [show va_up (mTh A F h th p).1 (19 + p) (-1) 10 = (mTh A F h th p).1 10 from va_up_ne _ _ (by omega)]; exact (mTh_10 A F h th h10 h30 p).1) (by rw [show va_up (mTh A F h th p).1 (19 + p) (-1) 10 = (mTh A F h th p).1 10 from va_up_ne _ _ (by omega)]; exact (mTh_10 A F h th h10 h30 p).2)) (fun v_ σ_ hq => ?_)
            obtain ⟨rfl, e9⟩ := hq
            have e9 := e9.symm
            subst e9
            show sE g_tt _ _ _ 143 [some (.ref 384), some (.int (iZ (h : Int))), some (.int (iZ ((th : Nat) : Int))), some (.int (iZ (p : Int)))] [] (ms σ (if (mTh A F h th p).2 23 = 0 then va_up ((mTh A F h th p).1) (19 + p) (-1) else mWrite (va_up ((mTh A F h th p).1) (19 + p) (-1)) (p : Int) (-1)) (va_up (va_up ((mTh A F h th p).2) 25 ((((mTh A F h th p).2) 25) + 1)) 24 ((((mTh A F h th p).2) 24) + 1)))
            refine z_iinc dX7_thankNow_143 rfl (by decide) ?_
            show sE g_tt _ _ _ 146 [some (.ref 384), some (.int (iZ (h : Int))), some (.int (iZ ((th : Nat) : Int))), some (.int (iZ ((p : Int) + 1)))] [] (ms σ (if (mTh A F h th p).2 23 = 0 then va_up ((mTh A F h th p).1) (19 + p) (-1) else mWrite (va_up ((mTh A F h th p).1) (19 + p) (-1)) (p : Int) (-1)) (va_up (va_up ((mTh A F h th p).2) 25 ((((mTh A F h th p).2) 25) + 1)) 24 ((((mTh A F h th p).2) 24) + 1)))
            refine q_goto (tgt := 47) dX7_thankNow_146 (by decide) ?_
            have k9 := ih (p + 1) (by omega) (by omega)
            simp only [mTh, if_pos (show th.testBit p = true from if01_1 c_2), mStep, mMv] at k9
            first | (exfalso; omega) | (simp only [if_pos (show (h : Int) + 1 < 8 by omega), if_neg (show ¬ (h : Int) + 1 = -1 by omega)] at k9; exact k9) | (simp only [if_neg (show ¬ (h : Int) + 1 < 8 by omega), if_true] at k9; exact k9)
        · refine q_iload_n dX7_thankNow_84 rfl rfl ?_
          refine z_iconst dX7_thankNow_85 ?_
          refine z_iadd dX7_thankNow_86 ?_
          refine q_goto (tgt := 91) dX7_thankNow_87 (by decide) ?_
          refine ma_st dX7_thankNow_91 (by omega) (by omega) ?_
          refine q_aload_n dX7_thankNow_92 rfl rfl ?_
          refine q_dup dX7_thankNow_93 rfl ?_
          refine sg7 (kf := 25) (v := .int (iZ (((mTh A F h th p).2) 25))) dX7_thankNow_94 flX7_307 (show kd 384 = 7 from rfl) (by decide) rfl ?_
          refine z_iconst dX7_thankNow_97 ?_
          refine z_iadd dX7_thankNow_98 ?_
          refine mp (kf := 25) dX7_thankNow_99 flX7_307 (by decide) ?_
          refine q_aload_n dX7_thankNow_102 rfl rfl ?_
          refine q_dup dX7_thankNow_103 rfl ?_
          refine sg7 (kf := 24) (v := .int (iZ (((mTh A F h th p).2) 24))) dX7_thankNow_104 flX7_310 (show kd 384 = 7 from rfl) (by decide) rfl ?_
          refine q_aload_n dX7_thankNow_107 rfl rfl ?_
          refine sg7 (kf := 0) (v := .ref 385) dX7_thankNow_108 flX7_7 (show kd 384 = 7 from rfl) (by decide) rfl ?_
          refine z_bipush dX7_thankNow_111 (by decide +kernel) ?_
          refine q_iload_n dX7_thankNow_113 rfl rfl ?_
          refine z_iadd dX7_thankNow_114 ?_
          refine s_iald (n := 1583) (x := (h : Int) + 1) dX7_thankNow_115 (show kd 385 = 100 + 1583 from rfl) (by omega) (by omega) (by decide) (by show va_up ((mTh A F h th p).1) (19 + p) ((h : Int) + 1) (19 + p) = _; exact va_up_self _ _ _) ?_
          refine z_iconst dX7_thankNow_116 ?_
          refine z_icmp_ne (tgt := 124) dX7_thankNow_117 (by decide) (by unfold inR at *; omega) (by unfold inR at *; omega) (fun c_5 => ?_) (fun c_5 => ?_)
          · refine z_iconst dX7_thankNow_124 ?_
            refine z_iadd dX7_thankNow_125 ?_
            refine mp (kf := 24) dX7_thankNow_126 flX7_310 (by decide) ?_
            refine q_aload_n dX7_thankNow_129 rfl rfl ?_
            refine q_iload_n dX7_thankNow_130 rfl rfl ?_
            refine q_aload_n dX7_thankNow_131 rfl rfl ?_
            refine sg7 (kf := 0) (v := .ref 385) dX7_thankNow_132 flX7_7 (show kd 384 = 7 from rfl) (by decide) rfl ?_
            refine z_bipush dX7_thankNow_135 (by decide +kernel) ?_
            refine q_iload_n dX7_thankNow_137 rfl rfl ?_
            refine z_iadd dX7_thankNow_138 ?_
            refine s_iald (n := 1583) (x := (h : Int) + 1) dX7_thankNow_139 (show kd 385 = 100 + 1583 from rfl) (by omega) (by omega) (by decide) (by show va_up ((mTh A F h th p).1) (19 + p) ((h : Int) + 1) (19 + p) = _; exact va_up_self _ _ _) ?_
            refine s_callV (ci := 7) (a := 384) (As := [.int (iZ (p : Int)), .int (iZ ((h : Int) + 1))]) (S := []) dX7_thankNow_140 okX7_write mlX7_313 rfl (by omega) rfl (Nat.le_of_ble_eq_true rfl) (show kd 384 = 7 from rfl) (by decide) rfl (m_write (d := d - 1) σ (va_up ((mTh A F h th p).1) (19 + p) ((h : Int) + 1)) (va_up (va_up ((mTh A F h th p).2) 25 ((((mTh A F h th p).2) 25) + 1)) 24 ((((mTh A F h th p).2) 24) + 0)) (p : Int) ((h : Int) + 1) (by show inR ((mTh A F h th p).2 23); rw [mTh_F A F h th (by decide) (by decide)]; exact h23) (by rw [show va_up (mTh A F h th p).1 (19 + p) ((h : Int) + 1) 10 = (mTh A F h th p).1 10 from va_up_ne _ _ (by omega)]; exact (mTh_10 A F h th h10 h30 p).1) (by rw [show va_up (mTh A F h th p).1 (19 + p) ((h : Int) + 1) 10 = (mTh A F h th p).1 10 from va_up_ne _ _ (by omega)]; exact (mTh_10 A F h th h10 h30 p).2)) (fun v_ σ_ hq => ?_)
            obtain ⟨rfl, e9⟩ := hq
            have e9 := e9.symm
            subst e9
            show sE g_tt _ _ _ 143 [some (.ref 384), some (.int (iZ (h : Int))), some (.int (iZ ((th : Nat) : Int))), some (.int (iZ (p : Int)))] [] (ms σ (if (mTh A F h th p).2 23 = 0 then va_up ((mTh A F h th p).1) (19 + p) ((h : Int) + 1) else mWrite (va_up ((mTh A F h th p).1) (19 + p) ((h : Int) + 1)) (p : Int) ((h : Int) + 1)) (va_up (va_up ((mTh A F h th p).2) 25 ((((mTh A F h th p).2) 25) + 1)) 24 ((((mTh A F h th p).2) 24) + 0)))
            refine z_iinc dX7_thankNow_143 rfl (by decide) ?_
            show sE g_tt _ _ _ 146 [some (.ref 384), some (.int (iZ (h : Int))), some (.int (iZ ((th : Nat) : Int))), some (.int (iZ ((p : Int) + 1)))] [] (ms σ (if (mTh A F h th p).2 23 = 0 then va_up ((mTh A F h th p).1) (19 + p) ((h : Int) + 1) else mWrite (va_up ((mTh A F h th p).1) (19 + p) ((h : Int) + 1)) (p : Int) ((h : Int) + 1)) (va_up (va_up ((mTh A F h th p).2) 25 ((((mTh A F h th p).2) 25) + 1)) 24 ((((mTh A F h th p).2) 24) + 0)))
            refine q_goto (tgt := 47) dX7_thankNow_146 (by decide) ?_
            have k9 := ih (p + 1) (by omega) (by omega)
            simp only [mTh, if_pos (show th.testBit p = true from if01_1 c_2), mStep, mMv] at k9
            first | (exfalso; omega) | (simp only [if_pos (show (h : Int) + 1 < 8 by omega), if_neg (show ¬ (h : Int) + 1 = -1 by omega)] at k9; exact k9) | (simp only [if_neg (show ¬ (h : Int) + 1 < 8 by omega), if_true] at k9; exact k9)
          · refine z_iconst dX7_thankNow_120 ?_
            refine q_goto (tgt := 125) dX7_thankNow_121 (by decide) ?_
            refine z_iadd dX7_thankNow_125 ?_
            refine mp (kf := 24) dX7_thankNow_126 flX7_310 (by decide) ?_
            refine q_aload_n dX7_thankNow_129 rfl rfl ?_
            refine q_iload_n dX7_thankNow_130 rfl rfl ?_
            refine q_aload_n dX7_thankNow_131 rfl rfl ?_
            refine sg7 (kf := 0) (v := .ref 385) dX7_thankNow_132 flX7_7 (show kd 384 = 7 from rfl) (by decide) rfl ?_
            refine z_bipush dX7_thankNow_135 (by decide +kernel) ?_
            refine q_iload_n dX7_thankNow_137 rfl rfl ?_
            refine z_iadd dX7_thankNow_138 ?_
            refine s_iald (n := 1583) (x := (h : Int) + 1) dX7_thankNow_139 (show kd 385 = 100 + 1583 from rfl) (by omega) (by omega) (by decide) (by show va_up ((mTh A F h th p).1) (19 + p) ((h : Int) + 1) (19 + p) = _; exact va_up_self _ _ _) ?_
            refine s_callV (ci := 7) (a := 384) (As := [.int (iZ (p : Int)), .int (iZ ((h : Int) + 1))]) (S := []) dX7_thankNow_140 okX7_write mlX7_313 rfl (by omega) rfl (Nat.le_of_ble_eq_true rfl) (show kd 384 = 7 from rfl) (by decide) rfl (m_write (d := d - 1) σ (va_up ((mTh A F h th p).1) (19 + p) ((h : Int) + 1)) (va_up (va_up ((mTh A F h th p).2) 25 ((((mTh A F h th p).2) 25) + 1)) 24 ((((mTh A F h th p).2) 24) + 1)) (p : Int) ((h : Int) + 1) (by show inR ((mTh A F h th p).2 23); rw [mTh_F A F h th (by decide) (by decide)]; exact h23) (by rw [show va_up (mTh A F h th p).1 (19 + p) ((h : Int) + 1) 10 = (mTh A F h th p).1 10 from va_up_ne _ _ (by omega)]; exact (mTh_10 A F h th h10 h30 p).1) (by rw [show va_up (mTh A F h th p).1 (19 + p) ((h : Int) + 1) 10 = (mTh A F h th p).1 10 from va_up_ne _ _ (by omega)]; exact (mTh_10 A F h th h10 h30 p).2)) (fun v_ σ_ hq => ?_)
            obtain ⟨rfl, e9⟩ := hq
            have e9 := e9.symm
            subst e9
            show sE g_tt _ _ _ 143 [some (.ref 384), some (.int (iZ (h : Int))), some (.int (iZ ((th : Nat) : Int))), some (.int (iZ (p : Int)))] [] (ms σ (if (mTh A F h th p).2 23 = 0 then va_up ((mTh A F h th p).1) (19 + p) ((h : Int) + 1) else mWrite (va_up ((mTh A F h th p).1) (19 + p) ((h : Int) + 1)) (p : Int) ((h : Int) + 1)) (va_up (va_up ((mTh A F h th p).2) 25 ((((mTh A F h th p).2) 25) + 1)) 24 ((((mTh A F h th p).2) 24) + 1)))
            refine z_iinc dX7_thankNow_143 rfl (by decide) ?_
            show sE g_tt _ _ _ 146 [some (.ref 384), some (.int (iZ (h : Int))), some (.int (iZ ((th : Nat) : Int))), some (.int (iZ ((p : Int) + 1)))] [] (ms σ (if (mTh A F h th p).2 23 = 0 then va_up ((mTh A F h th p).1) (19 + p) ((h : Int) + 1) else mWrite (va_up ((mTh A F h th p).1) (19 + p) ((h : Int) + 1)) (p : Int) ((h : Int) + 1)) (va_up (va_up ((mTh A F h th p).2) 25 ((((mTh A F h th p).2) 25) + 1)) 24 ((((mTh A F h th p).2) 24) + 1)))
            refine q_goto (tgt := 47) dX7_thankNow_146 (by decide) ?_
            have k9 := ih (p + 1) (by omega) (by omega)
            simp only [mTh, if_pos (show th.testBit p = true from if01_1 c_2), mStep, mMv] at k9
            first | (exfalso; omega) | (simp only [if_pos (show (h : Int) + 1 < 8 by omega), if_neg (show ¬ (h : Int) + 1 = -1 by omega)] at k9; exact k9) | (simp only [if_neg (show ¬ (h : Int) + 1 < 8 by omega), if_true] at k9; exact k9)
      · refine q_goto (tgt := 143) dX7_thankNow_65 (by decide) ?_
        refine z_iinc dX7_thankNow_143 rfl (by decide) ?_
        show sE g_tt _ _ _ 146 [some (.ref 384), some (.int (iZ (h : Int))), some (.int (iZ ((th : Nat) : Int))), some (.int (iZ ((p : Int) + 1)))] [] (ms σ ((mTh A F h th p).1) ((mTh A F h th p).2))
        refine q_goto (tgt := 47) dX7_thankNow_146 (by decide) ?_
        have e : mTh A F h th (p + 1) = mTh A F h th p := by simp only [mTh, if_neg (show ¬ th.testBit p = true from if01_0 c_2)]
        have k9 := ih (p + 1) (by omega) (by omega)
        rw [e] at k9
        exact k9
