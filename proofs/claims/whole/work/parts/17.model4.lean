set_option maxHeartbeats 4000000 in
set_option maxRecDepth 100000 in
theorem m_thankNow {d h : Nat} (hd : 3 ≤ d) (hh : h < 8) (σ : gS) (A F : Nat → Int) (h0 : 0 ≤ A 0) (h5 : A 0 ≤ 5) (hhm : ∀ p, p < 5 → inR (A (19 + p))) (h10 : 0 ≤ A 10) (h30 : A 10 ≤ 30) (h23 : inR (F 23)) (h26 : 0 ≤ F 26) : sC mX7_thankNow d [.ref 384, .int (iZ (h : Int))] (ms σ A F) (fun r σ' => r = none ∧ σ' = ms σ (mThank A F h).1 (mThank A F h).2) := by
  have e0 : mKd A h 0 = A 0 := mKd_ne A hh (by decide) (by decide)
  have e10 : mKd A h 10 = A 10 := mKd_ne A hh (by decide) (by decide)
  have hth : inR ((mPeo (mKd A h) h (A 0).toNat : Nat) : Int) := by
    have q := mPeo_lt (mKd A h) h (A 0).toNat
    have q2 : 2 ^ (A 0).toNat ≤ 2 ^ 5 := Nat.pow_le_pow_right (by decide) (by omega)
    exact ⟨by omega, by omega⟩
  refine sC_of rfl (Nat.le_of_ble_eq_true rfl) ?_
  show sE g_tt _ _ _ 0 [some (.ref 384), some (.int (iZ (h : Int))), none, none] [] (ms σ A F)
  refine q_aload_n dX7_thankNow_0 rfl rfl ?_
  refine sg7 (kf := 0) (v := .ref 385) dX7_thankNow_1 flX7_7 (show kd 384 = 7 from rfl) (by decide) rfl ?_
  refine z_bipush dX7_thankNow_4 (by decide +kernel) ?_
  refine q_iload_n dX7_thankNow_6 rfl rfl ?_
  refine z_iadd dX7_thankNow_7 ?_
  refine q_dup2 dX7_thankNow_8 rfl rfl ?_
  refine s_iald (n := 1583) (x := A (11 + h)) dX7_thankNow_9 (show kd 385 = 100 + 1583 from rfl) (by omega) (by omega) (by decide) rfl ?_
  refine z_iconst dX7_thankNow_10 ?_
  refine z_isub dX7_thankNow_11 ?_
  refine ma_st dX7_thankNow_12 (by omega) (by omega) ?_
  refine q_aload_n dX7_thankNow_13 rfl rfl ?_
  refine q_iload_n dX7_thankNow_14 rfl rfl ?_
  refine z_iconst dX7_thankNow_15 ?_
  refine z_isub dX7_thankNow_16 ?_
  refine s_callV (ci := 7) (a := 384) (As := [.int (iZ ((h : Int) - 1))]) (S := []) dX7_thankNow_17 okX7_hand mlX7_301 rfl (by omega) rfl (Nat.le_of_ble_eq_true rfl) (show kd 384 = 7 from rfl) (by decide) rfl (m_hand (d := d - 1) (by omega) (h := (h : Int) - 1) (by unfold inR at *; omega) σ (va_up A (11 + h) ((A (11 + h)) - 2)) F) (fun v_ σ_ hq => ?_)
  obtain ⟨rfl, e9⟩ := hq
  have e9 := e9.symm
  subst e9
  show sE g_tt _ _ _ 20 [some (.ref 384), some (.int (iZ (h : Int))), none, none] [] (ms σ (mHand (va_up A (11 + h) ((A (11 + h)) - 2)) ((h : Int) - 1)) F)
  refine q_aload_n dX7_thankNow_20 rfl rfl ?_
  refine q_iload_n dX7_thankNow_21 rfl rfl ?_
  refine z_iconst dX7_thankNow_22 ?_
  refine z_iadd dX7_thankNow_23 ?_
  refine s_callV (ci := 7) (a := 384) (As := [.int (iZ ((h : Int) + 1))]) (S := []) dX7_thankNow_24 okX7_hand mlX7_301 rfl (by omega) rfl (Nat.le_of_ble_eq_true rfl) (show kd 384 = 7 from rfl) (by decide) rfl (m_hand (d := d - 1) (by omega) (h := (h : Int) + 1) (by unfold inR at *; omega) σ (mHand (va_up A (11 + h) ((A (11 + h)) - 2)) ((h : Int) - 1)) F) (fun v_ σ_ hq => ?_)
  obtain ⟨rfl, e9⟩ := hq
  have e9 := e9.symm
  subst e9
  show sE g_tt _ _ _ 27 [some (.ref 384), some (.int (iZ (h : Int))), none, none] [] (ms σ (mHand (mHand (va_up A (11 + h) ((A (11 + h)) - 2)) ((h : Int) - 1)) ((h : Int) + 1)) F)
  refine q_aload_n dX7_thankNow_27 rfl rfl ?_
  refine q_dup dX7_thankNow_28 rfl ?_
  refine sg7 (kf := 26) (v := .int (iZ (F 26))) dX7_thankNow_29 flX7_304 (show kd 384 = 7 from rfl) (by decide) rfl ?_
  refine z_iconst dX7_thankNow_32 ?_
  refine q_iload_n dX7_thankNow_33 rfl rfl ?_
  refine z_ishl (x := 1) (k := h) dX7_thankNow_34 (by omega) ?_
  refine z_top (y := ((2 ^ h : Nat) : Int)) (by simp) ?_
  refine z_top2 (y := (((F 26).toNat : Nat) : Int)) (by omega) ?_
  refine z_ior (m := (F 26).toNat) (k := 2 ^ h) dX7_thankNow_35 ?_
  refine mp (kf := 26) dX7_thankNow_36 flX7_304 (by decide) ?_
  refine q_aload_n dX7_thankNow_39 rfl rfl ?_
  refine q_iload_n dX7_thankNow_40 rfl rfl ?_
  refine s_callV (ci := 7) (a := 384) (As := [.int (iZ (h : Int))]) (S := []) dX7_thankNow_41 okX7_peopleIn mlX7_274 rfl (by omega) rfl (Nat.le_of_ble_eq_true rfl) (show kd 384 = 7 from rfl) (by decide) rfl (m_peopleIn (d := d - 1) (h := (h : Int)) (by unfold inR at *; omega) σ (mKd A h) (va_up F 26 ((((F 26).toNat) ||| (2 ^ h) : Nat) : Int)) (by rw [e0]; exact h0) (by rw [e0]; exact h5) (fun p hp => by rw [mKd_ne A hh (by omega) (by omega)]; exact hhm p hp)) (fun v_ σ_ hq => ?_)
  obtain ⟨rfl, e9⟩ := hq
  have e9 := e9.symm
  subst e9
  rw [e0]
  show sE g_tt _ _ _ 44 [some (.ref 384), some (.int (iZ (h : Int))), none, none] [.int (iZ ((mPeo (mKd A h) (h : Int) (A 0).toNat : Nat) : Int))] (ms σ (mKd A h) (va_up F 26 ((((F 26).toNat) ||| (2 ^ h) : Nat) : Int)))
  refine q_istore_n dX7_thankNow_44 rfl (by decide) ?_
  show sE g_tt _ _ _ 45 [some (.ref 384), some (.int (iZ (h : Int))), some (.int (iZ ((mPeo (mKd A h) (h : Int) (A 0).toNat : Nat) : Int))), none] [] (ms σ (mKd A h) (va_up F 26 ((((F 26).toNat) ||| (2 ^ h) : Nat) : Int)))
  refine z_iconst dX7_thankNow_45 ?_
  refine q_istore_n dX7_thankNow_46 rfl (by decide) ?_
  show sE g_tt _ _ _ 47 [some (.ref 384), some (.int (iZ (h : Int))), some (.int (iZ ((mPeo (mKd A h) (h : Int) (A 0).toNat : Nat) : Int))), some (.int (iZ 0))] [] (ms σ (mKd A h) (va_up F 26 ((((F 26).toNat) ||| (2 ^ h) : Nat) : Int)))
  have k9 := lp_thankNow (d := d) (h := h) (th := mPeo (mKd A h) h (A 0).toNat) (by omega) σ (mKd A h) (va_up F 26 (((F 26).toNat ||| 2 ^ h : Nat) : Int)) hh hth (by rw [e0]; exact h0) (by rw [e0]; exact h5) (by rw [e10]; exact h10) (by rw [e10]; exact h30) h23 6 0 (by rw [e0]; omega) (by rw [e0]; omega)
  rw [e0] at k9
  exact k9
/-- how many bits a set has, one taken away after the other -/
def mBits : Nat → Nat → Nat
  | 0, _ => 0
  | f + 1, m => if m = 0 then 0 else mBits f (m &&& (m - 1)) + 1
set_option maxHeartbeats 4000000 in
set_option maxRecDepth 100000 in
theorem lp_bits {d s0 : Nat} (σ : gS) : ∀ (n : Nat) (m : Nat) (acc : Int), m < 2147483648 → (m : Int) < (n : Int) → sE g_tt mX7_bits d (fun r σ' => r = some (.int (iZ (acc + ((mBits n m : Nat) : Int)))) ∧ σ' = σ) 4 [some (.int (iZ ((s0 : Nat) : Int))), some (.int (iZ acc)), some (.int (iZ ((m : Nat) : Int)))] [] σ := by
  intro n
  induction n with
  | zero =>
    intro m acc hm hn
    exact absurd hn (by omega)
  | succ n ih =>
    intro m acc hm hn
    refine q_iload_n dX7_bits_4 rfl rfl ?_
    refine z_if_eq (tgt := 20) dX7_bits_5 (by decide) ⟨by omega, by omega⟩ (fun c_1 => ?_) (fun c_1 => ?_)
    · refine q_iload_n dX7_bits_20 rfl rfl ?_
      exact s_iretZ dX7_bits_21 rfl ⟨by simp only [mBits, if_pos (show m = 0 by omega)]; simp, rfl⟩
    · refine z_iinc dX7_bits_8 rfl (by decide) ?_
      show sE g_tt _ _ _ 11 [some (.int (iZ ((s0 : Nat) : Int))), some (.int (iZ (acc + 1))), some (.int (iZ ((m : Nat) : Int)))] [] σ
      refine q_iload_n dX7_bits_11 rfl rfl ?_
      refine q_iload_n dX7_bits_12 rfl rfl ?_
      refine z_iconst dX7_bits_13 ?_
      refine z_isub dX7_bits_14 ?_
      refine z_top (y := ((m - 1 : Nat) : Int)) (by omega) ?_
      refine z_iand (m := m) (k := m - 1) dX7_bits_15 ?_
      refine q_istore_n dX7_bits_16 rfl (by decide) ?_
      show sE g_tt _ _ _ 17 [some (.int (iZ ((s0 : Nat) : Int))), some (.int (iZ (acc + 1))), some (.int (iZ ((m &&& (m - 1) : Nat) : Int)))] [] σ
      refine q_goto (tgt := 4) dX7_bits_17 (by decide) ?_
      have q1 := Nat.and_le_right (n := m) (m := m - 1)
      have e : acc + ((mBits (n + 1) m : Nat) : Int) = acc + 1 + ((mBits n (m &&& (m - 1)) : Nat) : Int) := by
        simp only [mBits, if_neg (show ¬ m = 0 by omega)]
        omega
      rw [e]
      exact ih _ _ (by omega) (by omega)
set_option maxHeartbeats 4000000 in
set_option maxRecDepth 100000 in
theorem m_bits {d m : Nat} (hm : m < 2147483648) (σ : gS) : sC mX7_bits d [.int (iZ ((m : Nat) : Int))] σ (fun r σ' => r = some (.int (iZ (((mBits (m + 1) m : Nat) : Int)))) ∧ σ' = σ) := by
  refine sC_of rfl (Nat.le_of_ble_eq_true rfl) ?_
  show sE g_tt _ _ _ 0 [some (.int (iZ ((m : Nat) : Int))), none, none] [] σ
  refine z_iconst dX7_bits_0 ?_
  refine q_istore_n dX7_bits_1 rfl (by decide) ?_
  show sE g_tt _ _ _ 2 [some (.int (iZ ((m : Nat) : Int))), some (.int (iZ 0)), none] [] σ
  refine q_iload_n dX7_bits_2 rfl rfl ?_
  refine q_istore_n dX7_bits_3 rfl (by decide) ?_
  show sE g_tt _ _ _ 4 [some (.int (iZ ((m : Nat) : Int))), some (.int (iZ 0)), some (.int (iZ ((m : Nat) : Int)))] [] σ
  have k9 := lp_bits (d := d) (s0 := m) σ (m + 1) m 0 hm (by omega)
  rw [Int.zero_add] at k9
  exact k9
def mClip (v : Int) : Int := if 1000000 < v then 1000000 else if v < -1000000 then -1000000 else v
theorem mClip_ran (v : Int) : -1000000 ≤ mClip v ∧ mClip v ≤ 1000000 := by
  unfold mClip
  split
  · exact ⟨by decide, by decide⟩
  · split
    · exact ⟨by decide, by decide⟩
    · exact ⟨by omega, by omega⟩
def mTwo (o x y : Int) : Int := if o = 6 then mClip (x + y) else if o = 7 then mClip (x - y) else if o = 8 then mClip (x * y) else if y = 0 then 0 else mClip (x.tdiv y)
def mAsk (o x y : Int) : Prop := if o = 10 then x < y else if o = 11 then x ≤ y else if o = 12 then y < x else if o = 13 then y ≤ x else if o = 14 then x = y else x ≠ y
def mAskB (o x y : Int) : Int := if o = 10 then (if x < y then 1 else 0) else if o = 11 then (if x ≤ y then 1 else 0) else if o = 12 then (if y < x then 1 else 0) else if o = 13 then (if y ≤ x then 1 else 0) else if o = 14 then (if x = y then 1 else 0) else (if x = y then 0 else 1)
def mJoin (o x y : Int) : Int := if o = 21 then (if x = 0 then 0 else if y = 0 then 0 else 1) else (if x = 0 then (if y = 0 then 0 else 1) else 1)
theorem lZ_div2 {x y : Int} (hx : inL x) (hy : inL y) (h9 : inL (x.tdiv y)) : lZ x / lZ y = lZ (x.tdiv y) := by
  apply Int64.toInt_inj.mp
  rw [Int64.toInt_div, lZ_toInt hx, lZ_toInt hy, lZ_toInt h9]
  obtain ⟨h1, h2⟩ := h9
  exact Int.bmod_eq_of_le (m := 18446744073709551616) (by omega) (by omega)
theorem z_ldiv2 {Y : gY} {M : gM} {d : Nat} {b : gB} {Q : Option Value → gH → Prop} {pc : Nat} {L : List (Option Value)} {S : List Value} {h : gH} {x y : Int} (hd : decode M.2.1 pc = .ok (.ldiv, 1)) (hx : inL x) (hy : inL y) (h0 : y ≠ 0) (h9 : inL (x.tdiv y)) (k : gE Y M d b Q (pc + 1) L (.long (lZ (x.tdiv y)) :: S) h) : gE Y M d b Q pc L (.long (lZ y) :: .long (lZ x) :: S) h := q_ldiv hd (lZ_ne0 hy h0) (by rw [lZ_div2 hx hy h9]; exact k)
theorem tdiv_ran {x y B : Int} (h1 : -B ≤ x) (h2 : x ≤ B) : -B ≤ x.tdiv y ∧ x.tdiv y ≤ B := by
  have e := Int.natAbs_tdiv_le_natAbs x y
  omega
set_option maxHeartbeats 4000000 in
set_option maxRecDepth 100000 in
theorem m_clip {d : Nat} {v : Int} (hv : inL v) (σ : gS) : sC mX7_clip d [.long (lZ v)] σ (fun r σ' => r = some (.long (lZ (mClip v))) ∧ σ' = σ) := by
  refine sC_of rfl (Nat.le_of_ble_eq_true rfl) ?_
  show sE g_tt _ _ _ 0 [some (.long (lZ v)), none] [] σ
  refine q_lload_n dX7_clip_0 rfl rfl ?_
  refine z_ldc2 (z := 1000000) dX7_clip_1 klX7_242 ?_
  refine z_lif_le (tgt := 14) dX7_clip_4 dX7_clip_5 (by decide) (by unfold inL at *; omega) (by unfold inL at *; omega) (fun c_1 => ?_) (fun c_1 => ?_)
  · refine q_lload_n dX7_clip_14 rfl rfl ?_
    refine z_ldc2 (z := -1000000) dX7_clip_15 (by rw [show lZ (-1000000) = (-1000000 : Int64) by decide +kernel]; exact klX7_244) ?_
    refine z_lif_ge (tgt := 28) dX7_clip_18 dX7_clip_19 (by decide) (by unfold inL at *; omega) (by unfold inL at *; omega) (fun c_2 => ?_) (fun c_2 => ?_)
    · refine q_lload_n dX7_clip_28 rfl rfl ?_
      exact s_lret dX7_clip_29 rfl ⟨by congr 3; unfold mClip; (first | rw [if_pos (by omega)] | rw [if_neg (by omega), if_pos (by omega)] | rw [if_neg (by omega), if_neg (by omega)]), rfl⟩
    · refine z_ldc2 (z := -1000000) dX7_clip_22 (by rw [show lZ (-1000000) = (-1000000 : Int64) by decide +kernel]; exact klX7_244) ?_
      refine q_goto (tgt := 29) dX7_clip_25 (by decide) ?_
      exact s_lret dX7_clip_29 rfl ⟨by congr 3; unfold mClip; (first | rw [if_pos (by omega)] | rw [if_neg (by omega), if_pos (by omega)] | rw [if_neg (by omega), if_neg (by omega)]), rfl⟩
  · refine z_ldc2 (z := 1000000) dX7_clip_8 klX7_242 ?_
    refine q_goto (tgt := 29) dX7_clip_11 (by decide) ?_
    exact s_lret dX7_clip_29 rfl ⟨by congr 3; unfold mClip; (first | rw [if_pos (by omega)] | rw [if_neg (by omega), if_pos (by omega)] | rw [if_neg (by omega), if_neg (by omega)]), rfl⟩
set_option maxHeartbeats 4000000 in
set_option maxRecDepth 100000 in
theorem m_two {d : Nat} (hd : 1 ≤ d) {o x y : Int} (ho : inR o) (hx : -1000000 ≤ x ∧ x ≤ 1000000) (hy : -1000000 ≤ y ∧ y ≤ 1000000) (σ : gS) : sC mX7_two d [.int (iZ o), .long (lZ x), .long (lZ y)] σ (fun r σ' => r = some (.long (lZ (mTwo o x y))) ∧ σ' = σ) := by
  have hmul : inL (x * y) := by
    have q : (x * y).natAbs ≤ 1000000 * 1000000 := by
      rw [Int.natAbs_mul]
      exact Nat.mul_le_mul (by omega) (by omega)
    unfold inL
    omega
  refine sC_of rfl (Nat.le_of_ble_eq_true rfl) ?_
  show sE g_tt _ _ _ 0 [some (.int (iZ o)), some (.long (lZ x)), none, some (.long (lZ y)), none] [] σ
  refine q_iload_n dX7_two_0 rfl rfl ?_
  by_cases s_1 : o = 6
  · refine z_top s_1 ?_
    refine q_tableIn (tgt := 28) (off := 27) dX7_two_1 (by decide +kernel) (by decide +kernel) (by decide +kernel) (by decide) ?_
    refine q_lload_n dX7_two_28 rfl rfl ?_
    refine q_lload_n dX7_two_29 rfl rfl ?_
    refine z_ladd dX7_two_30 ?_
    refine s_callS (As := [.long (lZ (x + y))]) (S := []) dX7_two_31 okX7_clip mlX7_246 rfl (by omega) rfl (Nat.le_of_ble_eq_true rfl) (m_clip (d := d - 1) (v := x + y) (by unfold inL; omega) σ) (fun v_ σ_ hq => ?_)
    obtain ⟨rfl, e9⟩ := hq
    have e9 := e9.symm
    subst e9
    show sE g_tt _ _ _ 34 [some (.int (iZ o)), some (.long (lZ x)), none, some (.long (lZ y)), none] [.long (lZ (mClip (x + y)))] σ
    exact s_lret dX7_two_34 rfl ⟨by congr 3; unfold mTwo; (first | rw [if_pos (by assumption)] | rw [if_neg (by assumption), if_pos (by assumption)] | rw [if_neg (by assumption), if_neg (by assumption), if_pos (by assumption)] | rw [if_neg (by assumption), if_neg (by assumption), if_neg (by assumption), if_pos (by omega)] | rw [if_neg (by assumption), if_neg (by assumption), if_neg (by assumption), if_neg (by omega)]), rfl⟩
  by_cases s_2 : o = 7
  · refine z_top s_2 ?_
    refine q_tableIn (tgt := 35) (off := 34) dX7_two_1 (by decide +kernel) (by decide +kernel) (by decide +kernel) (by decide) ?_
    refine q_lload_n dX7_two_35 rfl rfl ?_
    refine q_lload_n dX7_two_36 rfl rfl ?_
    refine z_lsub dX7_two_37 ?_
    refine s_callS (As := [.long (lZ (x - y))]) (S := []) dX7_two_38 okX7_clip mlX7_246 rfl (by omega) rfl (Nat.le_of_ble_eq_true rfl) (m_clip (d := d - 1) (v := x - y) (by unfold inL; omega) σ) (fun v_ σ_ hq => ?_)
    obtain ⟨rfl, e9⟩ := hq
    have e9 := e9.symm
    subst e9
    show sE g_tt _ _ _ 41 [some (.int (iZ o)), some (.long (lZ x)), none, some (.long (lZ y)), none] [.long (lZ (mClip (x - y)))] σ
    exact s_lret dX7_two_41 rfl ⟨by congr 3; unfold mTwo; (first | rw [if_pos (by assumption)] | rw [if_neg (by assumption), if_pos (by assumption)] | rw [if_neg (by assumption), if_neg (by assumption), if_pos (by assumption)] | rw [if_neg (by assumption), if_neg (by assumption), if_neg (by assumption), if_pos (by omega)] | rw [if_neg (by assumption), if_neg (by assumption), if_neg (by assumption), if_neg (by omega)]), rfl⟩
  by_cases s_3 : o = 8
  · refine z_top s_3 ?_
    refine q_tableIn (tgt := 42) (off := 41) dX7_two_1 (by decide +kernel) (by decide +kernel) (by decide +kernel) (by decide) ?_
    refine q_lload_n dX7_two_42 rfl rfl ?_
    refine q_lload_n dX7_two_43 rfl rfl ?_
    refine z_lmul dX7_two_44 ?_
    refine s_callS (As := [.long (lZ (x * y))]) (S := []) dX7_two_45 okX7_clip mlX7_246 rfl (by omega) rfl (Nat.le_of_ble_eq_true rfl) (m_clip (d := d - 1) (v := x * y) hmul σ) (fun v_ σ_ hq => ?_)
    obtain ⟨rfl, e9⟩ := hq
    have e9 := e9.symm
    subst e9
    show sE g_tt _ _ _ 48 [some (.int (iZ o)), some (.long (lZ x)), none, some (.long (lZ y)), none] [.long (lZ (mClip (x * y)))] σ
    exact s_lret dX7_two_48 rfl ⟨by congr 3; unfold mTwo; (first | rw [if_pos (by assumption)] | rw [if_neg (by assumption), if_pos (by assumption)] | rw [if_neg (by assumption), if_neg (by assumption), if_pos (by assumption)] | rw [if_neg (by assumption), if_neg (by assumption), if_neg (by assumption), if_pos (by omega)] | rw [if_neg (by assumption), if_neg (by assumption), if_neg (by assumption), if_neg (by omega)]), rfl⟩
  refine q_tableOut (tgt := 49) dX7_two_1 (by rw [iZ_toInt (by unfold inR at *; omega)]; omega) (by decide) ?_
  refine q_lload_n dX7_two_49 rfl rfl ?_
  refine z_lconst (z := 0) dX7_two_50 (by decide +kernel) ?_
  refine z_lif_ne (tgt := 59) dX7_two_51 dX7_two_52 (by decide) (by unfold inL; omega) (by unfold inL; omega) (fun c_4 => ?_) (fun c_4 => ?_)
  · refine q_lload_n dX7_two_59 rfl rfl ?_
    refine q_lload_n dX7_two_60 rfl rfl ?_
    refine z_ldiv2 dX7_two_61 (by unfold inL; omega) (by unfold inL; omega) (by omega) (by have := tdiv_ran (y := y) hx.1 hx.2; unfold inL; omega) ?_
    refine s_callS (As := [.long (lZ (x.tdiv y))]) (S := []) dX7_two_62 okX7_clip mlX7_246 rfl (by omega) rfl (Nat.le_of_ble_eq_true rfl) (m_clip (d := d - 1) (v := x.tdiv y) (by have := tdiv_ran (y := y) hx.1 hx.2; unfold inL; omega) σ) (fun v_ σ_ hq => ?_)
    obtain ⟨rfl, e9⟩ := hq
    have e9 := e9.symm
    subst e9
    show sE g_tt _ _ _ 65 [some (.int (iZ o)), some (.long (lZ x)), none, some (.long (lZ y)), none] [.long (lZ (mClip (x.tdiv y)))] σ
    exact s_lret dX7_two_65 rfl ⟨by congr 3; unfold mTwo; (first | rw [if_pos (by assumption)] | rw [if_neg (by assumption), if_pos (by assumption)] | rw [if_neg (by assumption), if_neg (by assumption), if_pos (by assumption)] | rw [if_neg (by assumption), if_neg (by assumption), if_neg (by assumption), if_pos (by omega)] | rw [if_neg (by assumption), if_neg (by assumption), if_neg (by assumption), if_neg (by omega)]), rfl⟩
  · refine z_lconst (z := 0) dX7_two_55 (by decide +kernel) ?_
    refine q_goto (tgt := 65) dX7_two_56 (by decide) ?_
    exact s_lret dX7_two_65 rfl ⟨by congr 3; unfold mTwo; (first | rw [if_pos (by assumption)] | rw [if_neg (by assumption), if_pos (by assumption)] | rw [if_neg (by assumption), if_neg (by assumption), if_pos (by assumption)] | rw [if_neg (by assumption), if_neg (by assumption), if_neg (by assumption), if_pos (by omega)] | rw [if_neg (by assumption), if_neg (by assumption), if_neg (by assumption), if_neg (by omega)]), rfl⟩
set_option maxHeartbeats 4000000 in
set_option maxRecDepth 100000 in
theorem m_isAsked {d : Nat} {o x y : Int} (ho : inR o) (hx : inL x) (hy : inL y) (σ : gS) : sC mX7_isAsked d [.int (iZ o), .long (lZ x), .long (lZ y)] σ (fun r σ' => r = some (.int (iZ (mAskB o x y))) ∧ σ' = σ) := by
  refine sC_of rfl (Nat.le_of_ble_eq_true rfl) ?_
  show sE g_tt _ _ _ 0 [some (.int (iZ o)), some (.long (lZ x)), none, some (.long (lZ y)), none] [] σ
  refine q_iload_n dX7_isAsked_0 rfl rfl ?_
  refine z_bipush dX7_isAsked_1 (by decide +kernel) ?_
  refine z_icmp_ne (tgt := 20) dX7_isAsked_3 (by decide) (by unfold inR at *; omega) (by unfold inR at *; omega) (fun c_1 => ?_) (fun c_1 => ?_)
  · refine q_iload_n dX7_isAsked_20 rfl rfl ?_
    refine z_bipush dX7_isAsked_21 (by decide +kernel) ?_
    refine z_icmp_ne (tgt := 40) dX7_isAsked_23 (by decide) (by unfold inR at *; omega) (by unfold inR at *; omega) (fun c_2 => ?_) (fun c_2 => ?_)
    · refine q_iload_n dX7_isAsked_40 rfl rfl ?_
      refine z_bipush dX7_isAsked_41 (by decide +kernel) ?_
      refine z_icmp_ne (tgt := 60) dX7_isAsked_43 (by decide) (by unfold inR at *; omega) (by unfold inR at *; omega) (fun c_3 => ?_) (fun c_3 => ?_)
      · refine q_iload_n dX7_isAsked_60 rfl rfl ?_
        refine z_bipush dX7_isAsked_61 (by decide +kernel) ?_
        refine z_icmp_ne (tgt := 80) dX7_isAsked_63 (by decide) (by unfold inR at *; omega) (by unfold inR at *; omega) (fun c_4 => ?_) (fun c_4 => ?_)
        · refine q_iload_n dX7_isAsked_80 rfl rfl ?_
          refine z_bipush dX7_isAsked_81 (by decide +kernel) ?_
          refine z_icmp_ne (tgt := 100) dX7_isAsked_83 (by decide) (by unfold inR at *; omega) (by unfold inR at *; omega) (fun c_5 => ?_) (fun c_5 => ?_)
          · refine q_lload_n dX7_isAsked_100 rfl rfl ?_
            refine q_lload_n dX7_isAsked_101 rfl rfl ?_
            refine z_lif_eq (tgt := 110) dX7_isAsked_102 dX7_isAsked_103 (by decide) (by assumption) (by assumption) (fun c_6 => ?_) (fun c_6 => ?_)
            · refine z_iconst dX7_isAsked_110 ?_
              exact s_zret dX7_isAsked_111 rfl (by omega) ⟨by congr 3; unfold mAskB; (repeat (first | rw [if_pos (by omega)] | rw [if_neg (by omega)])), rfl⟩
            · refine z_iconst dX7_isAsked_106 ?_
              refine q_goto (tgt := 111) dX7_isAsked_107 (by decide) ?_
              exact s_zret dX7_isAsked_111 rfl (by omega) ⟨by congr 3; unfold mAskB; (repeat (first | rw [if_pos (by omega)] | rw [if_neg (by omega)])), rfl⟩
          · refine q_lload_n dX7_isAsked_86 rfl rfl ?_
            refine q_lload_n dX7_isAsked_87 rfl rfl ?_
            refine z_lif_ne (tgt := 96) dX7_isAsked_88 dX7_isAsked_89 (by decide) (by assumption) (by assumption) (fun c_7 => ?_) (fun c_7 => ?_)
            · refine z_iconst dX7_isAsked_96 ?_
              refine q_goto (tgt := 111) dX7_isAsked_97 (by decide) ?_
              exact s_zret dX7_isAsked_111 rfl (by omega) ⟨by congr 3; unfold mAskB; (repeat (first | rw [if_pos (by omega)] | rw [if_neg (by omega)])), rfl⟩
            · refine z_iconst dX7_isAsked_92 ?_
              refine q_goto (tgt := 111) dX7_isAsked_93 (by decide) ?_
              exact s_zret dX7_isAsked_111 rfl (by omega) ⟨by congr 3; unfold mAskB; (repeat (first | rw [if_pos (by omega)] | rw [if_neg (by omega)])), rfl⟩
        · refine q_lload_n dX7_isAsked_66 rfl rfl ?_
          refine q_lload_n dX7_isAsked_67 rfl rfl ?_
          refine z_lif_lt (tgt := 76) dX7_isAsked_68 dX7_isAsked_69 (by decide) (by assumption) (by assumption) (fun c_8 => ?_) (fun c_8 => ?_)
          · refine z_iconst dX7_isAsked_76 ?_
            refine q_goto (tgt := 111) dX7_isAsked_77 (by decide) ?_
            exact s_zret dX7_isAsked_111 rfl (by omega) ⟨by congr 3; unfold mAskB; (repeat (first | rw [if_pos (by omega)] | rw [if_neg (by omega)])), rfl⟩
          · refine z_iconst dX7_isAsked_72 ?_
            refine q_goto (tgt := 111) dX7_isAsked_73 (by decide) ?_
            exact s_zret dX7_isAsked_111 rfl (by omega) ⟨by congr 3; unfold mAskB; (repeat (first | rw [if_pos (by omega)] | rw [if_neg (by omega)])), rfl⟩
      · refine q_lload_n dX7_isAsked_46 rfl rfl ?_
        refine q_lload_n dX7_isAsked_47 rfl rfl ?_
        refine z_lif_le (tgt := 56) dX7_isAsked_48 dX7_isAsked_49 (by decide) (by assumption) (by assumption) (fun c_9 => ?_) (fun c_9 => ?_)
        · refine z_iconst dX7_isAsked_56 ?_
          refine q_goto (tgt := 111) dX7_isAsked_57 (by decide) ?_
          exact s_zret dX7_isAsked_111 rfl (by omega) ⟨by congr 3; unfold mAskB; (repeat (first | rw [if_pos (by omega)] | rw [if_neg (by omega)])), rfl⟩
        · refine z_iconst dX7_isAsked_52 ?_
          refine q_goto (tgt := 111) dX7_isAsked_53 (by decide) ?_
          exact s_zret dX7_isAsked_111 rfl (by omega) ⟨by congr 3; unfold mAskB; (repeat (first | rw [if_pos (by omega)] | rw [if_neg (by omega)])), rfl⟩
    · refine q_lload_n dX7_isAsked_26 rfl rfl ?_
      refine q_lload_n dX7_isAsked_27 rfl rfl ?_
      refine z_lif_gt (tgt := 36) dX7_isAsked_28 dX7_isAsked_29 (by decide) (by assumption) (by assumption) (fun c_10 => ?_) (fun c_10 => ?_)
      · refine z_iconst dX7_isAsked_36 ?_
        refine q_goto (tgt := 111) dX7_isAsked_37 (by decide) ?_
        exact s_zret dX7_isAsked_111 rfl (by omega) ⟨by congr 3; unfold mAskB; (repeat (first | rw [if_pos (by omega)] | rw [if_neg (by omega)])), rfl⟩
      · refine z_iconst dX7_isAsked_32 ?_
        refine q_goto (tgt := 111) dX7_isAsked_33 (by decide) ?_
        exact s_zret dX7_isAsked_111 rfl (by omega) ⟨by congr 3; unfold mAskB; (repeat (first | rw [if_pos (by omega)] | rw [if_neg (by omega)])), rfl⟩
  · refine q_lload_n dX7_isAsked_6 rfl rfl ?_
    refine q_lload_n dX7_isAsked_7 rfl rfl ?_
    refine z_lif_ge (tgt := 16) dX7_isAsked_8 dX7_isAsked_9 (by decide) (by assumption) (by assumption) (fun c_11 => ?_) (fun c_11 => ?_)
    · refine z_iconst dX7_isAsked_16 ?_
      refine q_goto (tgt := 111) dX7_isAsked_17 (by decide) ?_
      exact s_zret dX7_isAsked_111 rfl (by omega) ⟨by congr 3; unfold mAskB; (repeat (first | rw [if_pos (by omega)] | rw [if_neg (by omega)])), rfl⟩
    · refine z_iconst dX7_isAsked_12 ?_
      refine q_goto (tgt := 111) dX7_isAsked_13 (by decide) ?_
      exact s_zret dX7_isAsked_111 rfl (by omega) ⟨by congr 3; unfold mAskB; (repeat (first | rw [if_pos (by omega)] | rw [if_neg (by omega)])), rfl⟩
set_option maxHeartbeats 4000000 in
set_option maxRecDepth 100000 in
theorem m_joined {d : Nat} {o x y : Int} (ho : inR o) (hx : inR x) (hy : inR y) (σ : gS) : sC mX7_joined d [.int (iZ o), .int (iZ x), .int (iZ y)] σ (fun r σ' => r = some (.int (iZ (mJoin o x y))) ∧ σ' = σ) := by
  refine sC_of rfl (Nat.le_of_ble_eq_true rfl) ?_
  show sE g_tt _ _ _ 0 [some (.int (iZ o)), some (.int (iZ x)), some (.int (iZ y))] [] σ
  refine q_iload_n dX7_joined_0 rfl rfl ?_
  refine z_bipush dX7_joined_1 (by decide +kernel) ?_
  refine z_icmp_ne (tgt := 22) dX7_joined_3 (by decide) (by unfold inR at *; omega) (by unfold inR at *; omega) (fun c_1 => ?_) (fun c_1 => ?_)
  · refine q_iload_n dX7_joined_22 rfl rfl ?_
    refine z_if_ne (tgt := 30) dX7_joined_23 (by decide) (by unfold inR at *; omega) (fun c_2 => ?_) (fun c_2 => ?_)
    · refine z_iconst dX7_joined_30 ?_
      refine q_goto (tgt := 35) dX7_joined_31 (by decide) ?_
      exact s_zret dX7_joined_35 rfl (by omega) ⟨by congr 3; unfold mJoin; (repeat (first | rw [if_pos (by omega)] | rw [if_neg (by omega)])), rfl⟩
    · refine q_iload_n dX7_joined_26 rfl rfl ?_
      refine z_if_eq (tgt := 34) dX7_joined_27 (by decide) (by unfold inR at *; omega) (fun c_3 => ?_) (fun c_3 => ?_)
      · refine z_iconst dX7_joined_34 ?_
        exact s_zret dX7_joined_35 rfl (by omega) ⟨by congr 3; unfold mJoin; (repeat (first | rw [if_pos (by omega)] | rw [if_neg (by omega)])), rfl⟩
      · refine z_iconst dX7_joined_30 ?_
        refine q_goto (tgt := 35) dX7_joined_31 (by decide) ?_
        exact s_zret dX7_joined_35 rfl (by omega) ⟨by congr 3; unfold mJoin; (repeat (first | rw [if_pos (by omega)] | rw [if_neg (by omega)])), rfl⟩
  · refine q_iload_n dX7_joined_6 rfl rfl ?_
    refine z_if_eq (tgt := 18) dX7_joined_7 (by decide) (by unfold inR at *; omega) (fun c_4 => ?_) (fun c_4 => ?_)
    · refine z_iconst dX7_joined_18 ?_
      refine q_goto (tgt := 35) dX7_joined_19 (by decide) ?_
      exact s_zret dX7_joined_35 rfl (by omega) ⟨by congr 3; unfold mJoin; (repeat (first | rw [if_pos (by omega)] | rw [if_neg (by omega)])), rfl⟩
    · refine q_iload_n dX7_joined_10 rfl rfl ?_
      refine z_if_eq (tgt := 18) dX7_joined_11 (by decide) (by unfold inR at *; omega) (fun c_5 => ?_) (fun c_5 => ?_)
      · refine z_iconst dX7_joined_18 ?_
        refine q_goto (tgt := 35) dX7_joined_19 (by decide) ?_
        exact s_zret dX7_joined_35 rfl (by omega) ⟨by congr 3; unfold mJoin; (repeat (first | rw [if_pos (by omega)] | rw [if_neg (by omega)])), rfl⟩
      · refine z_iconst dX7_joined_14 ?_
        refine q_goto (tgt := 35) dX7_joined_15 (by decide) ?_
        exact s_zret dX7_joined_35 rfl (by omega) ⟨by congr 3; unfold mJoin; (repeat (first | rw [if_pos (by omega)] | rw [if_neg (by omega)])), rfl⟩
set_option maxHeartbeats 4000000 in
set_option maxRecDepth 100000 in
theorem m_houseKind {d : Nat} {h : Int} (hh : inL h) (σ : gS) (A F : Nat → Int) (hk : 0 ≤ h ∧ h < 8 → inR (A (11 + h).toNat)) : sC mX7_houseKind d [.ref 384, .long (lZ h)] (ms σ A F) (fun r σ' => r = some (.long (lZ (if 0 ≤ h ∧ h < 8 then A (11 + h).toNat else 0))) ∧ σ' = ms σ A F) := by
  refine sC_of rfl (Nat.le_of_ble_eq_true rfl) ?_
  show sE g_tt _ _ _ 0 [some (.ref 384), some (.long (lZ h)), none] [] (ms σ A F)
  refine q_lload_n dX7_houseKind_0 rfl rfl ?_
  refine z_lconst (z := 0) dX7_houseKind_1 (by decide +kernel) ?_
  refine z_lif_lt (tgt := 28) dX7_houseKind_2 dX7_houseKind_3 (by decide) (by unfold inL at *; omega) (by unfold inL at *; omega) (fun c_1 => ?_) (fun c_1 => ?_)
  · refine z_lconst (z := 0) dX7_houseKind_28 (by decide +kernel) ?_
    exact s_lret dX7_houseKind_29 rfl ⟨by congr 3; (first | rw [if_pos (by omega)] | rw [if_neg (by omega)]), rfl⟩
  · refine q_lload_n dX7_houseKind_6 rfl rfl ?_
    refine z_ldc2 (z := 8) dX7_houseKind_7 klX7_250 ?_
    refine z_lif_ge (tgt := 28) dX7_houseKind_10 dX7_houseKind_11 (by decide) (by unfold inL at *; omega) (by unfold inL at *; omega) (fun c_2 => ?_) (fun c_2 => ?_)
    · refine z_lconst (z := 0) dX7_houseKind_28 (by decide +kernel) ?_
      exact s_lret dX7_houseKind_29 rfl ⟨by congr 3; (first | rw [if_pos (by omega)] | rw [if_neg (by omega)]), rfl⟩
    · refine q_aload_n dX7_houseKind_14 rfl rfl ?_
      refine sg7 (kf := 0) (v := .ref 385) dX7_houseKind_15 flX7_7 (show kd 384 = 7 from rfl) (by decide) rfl ?_
      refine z_bipush dX7_houseKind_18 (by decide +kernel) ?_
      refine q_lload_n dX7_houseKind_20 rfl rfl ?_
      refine z_l2i dX7_houseKind_21 ?_
      refine z_iadd dX7_houseKind_22 ?_
      refine s_iald (n := 1583) (x := A ((11 + h).toNat)) dX7_houseKind_23 (show kd 385 = 100 + 1583 from rfl) (by omega) (by omega) (by decide) rfl ?_
      refine z_i2l dX7_houseKind_24 (hk (by omega)) ?_
      refine q_goto (tgt := 29) dX7_houseKind_25 (by decide) ?_
      exact s_lret dX7_houseKind_29 rfl ⟨by congr 3; (first | rw [if_pos (by omega)] | rw [if_neg (by omega)]), rfl⟩
set_option maxHeartbeats 4000000 in
set_option maxRecDepth 100000 in
theorem m_cut {d : Nat} {v a b : Int} (hv : inL v) (ha : inR a) (hb : inR b) (σ : gS) : sC mX7_cut d [.long (lZ v), .int (iZ a), .int (iZ b)] σ (fun r σ' => r = some (.int (iZ (if v < a then a else if b < v then b else v))) ∧ σ' = σ) := by
  refine sC_of rfl (Nat.le_of_ble_eq_true rfl) ?_
  show sE g_tt _ _ _ 0 [some (.long (lZ v)), none, some (.int (iZ a)), some (.int (iZ b))] [] σ
  refine q_lload_n dX7_cut_0 rfl rfl ?_
  refine q_iload_n dX7_cut_1 rfl rfl ?_
  refine z_i2l dX7_cut_2 (by unfold inR at *; omega) ?_
  refine z_lif_ge (tgt := 11) dX7_cut_3 dX7_cut_4 (by decide) (by unfold inL inR at *; omega) (by unfold inL inR at *; omega) (fun c_1 => ?_) (fun c_1 => ?_)
  · refine q_lload_n dX7_cut_11 rfl rfl ?_
    refine q_iload_n dX7_cut_12 rfl rfl ?_
    refine z_i2l dX7_cut_13 (by unfold inR at *; omega) ?_
    refine z_lif_le (tgt := 22) dX7_cut_14 dX7_cut_15 (by decide) (by unfold inL inR at *; omega) (by unfold inL inR at *; omega) (fun c_2 => ?_) (fun c_2 => ?_)
    · refine q_lload_n dX7_cut_22 rfl rfl ?_
      refine z_l2i dX7_cut_23 ?_
      exact s_iretZ dX7_cut_24 rfl ⟨by congr 3; (first | rw [if_pos (by omega)] | rw [if_neg (by omega), if_pos (by omega)] | rw [if_neg (by omega), if_neg (by omega)]), rfl⟩
    · refine q_iload_n dX7_cut_18 rfl rfl ?_
      refine q_goto (tgt := 24) dX7_cut_19 (by decide) ?_
      exact s_iretZ dX7_cut_24 rfl ⟨by congr 3; (first | rw [if_pos (by omega)] | rw [if_neg (by omega), if_pos (by omega)] | rw [if_neg (by omega), if_neg (by omega)]), rfl⟩
  · refine q_iload_n dX7_cut_7 rfl rfl ?_
    refine q_goto (tgt := 24) dX7_cut_8 (by decide) ?_
    exact s_iretZ dX7_cut_24 rfl ⟨by congr 3; (first | rw [if_pos (by omega)] | rw [if_neg (by omega), if_pos (by omega)] | rw [if_neg (by omega), if_neg (by omega)]), rfl⟩
