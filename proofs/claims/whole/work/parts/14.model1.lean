theorem inR_o {a b : Int} {z : Int} (h1 : a ≤ z) (h2 : z ≤ b) (h3 : inR a) (h4 : inR b) : inR z := ⟨Int.le_trans h3.1 h1, Int.le_trans h2 h4.2⟩
theorem inR_if {c : Prop} [Decidable c] {x y : Int} (hx : inR x) (hy : inR y) : inR (if c then x else y) := by split <;> assumption
theorem inR_tdiv {x y : Int} (hx : inR x) (h0 : 0 < y) : inR (x.tdiv y) := by
  rcases Int.le_total 0 x with q | q
  · have q1 := Int.tdiv_nonneg q (Int.le_of_lt h0)
    have q2 : x.tdiv y ≤ x := Int.tdiv_le_self _ q
    have := hx.2
    exact ⟨by omega, by omega⟩
  · have q1 : 0 ≤ (-x).tdiv y := Int.tdiv_nonneg (by omega) (Int.le_of_lt h0)
    have q2 : (-x).tdiv y ≤ -x := Int.tdiv_le_self _ (by omega)
    rw [Int.neg_tdiv] at q1 q2
    have := hx.1
    exact ⟨by omega, by omega⟩
theorem inR_01 {c : Prop} [Decidable c] : inR (if c then 1 else 0) := inR_if ⟨by decide, by decide⟩ ⟨by decide, by decide⟩
theorem if01 {c : Prop} [Decidable c] : (if c then (1 : Int) else 0) = 0 ∨ (if c then (1 : Int) else 0) = 1 := by split <;> simp
theorem if01_0 {c : Prop} [Decidable c] (h : (if c then (1 : Int) else 0) = 0) : ¬ c := fun q => by rw [if_pos q] at h; exact absurd h (by decide)
theorem if01_1 {c : Prop} [Decidable c] (h : ¬ (if c then (1 : Int) else 0) = 0) : c := by by_cases q : c; exact q; rw [if_neg q] at h; exact absurd rfl h
set_option maxHeartbeats 4000000 in
set_option maxRecDepth 100000 in
theorem m_isIn {d : Nat} {v a b : Int} (hv : inR v) (ha : inR a) (hb : inR b) (σ : gS) : sC mX7_isIn d [.int (iZ v), .int (iZ a), .int (iZ b)] σ (fun r σ' => r = some (.int (iZ (if a ≤ v ∧ v ≤ b then 1 else 0))) ∧ σ' = σ) := by
  refine sC_of rfl (Nat.le_of_ble_eq_true rfl) ?_
  show sE g_tt _ _ _ 0 [some (.int (iZ v)), some (.int (iZ a)), some (.int (iZ b))] [] σ
  refine q_iload_n dX7_isIn_0 rfl rfl ?_
  refine q_iload_n dX7_isIn_1 rfl rfl ?_
  refine z_icmp_lt (tgt := 14) dX7_isIn_2 (by decide) (by unfold inR at *; omega) (by unfold inR at *; omega) (fun c_1 => ?_) (fun c_1 => ?_)
  · refine z_iconst dX7_isIn_14 ?_
    exact s_zret dX7_isIn_15 rfl (by omega) ⟨by congr 3; (first | rw [if_pos (by omega)] | rw [if_neg (by omega)]), rfl⟩
  · refine q_iload_n dX7_isIn_5 rfl rfl ?_
    refine q_iload_n dX7_isIn_6 rfl rfl ?_
    refine z_icmp_gt (tgt := 14) dX7_isIn_7 (by decide) (by unfold inR at *; omega) (by unfold inR at *; omega) (fun c_2 => ?_) (fun c_2 => ?_)
    · refine z_iconst dX7_isIn_14 ?_
      exact s_zret dX7_isIn_15 rfl (by omega) ⟨by congr 3; (first | rw [if_pos (by omega)] | rw [if_neg (by omega)]), rfl⟩
    · refine z_iconst dX7_isIn_10 ?_
      refine q_goto (tgt := 15) dX7_isIn_11 (by decide) ?_
      exact s_zret dX7_isIn_15 rfl (by omega) ⟨by congr 3; (first | rw [if_pos (by omega)] | rw [if_neg (by omega)]), rfl⟩
set_option maxHeartbeats 4000000 in
set_option maxRecDepth 100000 in
theorem m_size {d : Nat} {v : Int} (hv : inR v) (σ : gS) : sC mX7_size d [.int (iZ v)] σ (fun r σ' => r = some (.int (iZ (if v < 0 then -v else v))) ∧ σ' = σ) := by
  refine sC_of rfl (Nat.le_of_ble_eq_true rfl) ?_
  show sE g_tt _ _ _ 0 [some (.int (iZ v))] [] σ
  refine q_iload_n dX7_size_0 rfl rfl ?_
  refine z_if_ge (tgt := 9) dX7_size_1 (by decide) (by unfold inR at *; omega) (fun c_1 => ?_) (fun c_1 => ?_)
  · refine q_iload_n dX7_size_9 rfl rfl ?_
    exact s_iretZ dX7_size_10 rfl ⟨by congr 3; (first | rw [if_pos (by omega)] | rw [if_neg (by omega)]), rfl⟩
  · refine q_iload_n dX7_size_4 rfl rfl ?_
    refine z_ineg dX7_size_5 ?_
    refine q_goto (tgt := 10) dX7_size_6 (by decide) ?_
    exact s_iretZ dX7_size_10 rfl ⟨by congr 3; (first | rw [if_pos (by omega)] | rw [if_neg (by omega)]), rfl⟩
set_option maxHeartbeats 4000000 in
set_option maxRecDepth 100000 in
theorem m_isHouse {d : Nat} (hd : 1 ≤ d) {h : Int} (hh : inR h) (σ : gS) : sC mX7_isHouse d [.int (iZ h)] σ (fun r σ' => r = some (.int (iZ (if 0 ≤ h ∧ h < 8 then 1 else 0))) ∧ σ' = σ) := by
  refine sC_of rfl (Nat.le_of_ble_eq_true rfl) ?_
  show sE g_tt _ _ _ 0 [some (.int (iZ h))] [] σ
  refine q_iload_n dX7_isHouse_0 rfl rfl ?_
  refine z_iconst dX7_isHouse_1 ?_
  refine z_bipush dX7_isHouse_2 (by decide +kernel) ?_
  refine s_callS (As := [.int (iZ h), .int (iZ 0), .int (iZ 7)]) (S := []) dX7_isHouse_4 okX7_isIn mlX7_66 rfl (by omega) rfl (Nat.le_of_ble_eq_true rfl) (m_isIn (d := d - 1) (v := h) (a := 0) (b := 7) (by unfold inR at *; omega) (by unfold inR at *; omega) (by unfold inR at *; omega) σ) (fun v_ σ_ hq => ?_)
  obtain ⟨rfl, e9⟩ := hq
  have e9 := e9.symm
  subst e9
  show sE g_tt _ _ _ 7 [some (.int (iZ h))] [.int (iZ (if 0 ≤ h ∧ h ≤ 7 then 1 else 0))] σ
  exact s_zret dX7_isHouse_7 rfl (by omega) ⟨by congr 3; split <;> (first | rw [if_pos (by omega)] | rw [if_neg (by omega)]), rfl⟩
/-- a state with the model's row and fields by name -/
def ms (σ : gS) (A F : Nat → Int) : gS := (va_up σ.1 384 F, va_up σ.2.1 385 A, σ.2.2)
theorem ms_id (σ : gS) : ms σ (σ.2.1 385) (σ.1 384) = σ := by
  have e1 : va_up σ.1 384 (σ.1 384) = σ.1 := by
    funext x; by_cases h : x = 384
    · subst h; exact va_up_self _ _ _
    · exact va_up_ne _ _ h
  have e2 : va_up σ.2.1 385 (σ.2.1 385) = σ.2.1 := by
    funext x; by_cases h : x = 385
    · subst h; exact va_up_self _ _ _
    · exact va_up_ne _ _ h
  unfold ms
  rw [e1, e2]
theorem ms_sI (σ : gS) (A F : Nat → Int) (k : Nat) (z : Int) : sI (ms σ A F) 384 k z = ms σ A (va_up F k z) := by
  unfold sI ms up2
  simp only [va_up_self, bx_uu]
theorem ms_sR (σ : gS) (A F : Nat → Int) (k : Nat) (z : Int) : sR (ms σ A F) 385 k z = ms σ (va_up A k z) F := by
  unfold sR ms up2
  simp only [va_up_self, bx_uu]
theorem va_up_comm {α : Type} (f : Nat → α) {a b : Nat} (x y : α) (h : a ≠ b) : va_up (va_up f a x) b y = va_up (va_up f b y) a x := by
  funext j
  by_cases h1 : j = b
  · subst h1; rw [va_up_self, va_up_ne _ _ (Ne.symm h), va_up_self]
  · rw [va_up_ne _ _ h1]
    by_cases h2 : j = a
    · subst h2; rw [va_up_self, va_up_self]
    · rw [va_up_ne _ _ h2, va_up_ne _ _ h2, va_up_ne _ _ h1]
theorem ms_oR (σ : gS) (A F : Nat → Int) {b : Nat} (k : Nat) (z : Int) (hb : b ≠ 385) : sR (ms σ A F) b k z = ms (sR σ b k z) A F := by
  unfold sR ms up2
  simp only [va_up_ne _ _ hb]
  rw [va_up_comm _ _ _ (Ne.symm hb)]
theorem ms_oJ (σ : gS) (A F : Nat → Int) (b k : Nat) (z : Int) : sJ (ms σ A F) b k z = ms (sJ σ b k z) A F := rfl
theorem ms_oW (σ : gS) (A F : Nat → Int) (z : Int) : sW (ms σ A F) z = ms (sW σ z) A F := rfl
section MR
variable {Y : gY} {M : gM} {d : Nat} {Q : Option Value → gS → Prop} {pc : Nat} {L : List (Option Value)} {S : List Value} {σ : gS} {A F : Nat → Int}
theorem mp {kf i : Nat} {z : Int} (hd : decode M.2.1 pc = .ok (.putfield i, 3)) (hl : Cond.fieldLink M.1.cls i (TX7 kf).1 (TX7 kf).2.1 (TX7 kf).2.2.1 ∈ g_W) (hk : kf ∈ [4, 5, 6, 7, 8, 9, 10, 12, 13, 14, 16, 17, 19, 24, 25, 26, 29, 30, 31, 35]) (k : sE Y M d Q (pc + 3) L S (ms σ A (va_up F kf z))) : sE Y M d Q pc L (.int (iZ z) :: .ref 384 :: S) (ms σ A F) :=
  sp7 hd hl rfl hk (by rw [ms_sI]; exact k)
theorem mz18 {i : Nat} {z : Int} (hd : decode M.2.1 pc = .ok (.putfield i, 3)) (hl : Cond.fieldLink M.1.cls i (TX7 18).1 (TX7 18).2.1 (TX7 18).2.2.1 ∈ g_W) (hz : z = 0 ∨ z = 1) (k : sE Y M d Q (pc + 3) L S (ms σ A (va_up F 18 z))) : sE Y M d Q pc L (.int (iZ z) :: .ref 384 :: S) (ms σ A F) :=
  sz7_18 hd hl rfl hz (by rw [ms_sI]; exact k)
theorem mz23 {i : Nat} {z : Int} (hd : decode M.2.1 pc = .ok (.putfield i, 3)) (hl : Cond.fieldLink M.1.cls i (TX7 23).1 (TX7 23).2.1 (TX7 23).2.2.1 ∈ g_W) (hz : z = 0 ∨ z = 1) (k : sE Y M d Q (pc + 3) L S (ms σ A (va_up F 23 z))) : sE Y M d Q pc L (.int (iZ z) :: .ref 384 :: S) (ms σ A F) :=
  sz7_23 hd hl rfl hz (by rw [ms_sI]; exact k)
theorem ma_st {z x : Int} (hd : decode M.2.1 pc = .ok (.iastore, 1)) (h0 : 0 ≤ z) (h1 : z < 1583) (k : sE Y M d Q (pc + 1) L S (ms σ (va_up A z.toNat x) F)) : sE Y M d Q pc L (.int (iZ x) :: .int (iZ z) :: .ref 385 :: S) (ms σ A F) :=
  s_iast (n := 1583) hd rfl h0 h1 (by decide) (by rw [ms_sR]; exact k)
theorem mo_ist {a n : Nat} {z x : Int} (hd : decode M.2.1 pc = .ok (.iastore, 1)) (ha : kd a = 100 + n) (hb : a ≠ 385) (h0 : 0 ≤ z) (h1 : z < n) (hn : n < 90000) (k : sE Y M d Q (pc + 1) L S (ms (sR σ a z.toNat x) A F)) : sE Y M d Q pc L (.int (iZ x) :: .int (iZ z) :: .ref a :: S) (ms σ A F) :=
  s_iast hd ha h0 h1 hn (by rw [ms_oR _ _ _ _ _ hb]; exact k)
theorem mo_zst {a n : Nat} {z x : Int} (hd : decode M.2.1 pc = .ok (.bastore, 1)) (ha : kd a = 200000 + n) (hb : a ≠ 385) (h0 : 0 ≤ z) (h1 : z < n) (hn : n < 90000) (hx : x = 0 ∨ x = 1) (k : sE Y M d Q (pc + 1) L S (ms (sR σ a z.toNat x) A F)) : sE Y M d Q pc L (.int (iZ x) :: .int (iZ z) :: .ref a :: S) (ms σ A F) :=
  s_zast hd ha h0 h1 hn hx (by rw [ms_oR _ _ _ _ _ hb]; exact k)
theorem mo_lst {a n : Nat} {z x : Int} (hd : decode M.2.1 pc = .ok (.lastore, 1)) (ha : kd a = 100000 + n) (hb : a ≠ 385) (h0 : 0 ≤ z) (h1 : z < n) (hn : n < 90000) (k : sE Y M d Q (pc + 1) L S (ms (sJ σ a z.toNat x) A F)) : sE Y M d Q pc L (.long (lZ x) :: .int (iZ z) :: .ref a :: S) (ms σ A F) :=
  s_last hd ha h0 h1 hn k
end MR
set_option maxHeartbeats 4000000 in
set_option maxRecDepth 100000 in
theorem m_isPerson {d : Nat} (hd : 1 ≤ d) {p : Int} (hp : inR p) (σ : gS) (A F : Nat → Int) (h0 : 0 ≤ A 0) (h5 : A 0 ≤ 5) : sC mX7_isPerson d [.ref 384, .int (iZ p)] (ms σ A F) (fun r σ' => r = some (.int (iZ (if 0 ≤ p ∧ p < A 0 then 1 else 0))) ∧ σ' = ms σ A F) := by
  refine sC_of rfl (Nat.le_of_ble_eq_true rfl) ?_
  show sE g_tt _ _ _ 0 [some (.ref 384), some (.int (iZ p))] [] (ms σ A F)
  refine q_iload_n dX7_isPerson_0 rfl rfl ?_
  refine z_iconst dX7_isPerson_1 ?_
  refine q_aload_n dX7_isPerson_2 rfl rfl ?_
  refine sg7 (kf := 0) (v := .ref 385) dX7_isPerson_3 flX7_7 (show kd 384 = 7 from rfl) (by decide) rfl ?_
  refine z_iconst dX7_isPerson_6 ?_
  refine s_iald (n := 1583) (x := A 0) dX7_isPerson_7 (show kd 385 = 100 + 1583 from rfl) (by omega) (by omega) (by decide) rfl ?_
  refine z_iconst dX7_isPerson_8 ?_
  refine z_isub dX7_isPerson_9 ?_
  refine s_callS (As := [.int (iZ p), .int (iZ 0), .int (iZ ((A 0) - 1))]) (S := []) dX7_isPerson_10 okX7_isIn mlX7_66 rfl (by omega) rfl (Nat.le_of_ble_eq_true rfl) (m_isIn (d := d - 1) (v := p) (a := 0) (b := (A 0) - 1) (by unfold inR at *; omega) (by unfold inR at *; omega) (by unfold inR at *; omega) (ms σ A F)) (fun v_ σ_ hq => ?_)
  obtain ⟨rfl, e9⟩ := hq
  have e9 := e9.symm
  subst e9
  show sE g_tt _ _ _ 13 [some (.ref 384), some (.int (iZ p))] [.int (iZ (if 0 ≤ p ∧ p ≤ (A 0) - 1 then 1 else 0))] (ms σ A F)
  exact s_zret dX7_isPerson_13 rfl (by omega) ⟨by congr 3; split <;> (first | rw [if_pos (by omega)] | rw [if_neg (by omega)]), rfl⟩
/-- the set of those of the first n people who are in house h, out of the model's row -/
def mPeo (A : Nat → Int) (h : Int) : Nat → Nat
  | 0 => 0
  | n + 1 => mPeo A h n ||| (if A (19 + n) = h then 2 ^ n else 0)
theorem mPeo_lt (A : Nat → Int) (h : Int) : ∀ n, mPeo A h n < 2 ^ n := by
  intro n
  induction n with
  | zero => exact Nat.one_pos
  | succ n ih =>
    have h1 : mPeo A h n < 2 ^ (n + 1) := Nat.lt_of_lt_of_le ih (Nat.pow_le_pow_right (by decide) (Nat.le_succ n))
    have h2 : (if A (19 + n) = h then 2 ^ n else 0) < 2 ^ (n + 1) := by
      split
      · exact Nat.pow_lt_pow_right (by decide) (Nat.lt_succ_self n)
      · exact Nat.pos_of_ne_zero (by simp)
    exact Nat.or_lt_two_pow h1 h2
set_option maxHeartbeats 4000000 in
set_option maxRecDepth 100000 in
theorem lp_peopleIn {d : Nat} {h : Int} (hh : inR h) (σ : gS) (A F : Nat → Int) (h0 : 0 ≤ A 0) (h5 : A 0 ≤ 5) (hhm : ∀ p, p < 5 → inR (A (19 + p))) : ∀ (n : Nat) (p : Nat), (p : Int) ≤ A 0 → A 0 - p < (n : Int) → sE g_tt mX7_peopleIn d (fun r σ' => r = some (.int (iZ (((mPeo A h (A 0).toNat : Nat) : Int)))) ∧ σ' = ms σ A F) 4 [some (.ref 384), some (.int (iZ h)), some (.int (iZ ((mPeo A h p : Nat) : Int))), some (.int (iZ (p : Int)))] [] (ms σ A F) := by
  intro n
  induction n with
  | zero =>
    intro p hp hn
    exact absurd hn (by omega)
  | succ n ih =>
    intro p hp hn
    refine q_iload_n dX7_peopleIn_4 rfl rfl ?_
    refine q_aload_n dX7_peopleIn_5 rfl rfl ?_
    refine sg7 (kf := 0) (v := .ref 385) dX7_peopleIn_6 flX7_7 (show kd 384 = 7 from rfl) (by decide) rfl ?_
    refine z_iconst dX7_peopleIn_9 ?_
    refine s_iald (n := 1583) (x := A 0) dX7_peopleIn_10 (show kd 385 = 100 + 1583 from rfl) (by omega) (by omega) (by decide) rfl ?_
    refine z_icmp_ge (tgt := 43) dX7_peopleIn_11 (by decide) (by unfold inR at *; omega) (by unfold inR at *; omega) (fun c_1 => ?_) (fun c_1 => ?_)
    · refine q_iload_n dX7_peopleIn_43 rfl rfl ?_
      exact s_iretZ dX7_peopleIn_44 rfl ⟨by rw [show p = (A 0).toNat by omega], rfl⟩
    · refine q_iload_n dX7_peopleIn_14 rfl rfl ?_
      refine q_aload_n dX7_peopleIn_15 rfl rfl ?_
      refine sg7 (kf := 0) (v := .ref 385) dX7_peopleIn_16 flX7_7 (show kd 384 = 7 from rfl) (by decide) rfl ?_
      refine z_bipush dX7_peopleIn_19 (by decide +kernel) ?_
      refine q_iload_n dX7_peopleIn_21 rfl rfl ?_
      refine z_iadd dX7_peopleIn_22 ?_
      refine s_iald (n := 1583) (x := A (19 + p)) dX7_peopleIn_23 (show kd 385 = 100 + 1583 from rfl) (by omega) (by omega) (by decide) rfl ?_
      refine q_iload_n dX7_peopleIn_24 rfl rfl ?_
      refine z_icmp_ne (tgt := 34) dX7_peopleIn_25 (by decide) (hhm _ (by omega)) (by unfold inR at *; omega) (fun c_2 => ?_) (fun c_2 => ?_)
      · refine z_iconst dX7_peopleIn_34 ?_
        refine z_ior (m := mPeo A h p) (k := 0) dX7_peopleIn_35 ?_
        refine q_istore_n dX7_peopleIn_36 rfl (by decide) ?_
        show sE g_tt _ _ _ 37 [some (.ref 384), some (.int (iZ h)), some (.int (iZ (((mPeo A h p) ||| 0 : Nat) : Int))), some (.int (iZ (p : Int)))] [] (ms σ A F)
        refine z_iinc dX7_peopleIn_37 rfl (by decide) ?_
        show sE g_tt _ _ _ 40 [some (.ref 384), some (.int (iZ h)), some (.int (iZ (((mPeo A h p) ||| 0 : Nat) : Int))), some (.int (iZ ((p : Int) + 1)))] [] (ms σ A F)
        refine q_goto (tgt := 4) dX7_peopleIn_40 (by decide) ?_
        have k9 := ih (p + 1) (by omega) (by omega)
        rw [show mPeo A h (p + 1) = mPeo A h p ||| 0 by simp only [mPeo, if_neg (show ¬ A (19 + p) = h by omega)]] at k9
        exact k9
      · refine z_iconst dX7_peopleIn_28 ?_
        refine q_iload_n dX7_peopleIn_29 rfl rfl ?_
        refine z_ishl (x := 1) (k := p) dX7_peopleIn_30 (by omega) ?_
        refine z_top (y := ((2 ^ p : Nat) : Int)) (by simp) ?_
        refine q_goto (tgt := 35) dX7_peopleIn_31 (by decide) ?_
        refine z_ior (m := mPeo A h p) (k := 2 ^ p) dX7_peopleIn_35 ?_
        refine q_istore_n dX7_peopleIn_36 rfl (by decide) ?_
        show sE g_tt _ _ _ 37 [some (.ref 384), some (.int (iZ h)), some (.int (iZ (((mPeo A h p) ||| (2 ^ p) : Nat) : Int))), some (.int (iZ (p : Int)))] [] (ms σ A F)
        refine z_iinc dX7_peopleIn_37 rfl (by decide) ?_
        show sE g_tt _ _ _ 40 [some (.ref 384), some (.int (iZ h)), some (.int (iZ (((mPeo A h p) ||| (2 ^ p) : Nat) : Int))), some (.int (iZ ((p : Int) + 1)))] [] (ms σ A F)
        refine q_goto (tgt := 4) dX7_peopleIn_40 (by decide) ?_
        have k9 := ih (p + 1) (by omega) (by omega)
        rw [show mPeo A h (p + 1) = mPeo A h p ||| 2 ^ p by simp only [mPeo, if_pos (show A (19 + p) = h by omega)]] at k9
        exact k9
set_option maxHeartbeats 4000000 in
set_option maxRecDepth 100000 in
theorem m_peopleIn {d : Nat} {h : Int} (hh : inR h) (σ : gS) (A F : Nat → Int) (h0 : 0 ≤ A 0) (h5 : A 0 ≤ 5) (hhm : ∀ p, p < 5 → inR (A (19 + p))) : sC mX7_peopleIn d [.ref 384, .int (iZ h)] (ms σ A F) (fun r σ' => r = some (.int (iZ (((mPeo A h (A 0).toNat : Nat) : Int)))) ∧ σ' = ms σ A F) := by
  refine sC_of rfl (Nat.le_of_ble_eq_true rfl) ?_
  show sE g_tt _ _ _ 0 [some (.ref 384), some (.int (iZ h)), none, none] [] (ms σ A F)
  refine z_iconst dX7_peopleIn_0 ?_
  refine q_istore_n dX7_peopleIn_1 rfl (by decide) ?_
  show sE g_tt _ _ _ 2 [some (.ref 384), some (.int (iZ h)), some (.int (iZ 0)), none] [] (ms σ A F)
  refine z_iconst dX7_peopleIn_2 ?_
  refine q_istore_n dX7_peopleIn_3 rfl (by decide) ?_
  show sE g_tt _ _ _ 4 [some (.ref 384), some (.int (iZ h)), some (.int (iZ 0)), some (.int (iZ 0))] [] (ms σ A F)
  exact lp_peopleIn hh σ A F h0 h5 hhm 6 0 (by omega) (by omega)
set_option maxHeartbeats 4000000 in
set_option maxRecDepth 100000 in
theorem m_kindOf {d : Nat} (hd : 2 ≤ d) {h : Int} (hh : inR h) (σ : gS) (A F : Nat → Int) : sC mX7_kindOf d [.ref 384, .int (iZ h)] (ms σ A F) (fun r σ' => r = some (.int (iZ (if 0 ≤ h ∧ h < 8 then A (11 + h).toNat else 0))) ∧ σ' = ms σ A F) := by
  refine sC_of rfl (Nat.le_of_ble_eq_true rfl) ?_
  show sE g_tt _ _ _ 0 [some (.ref 384), some (.int (iZ h))] [] (ms σ A F)
  refine q_iload_n dX7_kindOf_0 rfl rfl ?_
  refine s_callS (As := [.int (iZ h)]) (S := []) dX7_kindOf_1 okX7_isHouse mlX7_70 rfl (by omega) rfl (Nat.le_of_ble_eq_true rfl) (m_isHouse (d := d - 1) (by omega) (h := h) (by unfold inR at *; omega) (ms σ A F)) (fun v_ σ_ hq => ?_)
  obtain ⟨rfl, e9⟩ := hq
  have e9 := e9.symm
  subst e9
  show sE g_tt _ _ _ 4 [some (.ref 384), some (.int (iZ h))] [.int (iZ (if 0 ≤ h ∧ h < 8 then 1 else 0))] (ms σ A F)
  refine z_if_eq (tgt := 19) dX7_kindOf_4 (by decide) inR_01 (fun c_1 => ?_) (fun c_1 => ?_)
  · refine z_iconst dX7_kindOf_19 ?_
    exact s_iretZ dX7_kindOf_20 rfl ⟨by congr 3; (first | rw [if_pos (if01_1 c_1)] | rw [if_neg (if01_0 c_1)]), rfl⟩
  · refine q_aload_n dX7_kindOf_7 rfl rfl ?_
    refine sg7 (kf := 0) (v := .ref 385) dX7_kindOf_8 flX7_7 (show kd 384 = 7 from rfl) (by decide) rfl ?_
    refine z_bipush dX7_kindOf_11 (by decide +kernel) ?_
    refine q_iload_n dX7_kindOf_13 rfl rfl ?_
    refine z_iadd dX7_kindOf_14 ?_
    refine s_iald (n := 1583) (x := A ((11 + h).toNat)) dX7_kindOf_15 (show kd 385 = 100 + 1583 from rfl) (by have := if01_1 c_1; omega) (by have := if01_1 c_1; omega) (by decide) rfl ?_
    refine q_goto (tgt := 20) dX7_kindOf_16 (by decide) ?_
    exact s_iretZ dX7_kindOf_20 rfl ⟨by congr 3; (first | rw [if_pos (if01_1 c_1)] | rw [if_neg (if01_0 c_1)]), rfl⟩
def mSum (A : Nat → Int) : Nat → Int
  | 0 => 0
  | n + 1 => mSum A n + A (11 + n)
set_option maxHeartbeats 4000000 in
set_option maxRecDepth 100000 in
theorem lp_allKind {d : Nat} (σ : gS) (A F : Nat → Int) : ∀ (n : Nat) (k : Nat), k ≤ 8 → 8 - (k : Int) < (n : Int) → sE g_tt mX7_allKind d (fun r σ' => r = some (.int (iZ (mSum A 8))) ∧ σ' = ms σ A F) 4 [some (.ref 384), some (.int (iZ (mSum A k))), some (.int (iZ (k : Int)))] [] (ms σ A F) := by
  intro n
  induction n with
  | zero =>
    intro k hk hn
    exact absurd hn (by omega)
  | succ n ih =>
    intro k hk hn
    refine q_iload_n dX7_allKind_4 rfl rfl ?_
    refine z_bipush dX7_allKind_5 (by decide +kernel) ?_
    refine z_icmp_ge (tgt := 28) dX7_allKind_7 (by decide) (by unfold inR at *; omega) (by unfold inR at *; omega) (fun c_1 => ?_) (fun c_1 => ?_)
    · refine q_iload_n dX7_allKind_28 rfl rfl ?_
      exact s_iretZ dX7_allKind_29 rfl ⟨by rw [show k = 8 by omega], rfl⟩
    · refine q_iload_n dX7_allKind_10 rfl rfl ?_
      refine q_aload_n dX7_allKind_11 rfl rfl ?_
      refine sg7 (kf := 0) (v := .ref 385) dX7_allKind_12 flX7_7 (show kd 384 = 7 from rfl) (by decide) rfl ?_
      refine z_bipush dX7_allKind_15 (by decide +kernel) ?_
      refine q_iload_n dX7_allKind_17 rfl rfl ?_
      refine z_iadd dX7_allKind_18 ?_
      refine s_iald (n := 1583) (x := A (11 + k)) dX7_allKind_19 (show kd 385 = 100 + 1583 from rfl) (by omega) (by omega) (by decide) rfl ?_
      refine z_iadd dX7_allKind_20 ?_
      refine q_istore_n dX7_allKind_21 rfl (by decide) ?_
      show sE g_tt _ _ _ 22 [some (.ref 384), some (.int (iZ ((mSum A k) + (A (11 + k))))), some (.int (iZ (k : Int)))] [] (ms σ A F)
      refine z_iinc dX7_allKind_22 rfl (by decide) ?_
      show sE g_tt _ _ _ 25 [some (.ref 384), some (.int (iZ ((mSum A k) + (A (11 + k))))), some (.int (iZ ((k : Int) + 1)))] [] (ms σ A F)
      refine q_goto (tgt := 4) dX7_allKind_25 (by decide) ?_
      exact ih (k + 1) (by omega) (by omega)
set_option maxHeartbeats 4000000 in
set_option maxRecDepth 100000 in
theorem m_allKind {d : Nat} (σ : gS) (A F : Nat → Int) : sC mX7_allKind d [.ref 384] (ms σ A F) (fun r σ' => r = some (.int (iZ (mSum A 8))) ∧ σ' = ms σ A F) := by
  refine sC_of rfl (Nat.le_of_ble_eq_true rfl) ?_
  show sE g_tt _ _ _ 0 [some (.ref 384), none, none] [] (ms σ A F)
  refine z_iconst dX7_allKind_0 ?_
  refine q_istore_n dX7_allKind_1 rfl (by decide) ?_
  show sE g_tt _ _ _ 2 [some (.ref 384), some (.int (iZ 0)), none] [] (ms σ A F)
  refine z_iconst dX7_allKind_2 ?_
  refine q_istore_n dX7_allKind_3 rfl (by decide) ?_
  show sE g_tt _ _ _ 4 [some (.ref 384), some (.int (iZ 0)), some (.int (iZ 0))] [] (ms σ A F)
  exact lp_allKind σ A F 9 0 (by omega) (by omega)
/-- the next draw -/
def mNew (x : Int) : Int := (x * 599 + 463).tmod 30839
set_option maxHeartbeats 4000000 in
set_option maxRecDepth 100000 in
theorem m_anew {d : Nat} (σ : gS) (A F : Nat → Int) (h0 : 0 ≤ A 6) (h1 : A 6 ≤ 40000) : sC mX7_anew d [.ref 384] (ms σ A F) (fun r σ' => r = none ∧ σ' = ms σ (va_up A 6 (mNew (A 6))) F) := by
  refine sC_of rfl (Nat.le_of_ble_eq_true rfl) ?_
  show sE g_tt _ _ _ 0 [some (.ref 384)] [] (ms σ A F)
  refine q_aload_n dX7_anew_0 rfl rfl ?_
  refine sg7 (kf := 0) (v := .ref 385) dX7_anew_1 flX7_7 (show kd 384 = 7 from rfl) (by decide) rfl ?_
  refine z_bipush dX7_anew_4 (by decide +kernel) ?_
  refine q_aload_n dX7_anew_6 rfl rfl ?_
  refine sg7 (kf := 0) (v := .ref 385) dX7_anew_7 flX7_7 (show kd 384 = 7 from rfl) (by decide) rfl ?_
  refine z_bipush dX7_anew_10 (by decide +kernel) ?_
  refine s_iald (n := 1583) (x := A 6) dX7_anew_12 (show kd 385 = 100 + 1583 from rfl) (by omega) (by omega) (by decide) rfl ?_
  refine z_i2l dX7_anew_13 (by unfold inR at *; omega) ?_
  refine z_ldc2 (z := 599) dX7_anew_14 klX7_292 ?_
  refine z_lmul dX7_anew_17 ?_
  refine z_ldc2 (z := 463) dX7_anew_18 klX7_294 ?_
  refine z_ladd dX7_anew_21 ?_
  refine z_ldc2 (z := 30839) dX7_anew_22 klX7_296 ?_
  refine z_lrem dX7_anew_25 (by unfold inL; (try unfold inR at *); omega) (by unfold inL; (try unfold inR at *); omega) (by decide) (by decide) ?_
  refine z_l2i dX7_anew_26 ?_
  refine ma_st dX7_anew_27 (by omega) (by omega) ?_
  exact s_vret dX7_anew_28 rfl ⟨rfl, rfl⟩
set_option maxHeartbeats 4000000 in
set_option maxRecDepth 100000 in
theorem m_drawnBy {d : Nat} (hd : 1 ≤ d) {m : Int} (hm : 0 < m) (hr : inR m) (σ : gS) (A F : Nat → Int) (h0 : 0 ≤ A 6) (h1 : A 6 ≤ 40000) : sC mX7_drawnBy d [.ref 384, .int (iZ m)] (ms σ A F) (fun r σ' => r = some (.int (iZ ((A 6).tmod m))) ∧ σ' = ms σ (va_up A 6 (mNew (A 6))) F) := by
  refine sC_of rfl (Nat.le_of_ble_eq_true rfl) ?_
  show sE g_tt _ _ _ 0 [some (.ref 384), some (.int (iZ m)), none] [] (ms σ A F)
  refine q_aload_n dX7_drawnBy_0 rfl rfl ?_
  refine sg7 (kf := 0) (v := .ref 385) dX7_drawnBy_1 flX7_7 (show kd 384 = 7 from rfl) (by decide) rfl ?_
  refine z_bipush dX7_drawnBy_4 (by decide +kernel) ?_
  refine s_iald (n := 1583) (x := A 6) dX7_drawnBy_6 (show kd 385 = 100 + 1583 from rfl) (by omega) (by omega) (by decide) rfl ?_
  refine q_iload_n dX7_drawnBy_7 rfl rfl ?_
  refine z_irem dX7_drawnBy_8 (by unfold inR at *; omega) (by unfold inR at *; omega) (by omega) ?_
  refine q_istore_n dX7_drawnBy_9 rfl (by decide) ?_
  show sE g_tt _ _ _ 10 [some (.ref 384), some (.int (iZ m)), some (.int (iZ ((A 6).tmod m)))] [] (ms σ A F)
  refine q_aload_n dX7_drawnBy_10 rfl rfl ?_
  refine s_callV (ci := 7) (a := 384) (As := []) (S := []) dX7_drawnBy_11 okX7_anew mlX7_289 rfl (by omega) rfl (Nat.le_of_ble_eq_true rfl) (show kd 384 = 7 from rfl) (by decide) rfl (m_anew (d := d - 1) σ A F (by omega) (by omega)) (fun v_ σ_ hq => ?_)
  obtain ⟨rfl, e9⟩ := hq
  have e9 := e9.symm
  subst e9
  show sE g_tt _ _ _ 14 [some (.ref 384), some (.int (iZ m)), some (.int (iZ ((A 6).tmod m)))] [] (ms σ (va_up A 6 (mNew (A 6))) F)
  refine q_iload_n dX7_drawnBy_14 rfl rfl ?_
  exact s_iretZ dX7_drawnBy_15 rfl ⟨rfl, rfl⟩
set_option maxHeartbeats 4000000 in
set_option maxRecDepth 100000 in
theorem m_canGood {d : Nat} (hd : 2 ≤ d) {h n : Int} (hh : inR h) (σ : gS) (A F : Nat → Int) (hk : 0 ≤ h ∧ h < 8 → inR (A (11 + h).toNat + n)) : sC mX7_canGood d [.ref 384, .int (iZ h), .int (iZ n)] (ms σ A F) (fun r σ' => r = some (.int (iZ (if (0 ≤ h ∧ h < 8) ∧ A (11 + h).toNat + n ≤ 99 then 1 else 0))) ∧ σ' = ms σ A F) := by
  refine sC_of rfl (Nat.le_of_ble_eq_true rfl) ?_
  show sE g_tt _ _ _ 0 [some (.ref 384), some (.int (iZ h)), some (.int (iZ n))] [] (ms σ A F)
  refine q_iload_n dX7_canGood_0 rfl rfl ?_
  refine s_callS (As := [.int (iZ h)]) (S := []) dX7_canGood_1 okX7_isHouse mlX7_70 rfl (by omega) rfl (Nat.le_of_ble_eq_true rfl) (m_isHouse (d := d - 1) (by omega) (h := h) (by unfold inR at *; omega) (ms σ A F)) (fun v_ σ_ hq => ?_)
  obtain ⟨rfl, e9⟩ := hq
  have e9 := e9.symm
  subst e9
  show sE g_tt _ _ _ 4 [some (.ref 384), some (.int (iZ h)), some (.int (iZ n))] [.int (iZ (if 0 ≤ h ∧ h < 8 then 1 else 0))] (ms σ A F)
  refine z_if_eq (tgt := 27) dX7_canGood_4 (by decide) inR_01 (fun c_1 => ?_) (fun c_1 => ?_)
  · refine z_iconst dX7_canGood_27 ?_
    exact s_zret dX7_canGood_28 rfl (by omega) ⟨by congr 3; (first | rw [if_pos (by have := if01_1 c_1; omega)] | rw [if_neg (by have := if01_0 c_1; omega)] | rw [if_neg (by omega)]), rfl⟩
  · refine q_aload_n dX7_canGood_7 rfl rfl ?_
    refine sg7 (kf := 0) (v := .ref 385) dX7_canGood_8 flX7_7 (show kd 384 = 7 from rfl) (by decide) rfl ?_
    refine z_bipush dX7_canGood_11 (by decide +kernel) ?_
    refine q_iload_n dX7_canGood_13 rfl rfl ?_
    refine z_iadd dX7_canGood_14 ?_
    refine s_iald (n := 1583) (x := A ((11 + h).toNat)) dX7_canGood_15 (show kd 385 = 100 + 1583 from rfl) (by have := if01_1 c_1; omega) (by have := if01_1 c_1; omega) (by decide) rfl ?_
    refine q_iload_n dX7_canGood_16 rfl rfl ?_
    refine z_iadd dX7_canGood_17 ?_
    refine z_bipush dX7_canGood_18 (by decide +kernel) ?_
    refine z_icmp_gt (tgt := 27) dX7_canGood_20 (by decide) (hk (if01_1 c_1)) (by unfold inR at *; omega) (fun c_2 => ?_) (fun c_2 => ?_)
    · refine z_iconst dX7_canGood_27 ?_
      exact s_zret dX7_canGood_28 rfl (by omega) ⟨by congr 3; (first | rw [if_pos (by have := if01_1 c_1; omega)] | rw [if_neg (by have := if01_0 c_1; omega)] | rw [if_neg (by omega)]), rfl⟩
    · refine z_iconst dX7_canGood_23 ?_
      refine q_goto (tgt := 28) dX7_canGood_24 (by decide) ?_
      exact s_zret dX7_canGood_28 rfl (by omega) ⟨by congr 3; (first | rw [if_pos (by have := if01_1 c_1; omega)] | rw [if_neg (by have := if01_0 c_1; omega)] | rw [if_neg (by omega)]), rfl⟩
set_option maxHeartbeats 4000000 in
set_option maxRecDepth 100000 in
theorem m_hand {d : Nat} (hd : 2 ≤ d) {h : Int} (hh : inR h) (σ : gS) (A F : Nat → Int) : sC mX7_hand d [.ref 384, .int (iZ h)] (ms σ A F) (fun r σ' => r = none ∧ σ' = ms σ (if 0 ≤ h ∧ h < 8 then va_up A (11 + h).toNat (A (11 + h).toNat + 1) else va_up A 8 (A 8 + 1)) F) := by
  refine sC_of rfl (Nat.le_of_ble_eq_true rfl) ?_
  show sE g_tt _ _ _ 0 [some (.ref 384), some (.int (iZ h))] [] (ms σ A F)
  refine q_aload_n dX7_hand_0 rfl rfl ?_
  refine sg7 (kf := 0) (v := .ref 385) dX7_hand_1 flX7_7 (show kd 384 = 7 from rfl) (by decide) rfl ?_
  refine q_iload_n dX7_hand_4 rfl rfl ?_
  refine s_callS (As := [.int (iZ h)]) (S := [.ref 385]) dX7_hand_5 okX7_isHouse mlX7_70 rfl (by omega) rfl (Nat.le_of_ble_eq_true rfl) (m_isHouse (d := d - 1) (by omega) (h := h) (by unfold inR at *; omega) (ms σ A F)) (fun v_ σ_ hq => ?_)
  obtain ⟨rfl, e9⟩ := hq
  have e9 := e9.symm
  subst e9
  show sE g_tt _ _ _ 8 [some (.ref 384), some (.int (iZ h))] [.int (iZ (if 0 ≤ h ∧ h < 8 then 1 else 0)), .ref 385] (ms σ A F)
  refine z_if_eq (tgt := 18) dX7_hand_8 (by decide) inR_01 (fun c_1 => ?_) (fun c_1 => ?_)
  · refine z_bipush dX7_hand_18 (by decide +kernel) ?_
    refine q_dup2 dX7_hand_20 rfl rfl ?_
    refine s_iald (n := 1583) (x := A 8) dX7_hand_21 (show kd 385 = 100 + 1583 from rfl) (by have := c_1; (try have := if01_1 c_1); omega) (by have := c_1; (try have := if01_1 c_1); omega) (by decide) rfl ?_
    refine z_iconst dX7_hand_22 ?_
    refine z_iadd dX7_hand_23 ?_
    refine ma_st dX7_hand_24 (by have := c_1; (try have := if01_1 c_1); omega) (by have := c_1; (try have := if01_1 c_1); omega) ?_
    exact s_vret dX7_hand_25 rfl ⟨rfl, by (first | rw [if_pos (if01_1 c_1)] | rw [if_neg (if01_0 c_1)]) <;> rfl⟩
  · refine z_bipush dX7_hand_11 (by decide +kernel) ?_
    refine q_iload_n dX7_hand_13 rfl rfl ?_
    refine z_iadd dX7_hand_14 ?_
    refine q_goto (tgt := 20) dX7_hand_15 (by decide) ?_
    refine q_dup2 dX7_hand_20 rfl rfl ?_
    refine s_iald (n := 1583) (x := A ((11 + h).toNat)) dX7_hand_21 (show kd 385 = 100 + 1583 from rfl) (by have := c_1; (try have := if01_1 c_1); omega) (by have := c_1; (try have := if01_1 c_1); omega) (by decide) rfl ?_
    refine z_iconst dX7_hand_22 ?_
    refine z_iadd dX7_hand_23 ?_
    refine ma_st dX7_hand_24 (by have := c_1; (try have := if01_1 c_1); omega) (by have := c_1; (try have := if01_1 c_1); omega) ?_
    exact s_vret dX7_hand_25 rfl ⟨rfl, by (first | rw [if_pos (if01_1 c_1)] | rw [if_neg (if01_0 c_1)]) <;> rfl⟩
set_option maxHeartbeats 4000000 in
set_option maxRecDepth 100000 in
theorem m_entry {d : Nat} {i : Nat} {w : Int} (h30 : i < 30) (hw : inR w) (σ : gS) (A F : Nat → Int) (hv : ∀ i, i < 30 → inR (A (1553 + i))) : sC mX7_entry d [.ref 384, .int (iZ (i : Int)), .int (iZ w)] (ms σ A F) (fun r σ' => r = some (.int (iZ (if w = 0 then (A (1553 + i)).tdiv 45 else if w = 1 then ((A (1553 + i)).tdiv 9).tmod 5 else (A (1553 + i)).tmod 9 - 1))) ∧ σ' = ms σ A F) := by
  refine sC_of rfl (Nat.le_of_ble_eq_true rfl) ?_
  show sE g_tt _ _ _ 0 [some (.ref 384), some (.int (iZ (i : Int))), some (.int (iZ w)), none] [] (ms σ A F)
  refine q_aload_n dX7_entry_0 rfl rfl ?_
  refine sg7 (kf := 0) (v := .ref 385) dX7_entry_1 flX7_7 (show kd 384 = 7 from rfl) (by decide) rfl ?_
  refine z_sipush dX7_entry_4 (by decide +kernel) ?_
  refine q_iload_n dX7_entry_7 rfl rfl ?_
  refine z_iadd dX7_entry_8 ?_
  refine s_iald (n := 1583) (x := A (1553 + i)) dX7_entry_9 (show kd 385 = 100 + 1583 from rfl) (by omega) (by omega) (by decide) rfl ?_
  refine q_istore_n dX7_entry_10 rfl (by decide) ?_
  show sE g_tt _ _ _ 11 [some (.ref 384), some (.int (iZ (i : Int))), some (.int (iZ w)), some (.int (iZ (A (1553 + i))))] [] (ms σ A F)
  refine q_iload_n dX7_entry_11 rfl rfl ?_
  refine z_if_ne (tgt := 22) dX7_entry_12 (by decide) (by unfold inR at *; omega) (fun c_1 => ?_) (fun c_1 => ?_)
  · refine q_iload_n dX7_entry_22 rfl rfl ?_
    refine z_iconst dX7_entry_23 ?_
    refine z_icmp_ne (tgt := 36) dX7_entry_24 (by decide) (by unfold inR at *; omega) (by unfold inR at *; omega) (fun c_2 => ?_) (fun c_2 => ?_)
    · refine q_iload_n dX7_entry_36 rfl rfl ?_
      refine z_bipush dX7_entry_37 (by decide +kernel) ?_
      refine z_irem dX7_entry_39 (hv _ h30) (by unfold inR at *; omega) (by decide) ?_
      refine z_iconst dX7_entry_40 ?_
      refine z_isub dX7_entry_41 ?_
      exact s_iretZ dX7_entry_42 rfl ⟨by congr 3; (first | rw [if_pos (by omega)] | (rw [if_neg (by omega), if_pos (by omega)]) | rw [if_neg (by omega), if_neg (by omega)]), rfl⟩
    · refine q_iload_n dX7_entry_27 rfl rfl ?_
      refine z_bipush dX7_entry_28 (by decide +kernel) ?_
      refine z_idiv dX7_entry_30 (hv _ h30) (by unfold inR at *; omega) (by decide) ?_
      refine z_iconst dX7_entry_31 ?_
      refine z_irem dX7_entry_32 (inR_tdiv (hv _ h30) (by decide)) (by unfold inR at *; omega) (by decide) ?_
      refine q_goto (tgt := 42) dX7_entry_33 (by decide) ?_
      exact s_iretZ dX7_entry_42 rfl ⟨by congr 3; (first | rw [if_pos (by omega)] | (rw [if_neg (by omega), if_pos (by omega)]) | rw [if_neg (by omega), if_neg (by omega)]), rfl⟩
  · refine q_iload_n dX7_entry_15 rfl rfl ?_
    refine z_bipush dX7_entry_16 (by decide +kernel) ?_
    refine z_idiv dX7_entry_18 (hv _ h30) (by unfold inR at *; omega) (by decide) ?_
    refine q_goto (tgt := 42) dX7_entry_19 (by decide) ?_
    exact s_iretZ dX7_entry_42 rfl ⟨by congr 3; (first | rw [if_pos (by omega)] | (rw [if_neg (by omega), if_pos (by omega)]) | rw [if_neg (by omega), if_neg (by omega)]), rfl⟩
