theorem gdh {c nt : Int} {A : Nat → Int} (g : gd c nt A) : ∀ p, p < 5 → inR (A (19 + p)) := fun p hp => by have := g.2.1 p hp; unfold inR; omega
theorem gdk {nt : Int} {A : Nat → Int} (g : gd 100000 nt A) : ∀ h : Int, 0 ≤ h ∧ h < 8 → inR (A (11 + h).toNat) := fun h hh => by
  have := kd_ran g (h := h.toNat) (by omega)
  rw [show (11 + h).toNat = 11 + h.toNat by omega]
  unfold inR; omega
/-- those of the first n of which p is so -/
def mBs (p : Nat → Prop) [DecidablePred p] : Nat → Nat
  | 0 => 0
  | n + 1 => mBs p n ||| (if p n then 2 ^ n else 0)
theorem mBs_y {p : Nat → Prop} [DecidablePred p] {n : Nat} (h : p n) : mBs p (n + 1) = mBs p n ||| 2 ^ n := by rw [mBs, if_pos h]
theorem mBs_n {p : Nat → Prop} [DecidablePred p] {n : Nat} (h : ¬ p n) : mBs p (n + 1) = mBs p n ||| 0 := by rw [mBs, if_neg h]
/-- the first of n with the greatest f above 0, none: -1 -/
def mArg (f : Nat → Int) : Nat → Int
  | 0 => -1
  | n + 1 => if (if mArg f n = -1 then 0 else f (mArg f n).toNat) < f n then (n : Int) else mArg f n
theorem mArg_spec (f : Nat → Int) : ∀ n, mArg f n = -1 ∨ ∃ b : Nat, b < n ∧ mArg f n = (b : Int) := by
  intro n
  induction n with
  | zero => exact Or.inl rfl
  | succ n ih =>
    rw [mArg]
    by_cases q : (if mArg f n = -1 then 0 else f (mArg f n).toNat) < f n
    · rw [if_pos q]; exact Or.inr ⟨n, by omega, rfl⟩
    · rw [if_neg q]
      rcases ih with e | ⟨b, hb, e⟩
      · exact Or.inl e
      · exact Or.inr ⟨b, by omega, e⟩
theorem mArg_0y {f : Nat → Int} {n : Nat} (e : mArg f n = -1) (h : 0 < f n) : mArg f (n + 1) = (n : Int) := by rw [mArg, if_pos e, if_pos h]
theorem mArg_0n {f : Nat → Int} {n : Nat} (e : mArg f n = -1) (h : ¬ 0 < f n) : mArg f (n + 1) = -1 := by rw [mArg, if_pos e, if_neg h, e]
theorem mArg_by {f : Nat → Int} {n b : Nat} (e : mArg f n = (b : Int)) (h : f b < f n) : mArg f (n + 1) = (n : Int) := by rw [mArg, e, if_neg (show ¬ (b : Int) = -1 by omega), Int.toNat_natCast, if_pos h]
theorem mArg_bn {f : Nat → Int} {n b : Nat} (e : mArg f n = (b : Int)) (h : ¬ f b < f n) : mArg f (n + 1) = (b : Int) := by rw [mArg, e, if_neg (show ¬ (b : Int) = -1 by omega), Int.toNat_natCast, if_neg h]
/-- without p -/
def mClr (m p : Nat) : Nat := if m.testBit p then m - 2 ^ p else m
theorem z_clr {Y : gY} {M : gM} {d : Nat} {b : gB} {Q : Option Value → gH → Prop} {pc : Nat} {L : List (Option Value)} {S : List Value} {h : gH} {m p : Nat} (hd : decode M.2.1 pc = .ok (.ixor, 1)) (hd2 : decode M.2.1 (pc + 1) = .ok (.iand, 1)) (hm : m < 32) (hp : p < 5) (k : gE Y M d b Q (pc + 2) L (.int (iZ ((mClr m p : Nat) : Int)) :: S) h) : gE Y M d b Q pc L (.int (iZ (-1)) :: .int (iZ ((2 ^ p : Nat) : Int)) :: .int (iZ (m : Int)) :: S) h := by
  have q : ∀ m : Nat, m < 32 → ∀ p : Nat, p < 5 → iZ (m : Int) &&& (iZ ((2 ^ p : Nat) : Int) ^^^ iZ (-1)) = iZ ((mClr m p : Nat) : Int) := by decide +kernel
  refine q_ixor hd (q_iand hd2 ?_)
  rw [q m hm p hp]
  exact k
theorem mPeo_32 {c nt : Int} {A : Nat → Int} (g : gd c nt A) (h : Int) : mPeo A h (A 0).toNat < 32 := by
  have q := mPeo_lt A h (A 0).toNat
  have q2 : 2 ^ (A 0).toNat ≤ 2 ^ 5 := Nat.pow_le_pow_right (by decide) (by have := g.1; omega)
  omega
/-- the houses that are ready -/
def mRset (W : wF) (A : Nat → Int) : Nat := mBs (fun h => wA W A h + 2 ≤ A (11 + h)) 8
def mEmp (A : Nat → Int) : Nat := mBs (fun (h : Nat) => mPeo A (h : Int) (A 0).toNat = 0) 8
set_option maxHeartbeats 4000000 in
set_option maxRecDepth 100000 in
theorem lp_ready {d : Nat} (hd : 6 ≤ d) (σ : gS) (A F : Nat → Int) {W : wF} {nt : Int} (hW : wOK (σ.2.1 387) 100000 nt W) (g : gd 100000 nt A) : ∀ (n : Nat) (k : Nat) (σ1 : gS), k ≤ 8 → eqS σ σ1 → 8 - (k : Int) < (n : Int) → sE g_tt mX7_ready d (fun r σ' => r = some (.int (iZ (((mRset W A : Nat) : Int)))) ∧ ∃ σ2, σ' = ms σ2 A F ∧ eqS σ σ2) 4 [some (.ref 384), some (.int (iZ ((mBs (fun h => wA W A h + 2 ≤ A (11 + h)) k : Nat) : Int))), some (.int (iZ (k : Int)))] [] (ms σ1 A F) := by
  intro n
  induction n with
  | zero =>
    intro k σ1 hk hE1 hn
    exact absurd hn (by omega)
  | succ n ih =>
    intro k σ1 hk hE1 hn
    have ww := fun h (hh : h < 8) => hW A (A 2) g g.2.2.2.2.2.2.2.2.2.1 g.2.2.2.2.2.2.2.2.2.2 h hh
    refine q_iload_n dX7_ready_4 rfl rfl ?_
    refine z_bipush dX7_ready_5 (by decide +kernel) ?_
    refine z_icmp_ge (tgt := 34) dX7_ready_7 (by decide) (by unfold inR at *; omega) (by unfold inR at *; omega) (fun c_1 => ?_) (fun c_1 => ?_)
    · refine q_iload_n dX7_ready_34 rfl rfl ?_
      exact s_iretZ dX7_ready_35 rfl ⟨by rw [show k = 8 by omega]; rfl, σ1, rfl, hE1⟩
    · refine q_iload_n dX7_ready_10 rfl rfl ?_
      refine q_aload_n dX7_ready_11 rfl rfl ?_
      refine q_iload_n dX7_ready_12 rfl rfl ?_
      refine s_callV (ci := 7) (a := 384) (As := [.int (iZ (k : Int))]) (S := [.int (iZ ((mBs (fun h => wA W A h + 2 ≤ A (11 + h)) k : Nat) : Int))]) dX7_ready_13 okX7_canThank mlX7_316 rfl (by omega) rfl (Nat.le_of_ble_eq_true rfl) (show kd 384 = 7 from rfl) (by decide) rfl (m_canThank (d := d - 1) (h := k) (by omega) (by omega) σ1 A F g.1.1 g.1.2 (gdh g) (gdk g) (by rw [hE1.2.1 387 (by decide) (by decide)]; exact (ww k (by omega)).1) (ww k (by omega)).2.1 (ww k (by omega)).2.2) (fun v_ σ_ hq => ?_)
      obtain ⟨rfl, σ2, e9, hE2⟩ := hq
      subst e9
      show sE g_tt _ _ _ 16 [some (.ref 384), some (.int (iZ ((mBs (fun h => wA W A h + 2 ≤ A (11 + h)) k : Nat) : Int))), some (.int (iZ (k : Int)))] [.int (iZ (if wA W A k + 2 ≤ A (11 + k) then 1 else 0)), .int (iZ ((mBs (fun h => wA W A h + 2 ≤ A (11 + h)) k : Nat) : Int))] (ms σ2 A F)
      refine z_if_eq (tgt := 25) dX7_ready_16 (by decide) inR_01 (fun c_2 => ?_) (fun c_2 => ?_)
      · have c_2 := if01_0 c_2
        refine z_iconst dX7_ready_25 ?_
        refine z_ior (m := mBs (fun h => wA W A h + 2 ≤ A (11 + h)) k) (k := 0) dX7_ready_26 ?_
        refine q_istore_n dX7_ready_27 rfl (by decide) ?_
        show sE g_tt _ _ _ 28 [some (.ref 384), some (.int (iZ (((mBs (fun h => wA W A h + 2 ≤ A (11 + h)) k) ||| 0 : Nat) : Int))), some (.int (iZ (k : Int)))] [] (ms σ2 A F)
        refine z_iinc dX7_ready_28 rfl (by decide) ?_
        show sE g_tt _ _ _ 31 [some (.ref 384), some (.int (iZ (((mBs (fun h => wA W A h + 2 ≤ A (11 + h)) k) ||| 0 : Nat) : Int))), some (.int (iZ ((k : Int) + 1)))] [] (ms σ2 A F)
        refine q_goto (tgt := 4) dX7_ready_31 (by decide) ?_
        have k9 := ih (k + 1) σ2 (by omega) (eqS_tr hE1 hE2) (by omega)
        rw [mBs_n (p := fun h => wA W A h + 2 ≤ A (11 + h)) (by assumption)] at k9
        exact k9
      · have c_2 := if01_1 c_2
        refine z_iconst dX7_ready_19 ?_
        refine q_iload_n dX7_ready_20 rfl rfl ?_
        refine z_ishl (x := 1) (k := k) dX7_ready_21 (by omega) ?_
        refine z_top (y := ((2 ^ k : Nat) : Int)) (by simp) ?_
        refine q_goto (tgt := 26) dX7_ready_22 (by decide) ?_
        refine z_ior (m := mBs (fun h => wA W A h + 2 ≤ A (11 + h)) k) (k := 2 ^ k) dX7_ready_26 ?_
        refine q_istore_n dX7_ready_27 rfl (by decide) ?_
        show sE g_tt _ _ _ 28 [some (.ref 384), some (.int (iZ (((mBs (fun h => wA W A h + 2 ≤ A (11 + h)) k) ||| (2 ^ k) : Nat) : Int))), some (.int (iZ (k : Int)))] [] (ms σ2 A F)
        refine z_iinc dX7_ready_28 rfl (by decide) ?_
        show sE g_tt _ _ _ 31 [some (.ref 384), some (.int (iZ (((mBs (fun h => wA W A h + 2 ≤ A (11 + h)) k) ||| (2 ^ k) : Nat) : Int))), some (.int (iZ ((k : Int) + 1)))] [] (ms σ2 A F)
        refine q_goto (tgt := 4) dX7_ready_31 (by decide) ?_
        have k9 := ih (k + 1) σ2 (by omega) (eqS_tr hE1 hE2) (by omega)
        rw [mBs_y (p := fun h => wA W A h + 2 ≤ A (11 + h)) (by assumption)] at k9
        exact k9
set_option maxHeartbeats 4000000 in
set_option maxRecDepth 100000 in
theorem m_ready {d : Nat} (hd : 6 ≤ d) (σ : gS) (A F : Nat → Int) {W : wF} {nt : Int} (hW : wOK (σ.2.1 387) 100000 nt W) (g : gd 100000 nt A) : sC mX7_ready d [.ref 384] (ms σ A F) (fun r σ' => r = some (.int (iZ (((mRset W A : Nat) : Int)))) ∧ ∃ σ2, σ' = ms σ2 A F ∧ eqS σ σ2) := by
  refine sC_of rfl (Nat.le_of_ble_eq_true rfl) ?_
  show sE g_tt _ _ _ 0 [some (.ref 384), none, none] [] (ms σ A F)
  refine z_iconst dX7_ready_0 ?_
  refine q_istore_n dX7_ready_1 rfl (by decide) ?_
  show sE g_tt _ _ _ 2 [some (.ref 384), some (.int (iZ 0)), none] [] (ms σ A F)
  refine z_iconst dX7_ready_2 ?_
  refine q_istore_n dX7_ready_3 rfl (by decide) ?_
  show sE g_tt _ _ _ 4 [some (.ref 384), some (.int (iZ 0)), some (.int (iZ 0))] [] (ms σ A F)
  exact lp_ready hd σ A F hW g 9 0 σ (by omega) (eqS_rf σ) (by omega)
set_option maxHeartbeats 4000000 in
set_option maxRecDepth 100000 in
theorem lp_empty {d : Nat} (hd : 1 ≤ d) (σ : gS) (A F : Nat → Int) {nt : Int} (g : gd 100000 nt A) : ∀ (n : Nat) (k : Nat), k ≤ 8 → 8 - (k : Int) < (n : Int) → sE g_tt mX7_empty d (fun r σ' => r = some (.int (iZ (((mEmp A : Nat) : Int)))) ∧ σ' = ms σ A F) 4 [some (.ref 384), some (.int (iZ ((mBs (fun (h : Nat) => mPeo A (h : Int) (A 0).toNat = 0) k : Nat) : Int))), some (.int (iZ (k : Int)))] [] (ms σ A F) := by
  intro n
  induction n with
  | zero =>
    intro k hk hn
    exact absurd hn (by omega)
  | succ n ih =>
    intro k hk hn
    refine q_iload_n dX7_empty_4 rfl rfl ?_
    refine z_bipush dX7_empty_5 (by decide +kernel) ?_
    refine z_icmp_ge (tgt := 34) dX7_empty_7 (by decide) (by unfold inR at *; omega) (by unfold inR at *; omega) (fun c_1 => ?_) (fun c_1 => ?_)
    · refine q_iload_n dX7_empty_34 rfl rfl ?_
      exact s_iretZ dX7_empty_35 rfl ⟨by rw [show k = 8 by omega]; rfl, rfl⟩
    · refine q_iload_n dX7_empty_10 rfl rfl ?_
      refine q_aload_n dX7_empty_11 rfl rfl ?_
      refine q_iload_n dX7_empty_12 rfl rfl ?_
      refine s_callV (ci := 7) (a := 384) (As := [.int (iZ (k : Int))]) (S := [.int (iZ ((mBs (fun (h : Nat) => mPeo A (h : Int) (A 0).toNat = 0) k : Nat) : Int))]) dX7_empty_13 okX7_peopleIn mlX7_274 rfl (by omega) rfl (Nat.le_of_ble_eq_true rfl) (show kd 384 = 7 from rfl) (by decide) rfl (m_peopleIn (d := d - 1) (h := (k : Int)) (by unfold inR at *; omega) σ A F g.1.1 g.1.2 (gdh g)) (fun v_ σ_ hq => ?_)
      obtain ⟨rfl, e9⟩ := hq
      have e9 := e9.symm
      subst e9
      show sE g_tt _ _ _ 16 [some (.ref 384), some (.int (iZ ((mBs (fun (h : Nat) => mPeo A (h : Int) (A 0).toNat = 0) k : Nat) : Int))), some (.int (iZ (k : Int)))] [.int (iZ ((mPeo A (k : Int) (A 0).toNat : Nat) : Int)), .int (iZ ((mBs (fun (h : Nat) => mPeo A (h : Int) (A 0).toNat = 0) k : Nat) : Int))] (ms σ A F)
      refine z_if_ne (tgt := 25) dX7_empty_16 (by decide) (by have := mPeo_32 g (k : Int); unfold inR; omega) (fun c_2 => ?_) (fun c_2 => ?_)
      · refine z_iconst dX7_empty_25 ?_
        refine z_ior (m := mBs (fun (h : Nat) => mPeo A (h : Int) (A 0).toNat = 0) k) (k := 0) dX7_empty_26 ?_
        refine q_istore_n dX7_empty_27 rfl (by decide) ?_
        show sE g_tt _ _ _ 28 [some (.ref 384), some (.int (iZ (((mBs (fun (h : Nat) => mPeo A (h : Int) (A 0).toNat = 0) k) ||| 0 : Nat) : Int))), some (.int (iZ (k : Int)))] [] (ms σ A F)
        refine z_iinc dX7_empty_28 rfl (by decide) ?_
        show sE g_tt _ _ _ 31 [some (.ref 384), some (.int (iZ (((mBs (fun (h : Nat) => mPeo A (h : Int) (A 0).toNat = 0) k) ||| 0 : Nat) : Int))), some (.int (iZ ((k : Int) + 1)))] [] (ms σ A F)
        refine q_goto (tgt := 4) dX7_empty_31 (by decide) ?_
        have k9 := ih (k + 1) (by omega) (by omega)
        rw [mBs_n (p := fun (h : Nat) => mPeo A (h : Int) (A 0).toNat = 0) (by show ¬ mPeo A (k : Int) (A 0).toNat = 0; omega)] at k9
        exact k9
      · refine z_iconst dX7_empty_19 ?_
        refine q_iload_n dX7_empty_20 rfl rfl ?_
        refine z_ishl (x := 1) (k := k) dX7_empty_21 (by omega) ?_
        refine z_top (y := ((2 ^ k : Nat) : Int)) (by simp) ?_
        refine q_goto (tgt := 26) dX7_empty_22 (by decide) ?_
        refine z_ior (m := mBs (fun (h : Nat) => mPeo A (h : Int) (A 0).toNat = 0) k) (k := 2 ^ k) dX7_empty_26 ?_
        refine q_istore_n dX7_empty_27 rfl (by decide) ?_
        show sE g_tt _ _ _ 28 [some (.ref 384), some (.int (iZ (((mBs (fun (h : Nat) => mPeo A (h : Int) (A 0).toNat = 0) k) ||| (2 ^ k) : Nat) : Int))), some (.int (iZ (k : Int)))] [] (ms σ A F)
        refine z_iinc dX7_empty_28 rfl (by decide) ?_
        show sE g_tt _ _ _ 31 [some (.ref 384), some (.int (iZ (((mBs (fun (h : Nat) => mPeo A (h : Int) (A 0).toNat = 0) k) ||| (2 ^ k) : Nat) : Int))), some (.int (iZ ((k : Int) + 1)))] [] (ms σ A F)
        refine q_goto (tgt := 4) dX7_empty_31 (by decide) ?_
        have k9 := ih (k + 1) (by omega) (by omega)
        rw [mBs_y (p := fun (h : Nat) => mPeo A (h : Int) (A 0).toNat = 0) (by show mPeo A (k : Int) (A 0).toNat = 0; omega)] at k9
        exact k9
set_option maxHeartbeats 4000000 in
set_option maxRecDepth 100000 in
theorem m_empty {d : Nat} (hd : 1 ≤ d) (σ : gS) (A F : Nat → Int) {nt : Int} (g : gd 100000 nt A) : sC mX7_empty d [.ref 384] (ms σ A F) (fun r σ' => r = some (.int (iZ (((mEmp A : Nat) : Int)))) ∧ σ' = ms σ A F) := by
  refine sC_of rfl (Nat.le_of_ble_eq_true rfl) ?_
  show sE g_tt _ _ _ 0 [some (.ref 384), none, none] [] (ms σ A F)
  refine z_iconst dX7_empty_0 ?_
  refine q_istore_n dX7_empty_1 rfl (by decide) ?_
  show sE g_tt _ _ _ 2 [some (.ref 384), some (.int (iZ 0)), none] [] (ms σ A F)
  refine z_iconst dX7_empty_2 ?_
  refine q_istore_n dX7_empty_3 rfl (by decide) ?_
  show sE g_tt _ _ _ 4 [some (.ref 384), some (.int (iZ 0)), some (.int (iZ 0))] [] (ms σ A F)
  exact lp_empty hd σ A F g 9 0 (by omega) (by omega)
/-- who is beside person p -/
def mBes (A : Nat → Int) (p : Nat) : Nat := if A (19 + p) = -1 then 0 else mClr (mPeo A (A (19 + p)) (A 0).toNat ||| (if 0 < A (19 + p) then mPeo A (A (19 + p) - 1) (A 0).toNat else 0) ||| mPeo A (A (19 + p) + 1) (A 0).toNat) p
theorem or_32 {a b : Nat} (h : a < 32) (h2 : b < 32) : a ||| b < 32 := Nat.or_lt_two_pow (n := 5) h h2
set_option maxHeartbeats 4000000 in
set_option maxRecDepth 100000 in
theorem m_besideOf {d p : Nat} (hd : 1 ≤ d) (hp : p < 5) (σ : gS) (A F : Nat → Int) {nt : Int} (g : gd 100000 nt A) : sC mX7_besideOf d [.ref 384, .int (iZ (p : Int))] (ms σ A F) (fun r σ' => r = some (.int (iZ (((mBes A p : Nat) : Int)))) ∧ σ' = ms σ A F) := by
  have gp := g.2.1 p hp
  refine sC_of rfl (Nat.le_of_ble_eq_true rfl) ?_
  show sE g_tt _ _ _ 0 [some (.ref 384), some (.int (iZ (p : Int))), none] [] (ms σ A F)
  refine q_aload_n dX7_besideOf_0 rfl rfl ?_
  refine sg7 (kf := 0) (v := .ref 385) dX7_besideOf_1 flX7_7 (show kd 384 = 7 from rfl) (by decide) rfl ?_
  refine z_bipush dX7_besideOf_4 (by decide +kernel) ?_
  refine q_iload_n dX7_besideOf_6 rfl rfl ?_
  refine z_iadd dX7_besideOf_7 ?_
  refine s_iald (n := 1583) (x := A (19 + p)) dX7_besideOf_8 (show kd 385 = 100 + 1583 from rfl) (by omega) (by omega) (by decide) rfl ?_
  refine q_istore_n dX7_besideOf_9 rfl (by decide) ?_
  show sE g_tt _ _ _ 10 [some (.ref 384), some (.int (iZ (p : Int))), some (.int (iZ (A (19 + p))))] [] (ms σ A F)
  refine q_iload_n dX7_besideOf_10 rfl rfl ?_
  refine z_iconst dX7_besideOf_11 ?_
  refine z_icmp_ne (tgt := 19) dX7_besideOf_12 (by decide) (by unfold inR at *; omega) (by unfold inR at *; omega) (fun c_1 => ?_) (fun c_1 => ?_)
  · refine q_aload_n dX7_besideOf_19 rfl rfl ?_
    refine q_iload_n dX7_besideOf_20 rfl rfl ?_
    refine s_callV (ci := 7) (a := 384) (As := [.int (iZ (A (19 + p)))]) (S := []) dX7_besideOf_21 okX7_peopleIn mlX7_274 rfl (by omega) rfl (Nat.le_of_ble_eq_true rfl) (show kd 384 = 7 from rfl) (by decide) rfl (m_peopleIn (d := d - 1) (h := A (19 + p)) (by unfold inR at *; omega) σ A F g.1.1 g.1.2 (gdh g)) (fun v_ σ_ hq => ?_)
    obtain ⟨rfl, e9⟩ := hq
    have e9 := e9.symm
    subst e9
    show sE g_tt _ _ _ 24 [some (.ref 384), some (.int (iZ (p : Int))), some (.int (iZ (A (19 + p))))] [.int (iZ ((mPeo A (A (19 + p)) (A 0).toNat : Nat) : Int))] (ms σ A F)
    refine q_iload_n dX7_besideOf_24 rfl rfl ?_
    refine z_if_le (tgt := 38) dX7_besideOf_25 (by decide) (by unfold inR at *; omega) (fun c_2 => ?_) (fun c_2 => ?_)
    · refine z_iconst dX7_besideOf_38 ?_
      refine z_ior (m := mPeo A (A (19 + p)) (A 0).toNat) (k := 0) dX7_besideOf_39 ?_
      refine q_aload_n dX7_besideOf_40 rfl rfl ?_
      refine q_iload_n dX7_besideOf_41 rfl rfl ?_
      refine z_iconst dX7_besideOf_42 ?_
      refine z_iadd dX7_besideOf_43 ?_
      refine s_callV (ci := 7) (a := 384) (As := [.int (iZ ((A (19 + p)) + 1))]) (S := [.int (iZ (((mPeo A (A (19 + p)) (A 0).toNat) ||| 0 : Nat) : Int))]) dX7_besideOf_44 okX7_peopleIn mlX7_274 rfl (by omega) rfl (Nat.le_of_ble_eq_true rfl) (show kd 384 = 7 from rfl) (by decide) rfl (m_peopleIn (d := d - 1) (h := (A (19 + p)) + 1) (by unfold inR at *; omega) σ A F g.1.1 g.1.2 (gdh g)) (fun v_ σ_ hq => ?_)
      obtain ⟨rfl, e9⟩ := hq
      have e9 := e9.symm
      subst e9
      show sE g_tt _ _ _ 47 [some (.ref 384), some (.int (iZ (p : Int))), some (.int (iZ (A (19 + p))))] [.int (iZ ((mPeo A ((A (19 + p)) + 1) (A 0).toNat : Nat) : Int)), .int (iZ (((mPeo A (A (19 + p)) (A 0).toNat) ||| 0 : Nat) : Int))] (ms σ A F)
      refine z_ior (m := (mPeo A (A (19 + p)) (A 0).toNat) ||| 0) (k := mPeo A ((A (19 + p)) + 1) (A 0).toNat) dX7_besideOf_47 ?_
      refine z_iconst dX7_besideOf_48 ?_
      refine q_iload_n dX7_besideOf_49 rfl rfl ?_
      refine z_ishl (x := 1) (k := p) dX7_besideOf_50 (by omega) ?_
      refine z_top (y := ((2 ^ p : Nat) : Int)) (by simp) ?_
      refine z_iconst dX7_besideOf_51 ?_
      refine z_clr (m := ((mPeo A (A (19 + p)) (A 0).toNat) ||| 0) ||| (mPeo A ((A (19 + p)) + 1) (A 0).toNat)) (p := p) dX7_besideOf_52 dX7_besideOf_53 (by refine or_32 (or_32 (mPeo_32 g _) ?_) (mPeo_32 g _); first | exact mPeo_32 g _ | decide) (by omega) ?_
      exact s_iretZ dX7_besideOf_54 rfl ⟨by unfold mBes; congr 3; (repeat (first | rw [if_pos (by omega)] | rw [if_neg (by omega)])); (try rfl), rfl⟩
    · refine q_aload_n dX7_besideOf_28 rfl rfl ?_
      refine q_iload_n dX7_besideOf_29 rfl rfl ?_
      refine z_iconst dX7_besideOf_30 ?_
      refine z_isub dX7_besideOf_31 ?_
      refine s_callV (ci := 7) (a := 384) (As := [.int (iZ ((A (19 + p)) - 1))]) (S := [.int (iZ ((mPeo A (A (19 + p)) (A 0).toNat : Nat) : Int))]) dX7_besideOf_32 okX7_peopleIn mlX7_274 rfl (by omega) rfl (Nat.le_of_ble_eq_true rfl) (show kd 384 = 7 from rfl) (by decide) rfl (m_peopleIn (d := d - 1) (h := (A (19 + p)) - 1) (by unfold inR at *; omega) σ A F g.1.1 g.1.2 (gdh g)) (fun v_ σ_ hq => ?_)
      obtain ⟨rfl, e9⟩ := hq
      have e9 := e9.symm
      subst e9
      show sE g_tt _ _ _ 35 [some (.ref 384), some (.int (iZ (p : Int))), some (.int (iZ (A (19 + p))))] [.int (iZ ((mPeo A ((A (19 + p)) - 1) (A 0).toNat : Nat) : Int)), .int (iZ ((mPeo A (A (19 + p)) (A 0).toNat : Nat) : Int))] (ms σ A F)
      refine q_goto (tgt := 39) dX7_besideOf_35 (by decide) ?_
      refine z_ior (m := mPeo A (A (19 + p)) (A 0).toNat) (k := mPeo A ((A (19 + p)) - 1) (A 0).toNat) dX7_besideOf_39 ?_
      refine q_aload_n dX7_besideOf_40 rfl rfl ?_
      refine q_iload_n dX7_besideOf_41 rfl rfl ?_
      refine z_iconst dX7_besideOf_42 ?_
      refine z_iadd dX7_besideOf_43 ?_
      refine s_callV (ci := 7) (a := 384) (As := [.int (iZ ((A (19 + p)) + 1))]) (S := [.int (iZ (((mPeo A (A (19 + p)) (A 0).toNat) ||| (mPeo A ((A (19 + p)) - 1) (A 0).toNat) : Nat) : Int))]) dX7_besideOf_44 okX7_peopleIn mlX7_274 rfl (by omega) rfl (Nat.le_of_ble_eq_true rfl) (show kd 384 = 7 from rfl) (by decide) rfl (m_peopleIn (d := d - 1) (h := (A (19 + p)) + 1) (by unfold inR at *; omega) σ A F g.1.1 g.1.2 (gdh g)) (fun v_ σ_ hq => ?_)
      obtain ⟨rfl, e9⟩ := hq
      have e9 := e9.symm
      subst e9
      show sE g_tt _ _ _ 47 [some (.ref 384), some (.int (iZ (p : Int))), some (.int (iZ (A (19 + p))))] [.int (iZ ((mPeo A ((A (19 + p)) + 1) (A 0).toNat : Nat) : Int)), .int (iZ (((mPeo A (A (19 + p)) (A 0).toNat) ||| (mPeo A ((A (19 + p)) - 1) (A 0).toNat) : Nat) : Int))] (ms σ A F)
      refine z_ior (m := (mPeo A (A (19 + p)) (A 0).toNat) ||| (mPeo A ((A (19 + p)) - 1) (A 0).toNat)) (k := mPeo A ((A (19 + p)) + 1) (A 0).toNat) dX7_besideOf_47 ?_
      refine z_iconst dX7_besideOf_48 ?_
      refine q_iload_n dX7_besideOf_49 rfl rfl ?_
      refine z_ishl (x := 1) (k := p) dX7_besideOf_50 (by omega) ?_
      refine z_top (y := ((2 ^ p : Nat) : Int)) (by simp) ?_
      refine z_iconst dX7_besideOf_51 ?_
      refine z_clr (m := ((mPeo A (A (19 + p)) (A 0).toNat) ||| (mPeo A ((A (19 + p)) - 1) (A 0).toNat)) ||| (mPeo A ((A (19 + p)) + 1) (A 0).toNat)) (p := p) dX7_besideOf_52 dX7_besideOf_53 (by refine or_32 (or_32 (mPeo_32 g _) ?_) (mPeo_32 g _); first | exact mPeo_32 g _ | decide) (by omega) ?_
      exact s_iretZ dX7_besideOf_54 rfl ⟨by unfold mBes; congr 3; (repeat (first | rw [if_pos (by omega)] | rw [if_neg (by omega)])); (try rfl), rfl⟩
  · refine z_iconst dX7_besideOf_15 ?_
    refine q_goto (tgt := 54) dX7_besideOf_16 (by decide) ?_
    exact s_iretZ dX7_besideOf_54 rfl ⟨by unfold mBes; congr 3; (repeat (first | rw [if_pos (by omega)] | rw [if_neg (by omega)])); (try rfl), rfl⟩
set_option maxHeartbeats 4000000 in
set_option maxRecDepth 100000 in
theorem m_beside {d : Nat} (hd : 2 ≤ d) {p : Int} (hp : inR p) (σ : gS) (A F : Nat → Int) {nt : Int} (g : gd 100000 nt A) : sC mX7_beside d [.ref 384, .int (iZ p)] (ms σ A F) (fun r σ' => r = some (.int (iZ (if 0 ≤ p ∧ p < A 0 then ((mBes A p.toNat : Nat) : Int) else -1))) ∧ σ' = ms σ A F) := by
  have g0 := g.1
  refine sC_of rfl (Nat.le_of_ble_eq_true rfl) ?_
  show sE g_tt _ _ _ 0 [some (.ref 384), some (.int (iZ p))] [] (ms σ A F)
  refine q_aload_n dX7_beside_0 rfl rfl ?_
  refine q_iload_n dX7_beside_1 rfl rfl ?_
  refine s_callV (ci := 7) (a := 384) (As := [.int (iZ p)]) (S := []) dX7_beside_2 okX7_isPerson mlX7_367 rfl (by omega) rfl (Nat.le_of_ble_eq_true rfl) (show kd 384 = 7 from rfl) (by decide) rfl (m_isPerson (d := d - 1) (by omega) (p := p) (by unfold inR at *; omega) σ A F (by omega) (by omega)) (fun v_ σ_ hq => ?_)
  obtain ⟨rfl, e9⟩ := hq
  have e9 := e9.symm
  subst e9
  show sE g_tt _ _ _ 5 [some (.ref 384), some (.int (iZ p))] [.int (iZ (if 0 ≤ p ∧ p < A 0 then 1 else 0))] (ms σ A F)
  refine z_if_eq (tgt := 16) dX7_beside_5 (by decide) inR_01 (fun c_1 => ?_) (fun c_1 => ?_)
  · have c_1 := if01_0 c_1
    refine z_iconst dX7_beside_16 ?_
    exact s_iretZ dX7_beside_17 rfl ⟨by first | (congr 3; (repeat (first | rw [if_pos (by omega)] | rw [if_neg (by omega)])); done) | (exfalso; omega), by (first | rfl | ((repeat (first | rw [if_pos (by omega)] | rw [if_neg (by omega)])); (try rfl)))⟩
  · have c_1 := if01_1 c_1
    refine q_aload_n dX7_beside_8 rfl rfl ?_
    refine q_iload_n dX7_beside_9 rfl rfl ?_
    refine z_top (y := ((p.toNat : Nat) : Int)) (by omega) ?_
    refine s_callV (ci := 7) (a := 384) (As := [.int (iZ ((p.toNat : Nat) : Int))]) (S := []) dX7_beside_10 okX7_besideOf mlX7_379 rfl (by omega) rfl (Nat.le_of_ble_eq_true rfl) (show kd 384 = 7 from rfl) (by decide) rfl (m_besideOf (d := d - 1) (p := p.toNat) (by omega) (by omega) σ A F g) (fun v_ σ_ hq => ?_)
    obtain ⟨rfl, e9⟩ := hq
    have e9 := e9.symm
    subst e9
    show sE g_tt _ _ _ 13 [some (.ref 384), some (.int (iZ p))] [.int (iZ ((mBes A p.toNat : Nat) : Int))] (ms σ A F)
    refine q_goto (tgt := 17) dX7_beside_13 (by decide) ?_
    exact s_iretZ dX7_beside_17 rfl ⟨by first | (congr 3; (repeat (first | rw [if_pos (by omega)] | rw [if_neg (by omega)])); done) | (exfalso; omega), by (first | rfl | ((repeat (first | rw [if_pos (by omega)] | rw [if_neg (by omega)])); (try rfl)))⟩
theorem mClr_32 {m p : Nat} (h : m < 32) : mClr m p < 32 := by
  unfold mClr
  split
  · exact Nat.lt_of_le_of_lt (Nat.sub_le _ _) h
  · exact h
def mAlo (A : Nat → Int) : Nat := mBs (fun p => A (19 + p) ≠ -1 ∧ mBes A p = 0) (A 0).toNat
theorem mBes_32 {c nt : Int} {A : Nat → Int} (g : gd c nt A) (p : Nat) : mBes A p < 32 := by
  unfold mBes
  split
  · decide
  · have q := or_32 (or_32 (mPeo_32 g (A (19 + p))) (show (if 0 < A (19 + p) then mPeo A (A (19 + p) - 1) (A 0).toNat else 0) < 32 by split; exact mPeo_32 g _; decide)) (mPeo_32 g (A (19 + p) + 1))
    exact mClr_32 q
set_option maxHeartbeats 4000000 in
set_option maxRecDepth 100000 in
theorem lp_alone {d : Nat} (hd : 2 ≤ d) (σ : gS) (A F : Nat → Int) {nt : Int} (g : gd 100000 nt A) : ∀ (n : Nat) (k : Nat), (k : Int) ≤ A 0 → A 0 - (k : Int) < (n : Int) → sE g_tt mX7_alone d (fun r σ' => r = some (.int (iZ (((mAlo A : Nat) : Int)))) ∧ σ' = ms σ A F) 4 [some (.ref 384), some (.int (iZ ((mBs (fun p => A (19 + p) ≠ -1 ∧ mBes A p = 0) k : Nat) : Int))), some (.int (iZ (k : Int)))] [] (ms σ A F) := by
  intro n
  induction n with
  | zero =>
    intro k hk hn
    exact absurd hn (by omega)
  | succ n ih =>
    intro k hk hn
    have g0 := g.1
    refine q_iload_n dX7_alone_4 rfl rfl ?_
    refine q_aload_n dX7_alone_5 rfl rfl ?_
    refine sg7 (kf := 0) (v := .ref 385) dX7_alone_6 flX7_7 (show kd 384 = 7 from rfl) (by decide) rfl ?_
    refine z_iconst dX7_alone_9 ?_
    refine s_iald (n := 1583) (x := A 0) dX7_alone_10 (show kd 385 = 100 + 1583 from rfl) (by omega) (by omega) (by decide) rfl ?_
    refine z_icmp_ge (tgt := 51) dX7_alone_11 (by decide) (by unfold inR at *; omega) (by unfold inR at *; omega) (fun c_1 => ?_) (fun c_1 => ?_)
    · refine q_iload_n dX7_alone_51 rfl rfl ?_
      exact s_iretZ dX7_alone_52 rfl ⟨by rw [show k = (A 0).toNat by omega]; rfl, rfl⟩
    · refine q_iload_n dX7_alone_14 rfl rfl ?_
      refine q_aload_n dX7_alone_15 rfl rfl ?_
      refine sg7 (kf := 0) (v := .ref 385) dX7_alone_16 flX7_7 (show kd 384 = 7 from rfl) (by decide) rfl ?_
      refine z_bipush dX7_alone_19 (by decide +kernel) ?_
      refine q_iload_n dX7_alone_21 rfl rfl ?_
      refine z_iadd dX7_alone_22 ?_
      refine s_iald (n := 1583) (x := A (19 + k)) dX7_alone_23 (show kd 385 = 100 + 1583 from rfl) (by omega) (by omega) (by decide) rfl ?_
      refine z_iconst dX7_alone_24 ?_
      refine z_icmp_eq (tgt := 42) dX7_alone_25 (by decide) (gdh g _ (by omega)) (by unfold inR at *; omega) (fun c_2 => ?_) (fun c_2 => ?_)
      · refine z_iconst dX7_alone_42 ?_
        refine z_ior (m := mBs (fun p => A (19 + p) ≠ -1 ∧ mBes A p = 0) k) (k := 0) dX7_alone_43 ?_
        refine q_istore_n dX7_alone_44 rfl (by decide) ?_
        show sE g_tt _ _ _ 45 [some (.ref 384), some (.int (iZ (((mBs (fun p => A (19 + p) ≠ -1 ∧ mBes A p = 0) k) ||| 0 : Nat) : Int))), some (.int (iZ (k : Int)))] [] (ms σ A F)
        refine z_iinc dX7_alone_45 rfl (by decide) ?_
        show sE g_tt _ _ _ 48 [some (.ref 384), some (.int (iZ (((mBs (fun p => A (19 + p) ≠ -1 ∧ mBes A p = 0) k) ||| 0 : Nat) : Int))), some (.int (iZ ((k : Int) + 1)))] [] (ms σ A F)
        refine q_goto (tgt := 4) dX7_alone_48 (by decide) ?_
        have k9 := ih (k + 1) (by omega) (by omega)
        rw [mBs_n (p := fun p => A (19 + p) ≠ -1 ∧ mBes A p = 0) (by show ¬ (A (19 + k) ≠ -1 ∧ mBes A k = 0); omega)] at k9
        exact k9
      · refine q_aload_n dX7_alone_28 rfl rfl ?_
        refine q_iload_n dX7_alone_29 rfl rfl ?_
        refine s_callV (ci := 7) (a := 384) (As := [.int (iZ (k : Int))]) (S := [.int (iZ ((mBs (fun p => A (19 + p) ≠ -1 ∧ mBes A p = 0) k : Nat) : Int))]) dX7_alone_30 okX7_besideOf mlX7_379 rfl (by omega) rfl (Nat.le_of_ble_eq_true rfl) (show kd 384 = 7 from rfl) (by decide) rfl (m_besideOf (d := d - 1) (p := k) (by omega) (by omega) σ A F g) (fun v_ σ_ hq => ?_)
        obtain ⟨rfl, e9⟩ := hq
        have e9 := e9.symm
        subst e9
        show sE g_tt _ _ _ 33 [some (.ref 384), some (.int (iZ ((mBs (fun p => A (19 + p) ≠ -1 ∧ mBes A p = 0) k : Nat) : Int))), some (.int (iZ (k : Int)))] [.int (iZ ((mBes A k : Nat) : Int)), .int (iZ ((mBs (fun p => A (19 + p) ≠ -1 ∧ mBes A p = 0) k : Nat) : Int))] (ms σ A F)
        refine z_if_ne (tgt := 42) dX7_alone_33 (by decide) (by have := mBes_32 g k; unfold inR; omega) (fun c_3 => ?_) (fun c_3 => ?_)
        · refine z_iconst dX7_alone_42 ?_
          refine z_ior (m := mBs (fun p => A (19 + p) ≠ -1 ∧ mBes A p = 0) k) (k := 0) dX7_alone_43 ?_
          refine q_istore_n dX7_alone_44 rfl (by decide) ?_
          show sE g_tt _ _ _ 45 [some (.ref 384), some (.int (iZ (((mBs (fun p => A (19 + p) ≠ -1 ∧ mBes A p = 0) k) ||| 0 : Nat) : Int))), some (.int (iZ (k : Int)))] [] (ms σ A F)
          refine z_iinc dX7_alone_45 rfl (by decide) ?_
          show sE g_tt _ _ _ 48 [some (.ref 384), some (.int (iZ (((mBs (fun p => A (19 + p) ≠ -1 ∧ mBes A p = 0) k) ||| 0 : Nat) : Int))), some (.int (iZ ((k : Int) + 1)))] [] (ms σ A F)
          refine q_goto (tgt := 4) dX7_alone_48 (by decide) ?_
          have k9 := ih (k + 1) (by omega) (by omega)
          rw [mBs_n (p := fun p => A (19 + p) ≠ -1 ∧ mBes A p = 0) (by show ¬ (A (19 + k) ≠ -1 ∧ mBes A k = 0); omega)] at k9
          exact k9
        · refine z_iconst dX7_alone_36 ?_
          refine q_iload_n dX7_alone_37 rfl rfl ?_
          refine z_ishl (x := 1) (k := k) dX7_alone_38 (by omega) ?_
          refine z_top (y := ((2 ^ k : Nat) : Int)) (by simp) ?_
          refine q_goto (tgt := 43) dX7_alone_39 (by decide) ?_
          refine z_ior (m := mBs (fun p => A (19 + p) ≠ -1 ∧ mBes A p = 0) k) (k := 2 ^ k) dX7_alone_43 ?_
          refine q_istore_n dX7_alone_44 rfl (by decide) ?_
          show sE g_tt _ _ _ 45 [some (.ref 384), some (.int (iZ (((mBs (fun p => A (19 + p) ≠ -1 ∧ mBes A p = 0) k) ||| (2 ^ k) : Nat) : Int))), some (.int (iZ (k : Int)))] [] (ms σ A F)
          refine z_iinc dX7_alone_45 rfl (by decide) ?_
          show sE g_tt _ _ _ 48 [some (.ref 384), some (.int (iZ (((mBs (fun p => A (19 + p) ≠ -1 ∧ mBes A p = 0) k) ||| (2 ^ k) : Nat) : Int))), some (.int (iZ ((k : Int) + 1)))] [] (ms σ A F)
          refine q_goto (tgt := 4) dX7_alone_48 (by decide) ?_
          have k9 := ih (k + 1) (by omega) (by omega)
          rw [mBs_y (p := fun p => A (19 + p) ≠ -1 ∧ mBes A p = 0) (by show (A (19 + k) ≠ -1 ∧ mBes A k = 0); omega)] at k9
          exact k9
set_option maxHeartbeats 4000000 in
set_option maxRecDepth 100000 in
theorem m_alone {d : Nat} (hd : 2 ≤ d) (σ : gS) (A F : Nat → Int) {nt : Int} (g : gd 100000 nt A) : sC mX7_alone d [.ref 384] (ms σ A F) (fun r σ' => r = some (.int (iZ (((mAlo A : Nat) : Int)))) ∧ σ' = ms σ A F) := by
  refine sC_of rfl (Nat.le_of_ble_eq_true rfl) ?_
  show sE g_tt _ _ _ 0 [some (.ref 384), none, none] [] (ms σ A F)
  refine z_iconst dX7_alone_0 ?_
  refine q_istore_n dX7_alone_1 rfl (by decide) ?_
  show sE g_tt _ _ _ 2 [some (.ref 384), some (.int (iZ 0)), none] [] (ms σ A F)
  refine z_iconst dX7_alone_2 ?_
  refine q_istore_n dX7_alone_3 rfl (by decide) ?_
  show sE g_tt _ _ _ 4 [some (.ref 384), some (.int (iZ 0)), some (.int (iZ 0))] [] (ms σ A F)
  exact lp_alone hd σ A F g 6 0 (by have := g.1; omega) (by have := g.1; omega)
set_option maxHeartbeats 4000000 in
set_option maxRecDepth 100000 in
theorem lp_kindest {d : Nat} (σ : gS) (A F : Nat → Int) {nt : Int} (g : gd 100000 nt A) : ∀ (n : Nat) (k : Nat), (k : Int) ≤ 8 → 8 - (k : Int) < (n : Int) → sE g_tt mX7_kindest d (fun r σ' => r = some (.int (iZ (mArg (fun h => A (11 + h)) 8))) ∧ σ' = ms σ A F) 4 [some (.ref 384), some (.int (iZ (mArg (fun h => A (11 + h)) k))), some (.int (iZ (k : Int)))] [] (ms σ A F) := by
  intro n
  induction n with
  | zero =>
    intro k hk hn
    exact absurd hn (by omega)
  | succ n ih =>
    intro k hk hn
    have g0 := g.1
    rcases mArg_spec (fun h => A (11 + h)) k with e | ⟨b, hb, e⟩
    · rw [e]
      refine q_iload_n dX7_kindest_4 rfl rfl ?_
      refine z_bipush dX7_kindest_5 (by decide +kernel) ?_
      refine z_icmp_ge (tgt := 48) dX7_kindest_7 (by decide) (by unfold inR at *; omega) (by unfold inR at *; omega) (fun c_1 => ?_) (fun c_1 => ?_)
      · refine q_iload_n dX7_kindest_48 rfl rfl ?_
        exact s_iretZ dX7_kindest_49 rfl ⟨by rw [← show k = 8 by omega]; exact congrArg (fun x => some (Value.int (iZ x))) e.symm, rfl⟩
      · refine q_aload_n dX7_kindest_10 rfl rfl ?_
        refine sg7 (kf := 0) (v := .ref 385) dX7_kindest_11 flX7_7 (show kd 384 = 7 from rfl) (by decide) rfl ?_
        refine z_bipush dX7_kindest_14 (by decide +kernel) ?_
        refine q_iload_n dX7_kindest_16 rfl rfl ?_
        refine z_iadd dX7_kindest_17 ?_
        refine s_iald (n := 1583) (x := A (11 + k)) dX7_kindest_18 (show kd 385 = 100 + 1583 from rfl) (by omega) (by omega) (by decide) rfl ?_
        refine q_iload_n dX7_kindest_19 rfl rfl ?_
        refine z_iconst dX7_kindest_20 ?_
        refine z_icmp_ne (tgt := 28) dX7_kindest_21 (by decide) (by unfold inR at *; omega) (by unfold inR at *; omega) (fun c_2 => ?_) (fun c_2 => ?_)
        · exfalso
          revert c_2
          decide
        · refine z_iconst dX7_kindest_24 ?_
          refine q_goto (tgt := 37) dX7_kindest_25 (by decide) ?_
          refine z_icmp_le (tgt := 42) dX7_kindest_37 (by decide) (by have := kd_ran g (show k < 8 by omega); unfold inR; omega) (by unfold inR at *; omega) (fun c_3 => ?_) (fun c_3 => ?_)
          · refine z_iinc dX7_kindest_42 rfl (by decide) ?_
            show sE g_tt _ _ _ 45 [some (.ref 384), some (.int (iZ (-1))), some (.int (iZ ((k : Int) + 1)))] [] (ms σ A F)
            refine q_goto (tgt := 4) dX7_kindest_45 (by decide) ?_
            have k9 := ih (k + 1) (by omega) (by omega)
            rw [mArg_0n (f := fun h => A (11 + h)) e (by show ¬ 0 < (fun h => A (11 + h)) k; simp only []; omega)] at k9
            exact k9
          · refine q_iload_n dX7_kindest_40 rfl rfl ?_
            refine q_istore_n dX7_kindest_41 rfl (by decide) ?_
            show sE g_tt _ _ _ 42 [some (.ref 384), some (.int (iZ (k : Int))), some (.int (iZ (k : Int)))] [] (ms σ A F)
            refine z_iinc dX7_kindest_42 rfl (by decide) ?_
            show sE g_tt _ _ _ 45 [some (.ref 384), some (.int (iZ (k : Int))), some (.int (iZ ((k : Int) + 1)))] [] (ms σ A F)
            refine q_goto (tgt := 4) dX7_kindest_45 (by decide) ?_
            have k9 := ih (k + 1) (by omega) (by omega)
            rw [mArg_0y (f := fun h => A (11 + h)) e (by show 0 < (fun h => A (11 + h)) k; simp only []; omega)] at k9
            exact k9
    · rw [e]
      refine q_iload_n dX7_kindest_4 rfl rfl ?_
      refine z_bipush dX7_kindest_5 (by decide +kernel) ?_
      refine z_icmp_ge (tgt := 48) dX7_kindest_7 (by decide) (by unfold inR at *; omega) (by unfold inR at *; omega) (fun c_1 => ?_) (fun c_1 => ?_)
      · refine q_iload_n dX7_kindest_48 rfl rfl ?_
        exact s_iretZ dX7_kindest_49 rfl ⟨by rw [← show k = 8 by omega]; exact congrArg (fun x => some (Value.int (iZ x))) e.symm, rfl⟩
      · refine q_aload_n dX7_kindest_10 rfl rfl ?_
        refine sg7 (kf := 0) (v := .ref 385) dX7_kindest_11 flX7_7 (show kd 384 = 7 from rfl) (by decide) rfl ?_
        refine z_bipush dX7_kindest_14 (by decide +kernel) ?_
        refine q_iload_n dX7_kindest_16 rfl rfl ?_
        refine z_iadd dX7_kindest_17 ?_
        refine s_iald (n := 1583) (x := A (11 + k)) dX7_kindest_18 (show kd 385 = 100 + 1583 from rfl) (by omega) (by omega) (by decide) rfl ?_
        refine q_iload_n dX7_kindest_19 rfl rfl ?_
        refine z_iconst dX7_kindest_20 ?_
        refine z_icmp_ne (tgt := 28) dX7_kindest_21 (by decide) (by unfold inR at *; omega) (by unfold inR at *; omega) (fun c_2 => ?_) (fun c_2 => ?_)
        · refine q_aload_n dX7_kindest_28 rfl rfl ?_
          refine sg7 (kf := 0) (v := .ref 385) dX7_kindest_29 flX7_7 (show kd 384 = 7 from rfl) (by decide) rfl ?_
          refine z_bipush dX7_kindest_32 (by decide +kernel) ?_
          refine q_iload_n dX7_kindest_34 rfl rfl ?_
          refine z_iadd dX7_kindest_35 ?_
          refine s_iald (n := 1583) (x := A (11 + b)) dX7_kindest_36 (show kd 385 = 100 + 1583 from rfl) (by omega) (by omega) (by decide) rfl ?_
          refine z_icmp_le (tgt := 42) dX7_kindest_37 (by decide) (by have := kd_ran g (show k < 8 by omega); unfold inR; omega) (by have := kd_ran g (show b < 8 by omega); unfold inR; omega) (fun c_3 => ?_) (fun c_3 => ?_)
          · refine z_iinc dX7_kindest_42 rfl (by decide) ?_
            show sE g_tt _ _ _ 45 [some (.ref 384), some (.int (iZ (b : Int))), some (.int (iZ ((k : Int) + 1)))] [] (ms σ A F)
            refine q_goto (tgt := 4) dX7_kindest_45 (by decide) ?_
            have k9 := ih (k + 1) (by omega) (by omega)
            rw [mArg_bn (f := fun h => A (11 + h)) e (by show ¬ (fun h => A (11 + h)) b < (fun h => A (11 + h)) k; simp only []; omega)] at k9
            exact k9
          · refine q_iload_n dX7_kindest_40 rfl rfl ?_
            refine q_istore_n dX7_kindest_41 rfl (by decide) ?_
            show sE g_tt _ _ _ 42 [some (.ref 384), some (.int (iZ (k : Int))), some (.int (iZ (k : Int)))] [] (ms σ A F)
            refine z_iinc dX7_kindest_42 rfl (by decide) ?_
            show sE g_tt _ _ _ 45 [some (.ref 384), some (.int (iZ (k : Int))), some (.int (iZ ((k : Int) + 1)))] [] (ms σ A F)
            refine q_goto (tgt := 4) dX7_kindest_45 (by decide) ?_
            have k9 := ih (k + 1) (by omega) (by omega)
            rw [mArg_by (f := fun h => A (11 + h)) e (by show (fun h => A (11 + h)) b < (fun h => A (11 + h)) k; simp only []; omega)] at k9
            exact k9
        · refine z_iconst dX7_kindest_24 ?_
          refine q_goto (tgt := 37) dX7_kindest_25 (by decide) ?_
          refine z_icmp_le (tgt := 42) dX7_kindest_37 (by decide) (by have := kd_ran g (show k < 8 by omega); unfold inR; omega) (by unfold inR at *; omega) (fun c_4 => ?_) (fun c_4 => ?_)
          · refine z_iinc dX7_kindest_42 rfl (by decide) ?_
            show sE g_tt _ _ _ 45 [some (.ref 384), some (.int (iZ (b : Int))), some (.int (iZ ((k : Int) + 1)))] [] (ms σ A F)
            refine q_goto (tgt := 4) dX7_kindest_45 (by decide) ?_
            have k9 := ih (k + 1) (by omega) (by omega)
            rw [mArg_bn (f := fun h => A (11 + h)) e (by show ¬ (fun h => A (11 + h)) b < (fun h => A (11 + h)) k; simp only []; omega)] at k9
            exact k9
          · refine q_iload_n dX7_kindest_40 rfl rfl ?_
            refine q_istore_n dX7_kindest_41 rfl (by decide) ?_
            show sE g_tt _ _ _ 42 [some (.ref 384), some (.int (iZ (k : Int))), some (.int (iZ (k : Int)))] [] (ms σ A F)
            refine z_iinc dX7_kindest_42 rfl (by decide) ?_
            show sE g_tt _ _ _ 45 [some (.ref 384), some (.int (iZ (k : Int))), some (.int (iZ ((k : Int) + 1)))] [] (ms σ A F)
            refine q_goto (tgt := 4) dX7_kindest_45 (by decide) ?_
            have k9 := ih (k + 1) (by omega) (by omega)
            rw [mArg_by (f := fun h => A (11 + h)) e (by show (fun h => A (11 + h)) b < (fun h => A (11 + h)) k; simp only []; omega)] at k9
            exact k9
set_option maxHeartbeats 4000000 in
set_option maxRecDepth 100000 in
theorem m_kindest {d : Nat} (σ : gS) (A F : Nat → Int) {nt : Int} (g : gd 100000 nt A) : sC mX7_kindest d [.ref 384] (ms σ A F) (fun r σ' => r = some (.int (iZ (mArg (fun h => A (11 + h)) 8))) ∧ σ' = ms σ A F) := by
  refine sC_of rfl (Nat.le_of_ble_eq_true rfl) ?_
  show sE g_tt _ _ _ 0 [some (.ref 384), none, none] [] (ms σ A F)
  refine z_iconst dX7_kindest_0 ?_
  refine q_istore_n dX7_kindest_1 rfl (by decide) ?_
  show sE g_tt _ _ _ 2 [some (.ref 384), some (.int (iZ (-1))), none] [] (ms σ A F)
  refine z_iconst dX7_kindest_2 ?_
  refine q_istore_n dX7_kindest_3 rfl (by decide) ?_
  show sE g_tt _ _ _ 4 [some (.ref 384), some (.int (iZ (-1))), some (.int (iZ 0))] [] (ms σ A F)
  exact lp_kindest  σ A F g 9 0 (by have := g.1; omega) (by have := g.1; omega)
def mCo (A : Nat → Int) (h : Nat) : Int := ((mBits (mPeo A (h : Int) (A 0).toNat + 1) (mPeo A (h : Int) (A 0).toNat) : Nat) : Int)
theorem mBits_le : ∀ n m : Nat, mBits n m ≤ n := by
  intro n
  induction n with
  | zero => intro m; exact Nat.le_refl _
  | succ n ih =>
    intro m
    rw [mBits]
    split
    · omega
    · have := ih (m &&& (m - 1)); omega
theorem mCo_ran {c nt : Int} {A : Nat → Int} (g : gd c nt A) (h : Nat) : 0 ≤ mCo A h ∧ mCo A h ≤ 33 := by
  have q := mPeo_32 g (h : Int)
  have q2 := mBits_le (mPeo A (h : Int) (A 0).toNat + 1) (mPeo A (h : Int) (A 0).toNat)
  unfold mCo
  omega
set_option maxHeartbeats 4000000 in
set_option maxRecDepth 100000 in
theorem lp_crowded {d : Nat} (hd : 1 ≤ d) (σ : gS) (A F : Nat → Int) {nt : Int} (g : gd 100000 nt A) : ∀ (n : Nat) (k : Nat), (k : Int) ≤ 8 → 8 - (k : Int) < (n : Int) → sE g_tt mX7_crowded d (fun r σ' => r = some (.int (iZ (mArg (fun h => mCo A h) 8))) ∧ σ' = ms σ A F) 4 [some (.ref 384), some (.int (iZ (mArg (fun h => mCo A h) k))), some (.int (iZ (k : Int)))] [] (ms σ A F) := by
  intro n
  induction n with
  | zero =>
    intro k hk hn
    exact absurd hn (by omega)
  | succ n ih =>
    intro k hk hn
    have g0 := g.1
    rcases mArg_spec (fun h => mCo A h) k with e | ⟨b, hb, e⟩
    · rw [e]
      refine q_iload_n dX7_crowded_4 rfl rfl ?_
      refine z_bipush dX7_crowded_5 (by decide +kernel) ?_
      refine z_icmp_ge (tgt := 46) dX7_crowded_7 (by decide) (by unfold inR at *; omega) (by unfold inR at *; omega) (fun c_1 => ?_) (fun c_1 => ?_)
      · refine q_iload_n dX7_crowded_46 rfl rfl ?_
        exact s_iretZ dX7_crowded_47 rfl ⟨by rw [← show k = 8 by omega]; exact congrArg (fun x => some (Value.int (iZ x))) e.symm, rfl⟩
      · refine q_aload_n dX7_crowded_10 rfl rfl ?_
        refine q_iload_n dX7_crowded_11 rfl rfl ?_
        refine s_callV (ci := 7) (a := 384) (As := [.int (iZ (k : Int))]) (S := []) dX7_crowded_12 okX7_peopleIn mlX7_274 rfl (by omega) rfl (Nat.le_of_ble_eq_true rfl) (show kd 384 = 7 from rfl) (by decide) rfl (m_peopleIn (d := d - 1) (h := (k : Int)) (by unfold inR at *; omega) σ A F g.1.1 g.1.2 (gdh g)) (fun v_ σ_ hq => ?_)
        obtain ⟨rfl, e9⟩ := hq
        have e9 := e9.symm
        subst e9
        show sE g_tt _ _ _ 15 [some (.ref 384), some (.int (iZ (-1))), some (.int (iZ (k : Int)))] [.int (iZ ((mPeo A (k : Int) (A 0).toNat : Nat) : Int))] (ms σ A F)
        refine s_callS (As := [.int (iZ ((mPeo A (k : Int) (A 0).toNat : Nat) : Int))]) (S := []) dX7_crowded_15 okX7_bits mlX7_277 rfl (by omega) rfl (Nat.le_of_ble_eq_true rfl) (m_bits (d := d - 1) (m := mPeo A (k : Int) (A 0).toNat) (by have := mPeo_32 g (k : Int); omega) (ms σ A F)) (fun v_ σ_ hq => ?_)
        obtain ⟨rfl, e9⟩ := hq
        have e9 := e9.symm
        subst e9
        show sE g_tt _ _ _ 18 [some (.ref 384), some (.int (iZ (-1))), some (.int (iZ (k : Int)))] [.int (iZ (mCo A k))] (ms σ A F)
        refine q_iload_n dX7_crowded_18 rfl rfl ?_
        refine z_iconst dX7_crowded_19 ?_
        refine z_icmp_ne (tgt := 27) dX7_crowded_20 (by decide) (by unfold inR at *; omega) (by unfold inR at *; omega) (fun c_2 => ?_) (fun c_2 => ?_)
        · exfalso
          revert c_2
          decide
        · refine z_iconst dX7_crowded_23 ?_
          refine q_goto (tgt := 35) dX7_crowded_24 (by decide) ?_
          refine z_icmp_le (tgt := 40) dX7_crowded_35 (by decide) (by have := mCo_ran g k; unfold inR; omega) (by unfold inR at *; omega) (fun c_3 => ?_) (fun c_3 => ?_)
          · refine z_iinc dX7_crowded_40 rfl (by decide) ?_
            show sE g_tt _ _ _ 43 [some (.ref 384), some (.int (iZ (-1))), some (.int (iZ ((k : Int) + 1)))] [] (ms σ A F)
            refine q_goto (tgt := 4) dX7_crowded_43 (by decide) ?_
            have k9 := ih (k + 1) (by omega) (by omega)
            rw [mArg_0n (f := fun h => mCo A h) e (by show ¬ 0 < (fun h => mCo A h) k; simp only []; omega)] at k9
            exact k9
          · refine q_iload_n dX7_crowded_38 rfl rfl ?_
            refine q_istore_n dX7_crowded_39 rfl (by decide) ?_
            show sE g_tt _ _ _ 40 [some (.ref 384), some (.int (iZ (k : Int))), some (.int (iZ (k : Int)))] [] (ms σ A F)
            refine z_iinc dX7_crowded_40 rfl (by decide) ?_
            show sE g_tt _ _ _ 43 [some (.ref 384), some (.int (iZ (k : Int))), some (.int (iZ ((k : Int) + 1)))] [] (ms σ A F)
            refine q_goto (tgt := 4) dX7_crowded_43 (by decide) ?_
            have k9 := ih (k + 1) (by omega) (by omega)
            rw [mArg_0y (f := fun h => mCo A h) e (by show 0 < (fun h => mCo A h) k; simp only []; omega)] at k9
            exact k9
    · rw [e]
      refine q_iload_n dX7_crowded_4 rfl rfl ?_
      refine z_bipush dX7_crowded_5 (by decide +kernel) ?_
      refine z_icmp_ge (tgt := 46) dX7_crowded_7 (by decide) (by unfold inR at *; omega) (by unfold inR at *; omega) (fun c_1 => ?_) (fun c_1 => ?_)
      · refine q_iload_n dX7_crowded_46 rfl rfl ?_
        exact s_iretZ dX7_crowded_47 rfl ⟨by rw [← show k = 8 by omega]; exact congrArg (fun x => some (Value.int (iZ x))) e.symm, rfl⟩
      · refine q_aload_n dX7_crowded_10 rfl rfl ?_
        refine q_iload_n dX7_crowded_11 rfl rfl ?_
        refine s_callV (ci := 7) (a := 384) (As := [.int (iZ (k : Int))]) (S := []) dX7_crowded_12 okX7_peopleIn mlX7_274 rfl (by omega) rfl (Nat.le_of_ble_eq_true rfl) (show kd 384 = 7 from rfl) (by decide) rfl (m_peopleIn (d := d - 1) (h := (k : Int)) (by unfold inR at *; omega) σ A F g.1.1 g.1.2 (gdh g)) (fun v_ σ_ hq => ?_)
        obtain ⟨rfl, e9⟩ := hq
        have e9 := e9.symm
        subst e9
        show sE g_tt _ _ _ 15 [some (.ref 384), some (.int (iZ (b : Int))), some (.int (iZ (k : Int)))] [.int (iZ ((mPeo A (k : Int) (A 0).toNat : Nat) : Int))] (ms σ A F)
        refine s_callS (As := [.int (iZ ((mPeo A (k : Int) (A 0).toNat : Nat) : Int))]) (S := []) dX7_crowded_15 okX7_bits mlX7_277 rfl (by omega) rfl (Nat.le_of_ble_eq_true rfl) (m_bits (d := d - 1) (m := mPeo A (k : Int) (A 0).toNat) (by have := mPeo_32 g (k : Int); omega) (ms σ A F)) (fun v_ σ_ hq => ?_)
        obtain ⟨rfl, e9⟩ := hq
        have e9 := e9.symm
        subst e9
        show sE g_tt _ _ _ 18 [some (.ref 384), some (.int (iZ (b : Int))), some (.int (iZ (k : Int)))] [.int (iZ (mCo A k))] (ms σ A F)
        refine q_iload_n dX7_crowded_18 rfl rfl ?_
        refine z_iconst dX7_crowded_19 ?_
        refine z_icmp_ne (tgt := 27) dX7_crowded_20 (by decide) (by unfold inR at *; omega) (by unfold inR at *; omega) (fun c_2 => ?_) (fun c_2 => ?_)
        · refine q_aload_n dX7_crowded_27 rfl rfl ?_
          refine q_iload_n dX7_crowded_28 rfl rfl ?_
          refine s_callV (ci := 7) (a := 384) (As := [.int (iZ (b : Int))]) (S := [.int (iZ (mCo A k))]) dX7_crowded_29 okX7_peopleIn mlX7_274 rfl (by omega) rfl (Nat.le_of_ble_eq_true rfl) (show kd 384 = 7 from rfl) (by decide) rfl (m_peopleIn (d := d - 1) (h := (b : Int)) (by unfold inR at *; omega) σ A F g.1.1 g.1.2 (gdh g)) (fun v_ σ_ hq => ?_)
          obtain ⟨rfl, e9⟩ := hq
          have e9 := e9.symm
          subst e9
          show sE g_tt _ _ _ 32 [some (.ref 384), some (.int (iZ (b : Int))), some (.int (iZ (k : Int)))] [.int (iZ ((mPeo A (b : Int) (A 0).toNat : Nat) : Int)), .int (iZ (mCo A k))] (ms σ A F)
          refine s_callS (As := [.int (iZ ((mPeo A (b : Int) (A 0).toNat : Nat) : Int))]) (S := [.int (iZ (mCo A k))]) dX7_crowded_32 okX7_bits mlX7_277 rfl (by omega) rfl (Nat.le_of_ble_eq_true rfl) (m_bits (d := d - 1) (m := mPeo A (b : Int) (A 0).toNat) (by have := mPeo_32 g (b : Int); omega) (ms σ A F)) (fun v_ σ_ hq => ?_)
          obtain ⟨rfl, e9⟩ := hq
          have e9 := e9.symm
          subst e9
          show sE g_tt _ _ _ 35 [some (.ref 384), some (.int (iZ (b : Int))), some (.int (iZ (k : Int)))] [.int (iZ (mCo A b)), .int (iZ (mCo A k))] (ms σ A F)
          refine z_icmp_le (tgt := 40) dX7_crowded_35 (by decide) (by have := mCo_ran g k; unfold inR; omega) (by have := mCo_ran g b; unfold inR; omega) (fun c_3 => ?_) (fun c_3 => ?_)
          · refine z_iinc dX7_crowded_40 rfl (by decide) ?_
            show sE g_tt _ _ _ 43 [some (.ref 384), some (.int (iZ (b : Int))), some (.int (iZ ((k : Int) + 1)))] [] (ms σ A F)
            refine q_goto (tgt := 4) dX7_crowded_43 (by decide) ?_
            have k9 := ih (k + 1) (by omega) (by omega)
            rw [mArg_bn (f := fun h => mCo A h) e (by show ¬ (fun h => mCo A h) b < (fun h => mCo A h) k; simp only []; omega)] at k9
            exact k9
          · refine q_iload_n dX7_crowded_38 rfl rfl ?_
            refine q_istore_n dX7_crowded_39 rfl (by decide) ?_
            show sE g_tt _ _ _ 40 [some (.ref 384), some (.int (iZ (k : Int))), some (.int (iZ (k : Int)))] [] (ms σ A F)
            refine z_iinc dX7_crowded_40 rfl (by decide) ?_
            show sE g_tt _ _ _ 43 [some (.ref 384), some (.int (iZ (k : Int))), some (.int (iZ ((k : Int) + 1)))] [] (ms σ A F)
            refine q_goto (tgt := 4) dX7_crowded_43 (by decide) ?_
            have k9 := ih (k + 1) (by omega) (by omega)
            rw [mArg_by (f := fun h => mCo A h) e (by show (fun h => mCo A h) b < (fun h => mCo A h) k; simp only []; omega)] at k9
            exact k9
        · refine z_iconst dX7_crowded_23 ?_
          refine q_goto (tgt := 35) dX7_crowded_24 (by decide) ?_
          refine z_icmp_le (tgt := 40) dX7_crowded_35 (by decide) (by have := mCo_ran g k; unfold inR; omega) (by unfold inR at *; omega) (fun c_4 => ?_) (fun c_4 => ?_)
          · refine z_iinc dX7_crowded_40 rfl (by decide) ?_
            show sE g_tt _ _ _ 43 [some (.ref 384), some (.int (iZ (b : Int))), some (.int (iZ ((k : Int) + 1)))] [] (ms σ A F)
            refine q_goto (tgt := 4) dX7_crowded_43 (by decide) ?_
            have k9 := ih (k + 1) (by omega) (by omega)
            rw [mArg_bn (f := fun h => mCo A h) e (by show ¬ (fun h => mCo A h) b < (fun h => mCo A h) k; simp only []; omega)] at k9
            exact k9
          · refine q_iload_n dX7_crowded_38 rfl rfl ?_
            refine q_istore_n dX7_crowded_39 rfl (by decide) ?_
            show sE g_tt _ _ _ 40 [some (.ref 384), some (.int (iZ (k : Int))), some (.int (iZ (k : Int)))] [] (ms σ A F)
            refine z_iinc dX7_crowded_40 rfl (by decide) ?_
            show sE g_tt _ _ _ 43 [some (.ref 384), some (.int (iZ (k : Int))), some (.int (iZ ((k : Int) + 1)))] [] (ms σ A F)
            refine q_goto (tgt := 4) dX7_crowded_43 (by decide) ?_
            have k9 := ih (k + 1) (by omega) (by omega)
            rw [mArg_by (f := fun h => mCo A h) e (by show (fun h => mCo A h) b < (fun h => mCo A h) k; simp only []; omega)] at k9
            exact k9
set_option maxHeartbeats 4000000 in
set_option maxRecDepth 100000 in
theorem m_crowded {d : Nat} (hd : 1 ≤ d) (σ : gS) (A F : Nat → Int) {nt : Int} (g : gd 100000 nt A) : sC mX7_crowded d [.ref 384] (ms σ A F) (fun r σ' => r = some (.int (iZ (mArg (fun h => mCo A h) 8))) ∧ σ' = ms σ A F) := by
  refine sC_of rfl (Nat.le_of_ble_eq_true rfl) ?_
  show sE g_tt _ _ _ 0 [some (.ref 384), none, none] [] (ms σ A F)
  refine z_iconst dX7_crowded_0 ?_
  refine q_istore_n dX7_crowded_1 rfl (by decide) ?_
  show sE g_tt _ _ _ 2 [some (.ref 384), some (.int (iZ (-1))), none] [] (ms σ A F)
  refine z_iconst dX7_crowded_2 ?_
  refine q_istore_n dX7_crowded_3 rfl (by decide) ?_
  show sE g_tt _ _ _ 4 [some (.ref 384), some (.int (iZ (-1))), some (.int (iZ 0))] [] (ms σ A F)
  exact lp_crowded hd σ A F g 9 0 (by have := g.1; omega) (by have := g.1; omega)
