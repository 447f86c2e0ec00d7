/-! ===== the class asked ===== -/
theorem kSum_m {K A : Nat → Int} (h : ∀ j, j < 8 → K j = A (11 + j)) : ∀ n, n ≤ 8 → kSum K n = mSum A n := by
  intro n
  induction n with
  | zero => intro _; rfl
  | succ n ih => intro hn; rw [kSum, mSum, ih (by omega), h n (by omega)]
def mV (f : Nat → Int) (k : Nat) : Int := if mArg f k = -1 then 0 else f (mArg f k).toNat
theorem mArg_up {f : Nat → Int} {k : Nat} (h : mV f k < f k) : mArg f (k + 1) = (k : Int) ∧ mV f (k + 1) = f k := by
  have e : mArg f (k + 1) = (k : Int) := by rw [mArg]; exact if_pos h
  exact ⟨e, by unfold mV; rw [e, if_neg (by omega), Int.toNat_natCast]⟩
theorem mArg_no {f : Nat → Int} {k : Nat} (h : ¬ mV f k < f k) : mArg f (k + 1) = mArg f k ∧ mV f (k + 1) = mV f k := by
  have e : mArg f (k + 1) = mArg f k := by rw [mArg]; exact if_neg h
  exact ⟨e, by unfold mV; rw [e]⟩
set_option maxHeartbeats 4000000 in
set_option maxRecDepth 100000 in
theorem x_ofPerson {d : Nat} (hd : 1 ≤ d) {p : Int} (hp : inR p) (σ : gS) {W V : wF} {A I : Nat → Int} {c nt : Int} (hc : c ≤ 88000) (hn4 : nt ≤ 4) (ok : okR c nt A) (oi : okR c (I 1) I) (C : clR σ W V A I) : sC mX6_ofPerson d [.ref 0, .int (iZ p)] σ (fun r σ' => r = some (.int (iZ (if 0 ≤ p ∧ p < A 0 then A (19 + p).toNat else -2))) ∧ σ' = σ) := by
  have g := ok_gd hc hn4 ok
  have g0 := g.1
  have n1 := ok.2.2.1
  have a2 := ok_2 ok
  have g10 := g.2.2.2.2.1
  have n0 : 0 ≤ A 1 := by omega
  refine sC_of rfl (Nat.le_of_ble_eq_true rfl) ?_
  show sE g_tt _ _ _ 0 [some (.ref 0), some (.int (iZ p))] [] σ
  refine q_aload_n dX6_ofPerson_0 rfl rfl ?_
  refine q_iload_n dX6_ofPerson_1 rfl rfl ?_
  refine s_callV (ci := 6) (a := 0) (As := [.int (iZ p)]) (S := []) dX6_ofPerson_2 okX6_isPerson mlX6_187 rfl (by omega) rfl (Nat.le_of_ble_eq_true rfl) (show kd 0 = 6 from rfl) (by decide) rfl (x_isPerson (d := d - 1) (p := p) (by unfold inR at *; omega) σ hc hn4 ok oi C) (fun v_ σ_ hq => ?_)
  obtain ⟨rfl, e9⟩ := hq
  have e9 := e9.symm
  subst e9
  show sE g_tt _ _ _ 5 [some (.ref 0), some (.int (iZ p))] [.int (iZ (if 0 ≤ p ∧ p < A 0 then 1 else 0))] σ
  refine z_if_eq (tgt := 23) dX6_ofPerson_5 (by decide) inR_01 (fun c_1 => ?_) (fun c_1 => ?_)
  · have c_1 := if01_0 c_1
    refine z_bipush dX6_ofPerson_23 (by decide +kernel) ?_
    exact s_iretZ dX6_ofPerson_25 rfl ⟨by first | ((repeat (first | rw [if_pos (by omega)] | rw [if_neg (by omega)])); done) | (exfalso; omega), rfl⟩
  · have c_1 := if01_1 c_1
    refine q_aload_n dX6_ofPerson_8 rfl rfl ?_
    refine sg6 (kf := 0) (v := .ref 1) dX6_ofPerson_9 flX6_10 (show kd 0 = 6 from rfl) (by decide) rfl ?_
    refine sg5 (kf := 0) (v := .ref 2) dX6_ofPerson_12 flX6_72 (show kd 1 = 5 from rfl) (by decide) rfl ?_
    refine sg2 (kf := 1) (v := .ref 4) dX6_ofPerson_15 flX6_190 (show kd 2 = 2 from rfl) (by decide) rfl ?_
    refine q_iload_n dX6_ofPerson_18 rfl rfl ?_
    refine s_iald (n := 5) (x := A (19 + p.toNat)) dX6_ofPerson_19 (show kd 4 = 100 + 5 from rfl) (by omega) (by omega) (by decide) (C.1.1.2.1 p.toNat (by omega)) ?_
    refine q_goto (tgt := 25) dX6_ofPerson_20 (by decide) ?_
    exact s_iretZ dX6_ofPerson_25 rfl ⟨by rw [if_pos (by omega), show (19 + p).toNat = 19 + p.toNat by omega], rfl⟩
set_option maxHeartbeats 4000000 in
set_option maxRecDepth 100000 in
theorem x_is {d : Nat} (hd : 2 ≤ d) {n : Int} (hn : inR n) (σ : gS) {W V : wF} {A I : Nat → Int} {c nt : Int} (hc : c ≤ 88000) (hn4 : nt ≤ 4) (ok : okR c nt A) (oi : okR c (I 1) I) (C : clR σ W V A I) : sC mX6_is d [.ref 0, .int (iZ n)] σ (fun r σ' => r = some (.int (iZ (if 0 ≤ n ∧ n ≤ 4 then A (5 + n).toNat else if n = 5 then mSum A 8 else -2))) ∧ σ' = σ) := by
  have g := ok_gd hc hn4 ok
  have g0 := g.1
  have n1 := ok.2.2.1
  have a2 := ok_2 ok
  have g10 := g.2.2.2.2.1
  have n0 : 0 ≤ A 1 := by omega
  refine sC_of rfl (Nat.le_of_ble_eq_true rfl) ?_
  show sE g_tt _ _ _ 0 [some (.ref 0), some (.int (iZ n)), none] [] σ
  refine q_aload_n dX6_is_0 rfl rfl ?_
  refine sg6 (kf := 0) (v := .ref 1) dX6_is_1 flX6_10 (show kd 0 = 6 from rfl) (by decide) rfl ?_
  refine sg5 (kf := 0) (v := .ref 2) dX6_is_4 flX6_72 (show kd 1 = 5 from rfl) (by decide) rfl ?_
  refine q_astore_n dX6_is_7 rfl (by decide) ?_
  show sE g_tt _ _ _ 8 [some (.ref 0), some (.int (iZ n)), some (.ref 2)] [] σ
  refine q_iload_n dX6_is_8 rfl rfl ?_
  by_cases s_1 : n = 0
  · refine z_top s_1 ?_
    refine q_tableIn (tgt := 48) (off := 39) dX6_is_9 (by decide +kernel) (by decide +kernel) (by decide +kernel) (by decide) ?_
    refine q_aload_n dX6_is_48 rfl rfl ?_
    refine sg2 (kf := 6) (v := .int (iZ (A 5))) dX6_is_49 flX6_144 (show kd 2 = 2 from rfl) (by decide) (by show some (Value.int (iZ (σ.1 2 6))) = _; rw [show σ.1 2 6 = A 5 from C.1.1.2.2.1.2.2.2.2.1]) ?_
    exact s_iretZ dX6_is_52 rfl ⟨by rw [if_pos (by omega), show (5 + n).toNat = 5 by omega], rfl⟩
  by_cases s_2 : n = 1
  · refine z_top s_2 ?_
    refine q_tableIn (tgt := 53) (off := 44) dX6_is_9 (by decide +kernel) (by decide +kernel) (by decide +kernel) (by decide) ?_
    refine q_aload_n dX6_is_53 rfl rfl ?_
    refine sg2 (kf := 7) (v := .int (iZ (A 6))) dX6_is_54 flX6_166 (show kd 2 = 2 from rfl) (by decide) (by show some (Value.int (iZ (σ.1 2 7))) = _; rw [show σ.1 2 7 = A 6 from C.1.1.2.2.1.2.2.2.2.2]) ?_
    exact s_iretZ dX6_is_57 rfl ⟨by rw [if_pos (by omega), show (5 + n).toNat = 6 by omega], rfl⟩
  by_cases s_3 : n = 2
  · refine z_top s_3 ?_
    refine q_tableIn (tgt := 58) (off := 49) dX6_is_9 (by decide +kernel) (by decide +kernel) (by decide +kernel) (by decide) ?_
    refine q_aload_n dX6_is_58 rfl rfl ?_
    refine sg2 (kf := 4) (v := .int (iZ (A 7))) dX6_is_59 flX6_193 (show kd 2 = 2 from rfl) (by decide) (by show some (Value.int (iZ (σ.1 2 4))) = _; rw [show σ.1 2 4 = A 7 from C.1.1.2.2.1.2.2.1]) ?_
    exact s_iretZ dX6_is_62 rfl ⟨by rw [if_pos (by omega), show (5 + n).toNat = 7 by omega], rfl⟩
  by_cases s_4 : n = 3
  · refine z_top s_4 ?_
    refine q_tableIn (tgt := 63) (off := 54) dX6_is_9 (by decide +kernel) (by decide +kernel) (by decide +kernel) (by decide) ?_
    refine q_aload_n dX6_is_63 rfl rfl ?_
    refine sg2 (kf := 3) (v := .int (iZ (A 8))) dX6_is_64 flX6_196 (show kd 2 = 2 from rfl) (by decide) (by show some (Value.int (iZ (σ.1 2 3))) = _; rw [show σ.1 2 3 = A 8 from C.1.1.2.2.1.2.1]) ?_
    exact s_iretZ dX6_is_67 rfl ⟨by rw [if_pos (by omega), show (5 + n).toNat = 8 by omega], rfl⟩
  by_cases s_5 : n = 4
  · refine z_top s_5 ?_
    refine q_tableIn (tgt := 68) (off := 59) dX6_is_9 (by decide +kernel) (by decide +kernel) (by decide +kernel) (by decide) ?_
    refine q_aload_n dX6_is_68 rfl rfl ?_
    refine sg2 (kf := 5) (v := .int (iZ (A 9))) dX6_is_69 flX6_199 (show kd 2 = 2 from rfl) (by decide) (by show some (Value.int (iZ (σ.1 2 5))) = _; rw [show σ.1 2 5 = A 9 from C.1.1.2.2.1.2.2.2.1]) ?_
    exact s_iretZ dX6_is_72 rfl ⟨by rw [if_pos (by omega), show (5 + n).toNat = 9 by omega], rfl⟩
  by_cases s_6 : n = 5
  · refine z_top s_6 ?_
    refine q_tableIn (tgt := 73) (off := 64) dX6_is_9 (by decide +kernel) (by decide +kernel) (by decide +kernel) (by decide) ?_
    refine q_aload_n dX6_is_73 rfl rfl ?_
    refine z_iconst dX6_is_74 ?_
    refine z_bipush dX6_is_75 (by decide +kernel) ?_
    refine s_callV (ci := 2) (a := 2) (As := [.int (iZ 0), .int (iZ 8)]) (S := []) dX6_is_77 okX2_kindnessIn mlX6_202 rfl (by omega) rfl (Nat.le_of_ble_eq_true rfl) (show kd 2 = 2 from rfl) (by decide) rfl (t_kindnessIn (d := d - 1) (s := 2) (a := 0) (b := 8) (by omega) rfl σ (by omega) (by omega)) (fun v_ σ_ hq => ?_)
    obtain ⟨rfl, e9⟩ := hq
    have e9 := e9.symm
    subst e9
    refine z_top (y := mSum A 8 - mSum A 0) (by rw [kSum_m C.1.1.1 _ (by omega), kSum_m C.1.1.1 _ (by omega)]) ?_
    have ms1 := mSum_ran g 8 (by omega)
    have ms2 := mSum_ran g 0 (by omega)
    show sE g_tt _ _ _ 80 [some (.ref 0), some (.int (iZ n)), some (.ref 2)] [.int (iZ (mSum A 8 - mSum A 0))] σ
    exact s_iretZ dX6_is_80 rfl ⟨by rw [if_neg (by omega), if_pos (by omega)]; congr 3; show mSum A 8 - 0 = _; omega, rfl⟩
  refine q_tableOut (tgt := 81) dX6_is_9 (by rw [iZ_toInt (by unfold inR at *; omega)]; omega) (by decide) ?_
  refine z_bipush dX6_is_81 (by decide +kernel) ?_
  exact s_iretZ dX6_is_83 rfl ⟨by first | ((repeat (first | rw [if_pos (by omega)] | rw [if_neg (by omega)])); done) | (exfalso; omega), rfl⟩
theorem eq_arg {M : gM} {d s : Nat} {x y : Int} (e : x = y) {σ : gS} {Q : Option Value → gS → Prop} (k : sC M d [.ref s, .int (iZ x)] σ Q) : sC M d [.ref s, .int (iZ y)] σ Q := e ▸ k
set_option maxHeartbeats 4000000 in
set_option maxRecDepth 100000 in
theorem x_book {d : Nat} (hd : 2 ≤ d) {i n : Int} (hi : inR i) (hn : inR n) (σ : gS) {W V : wF} {A I : Nat → Int} {c nt : Int} (hc : c ≤ 88000) (hn4 : nt ≤ 4) (ok : okR c nt A) (oi : okR c (I 1) I) (C : clR σ W V A I) : sC mX6_book d [.ref 0, .int (iZ i), .int (iZ n)] σ (fun r σ' => r = some (.int (iZ (if i = -1 then A 10 else if (0 ≤ i ∧ i ≤ A 10 - 1) ∧ 0 ≤ n ∧ n ≤ 2 then mEnt A i.toNat n else -2))) ∧ σ' = σ) := by
  have g := ok_gd hc hn4 ok
  have g0 := g.1
  have n1 := ok.2.2.1
  have a2 := ok_2 ok
  have g10 := g.2.2.2.2.1
  have n0 : 0 ≤ A 1 := by omega
  refine sC_of rfl (Nat.le_of_ble_eq_true rfl) ?_
  show sE g_tt _ _ _ 0 [some (.ref 0), some (.int (iZ i)), some (.int (iZ n)), none] [] σ
  refine q_aload_n dX6_book_0 rfl rfl ?_
  refine sg6 (kf := 0) (v := .ref 1) dX6_book_1 flX6_10 (show kd 0 = 6 from rfl) (by decide) rfl ?_
  refine sg5 (kf := 0) (v := .ref 2) dX6_book_4 flX6_72 (show kd 1 = 5 from rfl) (by decide) rfl ?_
  refine q_astore_n dX6_book_7 rfl (by decide) ?_
  show sE g_tt _ _ _ 8 [some (.ref 0), some (.int (iZ i)), some (.int (iZ n)), some (.ref 2)] [] σ
  refine q_iload_n dX6_book_8 rfl rfl ?_
  refine z_iconst dX6_book_9 ?_
  refine z_icmp_ne (tgt := 18) dX6_book_10 (by decide) (by unfold inR at *; omega) (by unfold inR at *; omega) (fun c_1 => ?_) (fun c_1 => ?_)
  · refine q_iload_n dX6_book_18 rfl rfl ?_
    refine z_if_lt (tgt := 30) dX6_book_19 (by decide) (by unfold inR at *; omega) (fun c_2 => ?_) (fun c_2 => ?_)
    · refine z_bipush dX6_book_30 (by decide +kernel) ?_
      exact s_iretZ dX6_book_32 rfl ⟨by first | ((repeat (first | rw [if_pos (by omega)] | rw [if_neg (by omega)])); done) | (exfalso; omega), rfl⟩
    · refine q_iload_n dX6_book_22 rfl rfl ?_
      refine q_aload_n dX6_book_23 rfl rfl ?_
      refine sg2 (kf := 9) (v := .int (iZ (A 10))) dX6_book_24 flX6_206 (show kd 2 = 2 from rfl) (by decide) (by show some (Value.int (iZ (σ.1 2 9))) = _; rw [show σ.1 2 9 = A 10 from (C.1.1.2.2.2.2 (by decide)).1]) ?_
      refine z_icmp_lt (tgt := 33) dX6_book_27 (by decide) (by unfold inR at *; omega) (by unfold inR at *; omega) (fun c_3 => ?_) (fun c_3 => ?_)
      · refine q_iload_n dX6_book_33 rfl rfl ?_
        by_cases s_4 : n = 0
        · refine z_top s_4 ?_
          refine q_tableIn (tgt := 60) (off := 26) dX6_book_34 (by decide +kernel) (by decide +kernel) (by decide +kernel) (by decide) ?_
          refine q_aload_n dX6_book_60 rfl rfl ?_
          refine q_iload_n dX6_book_61 rfl rfl ?_
          refine s_callV (ci := 2) (a := 2) (As := [.int (iZ i)]) (S := []) dX6_book_62 okX2_nightWritten mlX6_209 rfl (by omega) rfl (Nat.le_of_ble_eq_true rfl) (show kd 2 = 2 from rfl) (by decide) rfl (eq_arg (show ((i.toNat : Nat) : Int) = i by omega) (t_nightWritten (d := d - 1) (s := 2) (i := i.toNat) rfl σ (on := 1) g C.1.1 (by decide) (by omega))) (fun v_ σ_ hq => ?_)
          obtain ⟨rfl, e9⟩ := hq
          have e9 := e9.symm
          subst e9
          show sE g_tt _ _ _ 65 [some (.ref 0), some (.int (iZ i)), some (.int (iZ n)), some (.ref 2)] [.int (iZ (mEnt A i.toNat 0))] σ
          exact s_iretZ dX6_book_65 rfl ⟨by rw [if_neg (by omega), if_pos (by omega), show n = 0 by omega], rfl⟩
        by_cases s_5 : n = 1
        · refine z_top s_5 ?_
          refine q_tableIn (tgt := 66) (off := 32) dX6_book_34 (by decide +kernel) (by decide +kernel) (by decide +kernel) (by decide) ?_
          refine q_aload_n dX6_book_66 rfl rfl ?_
          refine q_iload_n dX6_book_67 rfl rfl ?_
          refine s_callV (ci := 2) (a := 2) (As := [.int (iZ i)]) (S := []) dX6_book_68 okX2_personWritten mlX6_212 rfl (by omega) rfl (Nat.le_of_ble_eq_true rfl) (show kd 2 = 2 from rfl) (by decide) rfl (eq_arg (show ((i.toNat : Nat) : Int) = i by omega) (t_personWritten (d := d - 1) (s := 2) (i := i.toNat) rfl σ (on := 1) g C.1.1 (by decide) (by omega))) (fun v_ σ_ hq => ?_)
          obtain ⟨rfl, e9⟩ := hq
          have e9 := e9.symm
          subst e9
          show sE g_tt _ _ _ 71 [some (.ref 0), some (.int (iZ i)), some (.int (iZ n)), some (.ref 2)] [.int (iZ (mEnt A i.toNat 1))] σ
          exact s_iretZ dX6_book_71 rfl ⟨by rw [if_neg (by omega), if_pos (by omega), show n = 1 by omega], rfl⟩
        by_cases s_6 : n = 2
        · refine z_top s_6 ?_
          refine q_tableIn (tgt := 72) (off := 38) dX6_book_34 (by decide +kernel) (by decide +kernel) (by decide +kernel) (by decide) ?_
          refine q_aload_n dX6_book_72 rfl rfl ?_
          refine q_iload_n dX6_book_73 rfl rfl ?_
          refine s_callV (ci := 2) (a := 2) (As := [.int (iZ i)]) (S := []) dX6_book_74 okX2_houseWritten mlX6_215 rfl (by omega) rfl (Nat.le_of_ble_eq_true rfl) (show kd 2 = 2 from rfl) (by decide) rfl (eq_arg (show ((i.toNat : Nat) : Int) = i by omega) (t_houseWritten (d := d - 1) (s := 2) (i := i.toNat) rfl σ (on := 1) g C.1.1 (by decide) (by omega))) (fun v_ σ_ hq => ?_)
          obtain ⟨rfl, e9⟩ := hq
          have e9 := e9.symm
          subst e9
          show sE g_tt _ _ _ 77 [some (.ref 0), some (.int (iZ i)), some (.int (iZ n)), some (.ref 2)] [.int (iZ (mEnt A i.toNat 2))] σ
          exact s_iretZ dX6_book_77 rfl ⟨by rw [if_neg (by omega), if_pos (by omega), show n = 2 by omega], rfl⟩
        refine q_tableOut (tgt := 78) dX6_book_34 (by rw [iZ_toInt (by unfold inR at *; omega)]; omega) (by decide) ?_
        refine z_bipush dX6_book_78 (by decide +kernel) ?_
        exact s_iretZ dX6_book_80 rfl ⟨by first | ((repeat (first | rw [if_pos (by omega)] | rw [if_neg (by omega)])); done) | (exfalso; omega), rfl⟩
      · refine z_bipush dX6_book_30 (by decide +kernel) ?_
        exact s_iretZ dX6_book_32 rfl ⟨by first | ((repeat (first | rw [if_pos (by omega)] | rw [if_neg (by omega)])); done) | (exfalso; omega), rfl⟩
  · refine q_aload_n dX6_book_13 rfl rfl ?_
    refine sg2 (kf := 9) (v := .int (iZ (A 10))) dX6_book_14 flX6_206 (show kd 2 = 2 from rfl) (by decide) (by show some (Value.int (iZ (σ.1 2 9))) = _; rw [show σ.1 2 9 = A 10 from (C.1.1.2.2.2.2 (by decide)).1]) ?_
    exact s_iretZ dX6_book_17 rfl ⟨by first | ((repeat (first | rw [if_pos (by omega)] | rw [if_neg (by omega)])); done) | (exfalso; omega), rfl⟩
set_option maxHeartbeats 4000000 in
set_option maxRecDepth 100000 in
theorem lx_sick {d : Nat} (σ : gS) {W V : wF} {A I : Nat → Int} {c nt : Int} (hc : c ≤ 88000) (hn4 : nt ≤ 4) (ok : okR c nt A) (oi : okR c (I 1) I) (C : clR σ W V A I) : ∀ (n : Nat) (k : Nat), k ≤ 8 → 8 - (k : Int) < (n : Int) → sE g_tt mX6_sick d (fun r σ' => r = some (.int (iZ (((mSick A 8 : Nat) : Int)))) ∧ σ' = σ) 4 [some (.ref 0), some (.int (iZ ((mSick A k : Nat) : Int))), some (.int (iZ (k : Int)))] [] σ := by
  intro n
  induction n with
  | zero =>
    intro k hk hn
    exact absurd hn (by omega)
  | succ n ih =>
    intro k hk hn
    have dd : k < 8 → 0 ≤ A (29 + k) ∧ A (29 + k) ≤ 31 := ok.2.2.2.2.2.1 k
    have g := ok_gd hc hn4 ok
    have g0 := g.1
    have n1 := ok.2.2.1
    have a2 := ok_2 ok
    have g10 := g.2.2.2.2.1
    have n0 : 0 ≤ A 1 := by omega
    refine q_iload_n dX6_sick_4 rfl rfl ?_
    refine z_bipush dX6_sick_5 (by decide +kernel) ?_
    refine z_icmp_ge (tgt := 35) dX6_sick_7 (by decide) (by unfold inR at *; omega) (by unfold inR at *; omega) (fun c_1 => ?_) (fun c_1 => ?_)
    · refine q_iload_n dX6_sick_35 rfl rfl ?_
      exact s_iretZ dX6_sick_36 rfl ⟨by rw [show (8 : Nat) = k by omega], rfl⟩
    · refine q_aload_n dX6_sick_10 rfl rfl ?_
      refine sg6 (kf := 0) (v := .ref 1) dX6_sick_11 flX6_10 (show kd 0 = 6 from rfl) (by decide) rfl ?_
      refine sg5 (kf := 3) (v := .ref 8) dX6_sick_14 flX6_278 (show kd 1 = 5 from rfl) (by decide) rfl ?_
      refine q_iload_n dX6_sick_17 rfl rfl ?_
      refine s_iald (n := 8) (x := A (29 + k) - 1) dX6_sick_18 (show kd 8 = 100 + 8 from rfl) (by omega) (by omega) (by decide) (C.1.2.2.1 k (by omega)) ?_
      refine z_iconst dX6_sick_19 ?_
      refine z_icmp_eq (tgt := 29) dX6_sick_20 (by decide) (by unfold inR at *; omega) (by unfold inR at *; omega) (fun c_2 => ?_) (fun c_2 => ?_)
      · refine z_iinc dX6_sick_29 rfl (by decide) ?_
        show sE g_tt _ _ _ 32 [some (.ref 0), some (.int (iZ ((mSick A k : Nat) : Int))), some (.int (iZ ((k : Int) + 1)))] [] σ
        refine q_goto (tgt := 4) dX6_sick_32 (by decide) ?_
        have e : ((mSick A (k + 1) : Nat) : Int) = ((mSick A k : Nat) : Int) := by rw [mSick, if_neg (by omega)]; simp
        have k9 := ih (k + 1) (by omega) (by omega)
        rw [e] at k9
        exact k9
      · refine q_iload_n dX6_sick_23 rfl rfl ?_
        refine z_iconst dX6_sick_24 ?_
        refine q_iload_n dX6_sick_25 rfl rfl ?_
        refine z_ishl (x := 1) (k := k) dX6_sick_26 (by omega) ?_
        refine z_top (y := ((2 ^ k : Nat) : Int)) (by simp) ?_
        refine z_ior (m := mSick A k) (k := 2 ^ k) dX6_sick_27 ?_
        refine q_istore_n dX6_sick_28 rfl (by decide) ?_
        show sE g_tt _ _ _ 29 [some (.ref 0), some (.int (iZ (((mSick A k) ||| (2 ^ k) : Nat) : Int))), some (.int (iZ (k : Int)))] [] σ
        refine z_iinc dX6_sick_29 rfl (by decide) ?_
        show sE g_tt _ _ _ 32 [some (.ref 0), some (.int (iZ (((mSick A k) ||| (2 ^ k) : Nat) : Int))), some (.int (iZ ((k : Int) + 1)))] [] σ
        refine q_goto (tgt := 4) dX6_sick_32 (by decide) ?_
        have e : ((mSick A (k + 1) : Nat) : Int) = (((mSick A k) ||| (2 ^ k) : Nat) : Int) := by rw [mSick, if_pos (by have := ok.2.2.2.2.2.1 k (by omega); omega)]
        have k9 := ih (k + 1) (by omega) (by omega)
        rw [e] at k9
        exact k9
set_option maxHeartbeats 4000000 in
set_option maxRecDepth 100000 in
theorem x_sick {d : Nat} (σ : gS) {W V : wF} {A I : Nat → Int} {c nt : Int} (hc : c ≤ 88000) (hn4 : nt ≤ 4) (ok : okR c nt A) (oi : okR c (I 1) I) (C : clR σ W V A I) : sC mX6_sick d [.ref 0] σ (fun r σ' => r = some (.int (iZ (((mSick A 8 : Nat) : Int)))) ∧ σ' = σ) := by
  refine sC_of rfl (Nat.le_of_ble_eq_true rfl) ?_
  show sE g_tt _ _ _ 0 [some (.ref 0), none, none] [] σ
  refine z_iconst dX6_sick_0 ?_
  refine q_istore_n dX6_sick_1 rfl (by decide) ?_
  show sE g_tt _ _ _ 2 [some (.ref 0), some (.int (iZ 0)), none] [] σ
  refine z_iconst dX6_sick_2 ?_
  refine q_istore_n dX6_sick_3 rfl (by decide) ?_
  show sE g_tt _ _ _ 4 [some (.ref 0), some (.int (iZ 0)), some (.int (iZ 0))] [] σ
  exact lx_sick σ hc hn4 ok oi C 9 0 (by have := ok.1.1; omega) (by have := ok.1.1; omega)
set_option maxHeartbeats 4000000 in
set_option maxRecDepth 100000 in
theorem x_beside {d : Nat} (hd : 2 ≤ d) {p : Int} (hp : inR p) (σ : gS) {W V : wF} {A I : Nat → Int} {c nt : Int} (hc : c ≤ 88000) (hn4 : nt ≤ 4) (ok : okR c nt A) (oi : okR c (I 1) I) (C : clR σ W V A I) : sC mX6_beside d [.ref 0, .int (iZ p)] σ (fun r σ' => r = some (.int (iZ (if 0 ≤ p ∧ p < A 0 then ((mBes A p.toNat : Nat) : Int) else -1))) ∧ σ' = σ) := by
  have g := ok_gd hc hn4 ok
  have g0 := g.1
  have n1 := ok.2.2.1
  have a2 := ok_2 ok
  have g10 := g.2.2.2.2.1
  have n0 : 0 ≤ A 1 := by omega
  refine sC_of rfl (Nat.le_of_ble_eq_true rfl) ?_
  show sE g_tt _ _ _ 0 [some (.ref 0), some (.int (iZ p))] [] σ
  refine q_aload_n dX6_beside_0 rfl rfl ?_
  refine q_iload_n dX6_beside_1 rfl rfl ?_
  refine s_callV (ci := 6) (a := 0) (As := [.int (iZ p)]) (S := []) dX6_beside_2 okX6_isPerson mlX6_187 rfl (by omega) rfl (Nat.le_of_ble_eq_true rfl) (show kd 0 = 6 from rfl) (by decide) rfl (x_isPerson (d := d - 1) (p := p) (by unfold inR at *; omega) σ hc hn4 ok oi C) (fun v_ σ_ hq => ?_)
  obtain ⟨rfl, e9⟩ := hq
  have e9 := e9.symm
  subst e9
  show sE g_tt _ _ _ 5 [some (.ref 0), some (.int (iZ p))] [.int (iZ (if 0 ≤ p ∧ p < A 0 then 1 else 0))] σ
  refine z_if_eq (tgt := 22) dX6_beside_5 (by decide) inR_01 (fun c_1 => ?_) (fun c_1 => ?_)
  · have c_1 := if01_0 c_1
    refine z_iconst dX6_beside_22 ?_
    exact s_iretZ dX6_beside_23 rfl ⟨by first | ((repeat (first | rw [if_pos (by omega)] | rw [if_neg (by omega)])); (try rfl); done) | (exfalso; omega), rfl⟩
  · have c_1 := if01_1 c_1
    refine q_aload_n dX6_beside_8 rfl rfl ?_
    refine sg6 (kf := 0) (v := .ref 1) dX6_beside_9 flX6_10 (show kd 0 = 6 from rfl) (by decide) rfl ?_
    refine sg5 (kf := 0) (v := .ref 2) dX6_beside_12 flX6_72 (show kd 1 = 5 from rfl) (by decide) rfl ?_
    refine q_iload_n dX6_beside_15 rfl rfl ?_
    refine s_callV (ci := 2) (a := 2) (As := [.int (iZ p)]) (S := []) dX6_beside_16 okX2_neighbours mlX6_291 rfl (by omega) rfl (Nat.le_of_ble_eq_true rfl) (show kd 2 = 2 from rfl) (by decide) rfl (eq_arg (show ((p.toNat : Nat) : Int) = p by omega) (t_neighbours (d := d - 1) (s := 2) (p := p.toNat) (by omega) rfl σ g C.1.1 (by omega))) (fun v_ σ_ hq => ?_)
    obtain ⟨rfl, e9⟩ := hq
    have e9 := e9.symm
    subst e9
    show sE g_tt _ _ _ 19 [some (.ref 0), some (.int (iZ p))] [.int (iZ ((mBes A p.toNat : Nat) : Int))] σ
    refine q_goto (tgt := 23) dX6_beside_19 (by decide) ?_
    exact s_iretZ dX6_beside_23 rfl ⟨by first | ((repeat (first | rw [if_pos (by omega)] | rw [if_neg (by omega)])); (try rfl); done) | (exfalso; omega), rfl⟩
set_option maxHeartbeats 4000000 in
set_option maxRecDepth 100000 in
theorem lx_alone {d : Nat} (hd : 2 ≤ d) (σ : gS) {W V : wF} {A I : Nat → Int} {c nt : Int} (hc : c ≤ 88000) (hn4 : nt ≤ 4) (ok : okR c nt A) (oi : okR c (I 1) I) (C : clR σ W V A I) : ∀ (n : Nat) (k : Nat), (k : Int) ≤ A 0 → A 0 - (k : Int) < (n : Int) → sE g_tt mX6_alone d (fun r σ' => r = some (.int (iZ (((mAlo A : Nat) : Int)))) ∧ σ' = σ) 12 [some (.ref 0), some (.ref 2), some (.int (iZ ((mBs (fun p => A (19 + p) ≠ -1 ∧ mBes A p = 0) k : Nat) : Int))), some (.int (iZ (k : Int)))] [] σ := by
  intro n
  induction n with
  | zero =>
    intro k hk hn
    exact absurd hn (by omega)
  | succ n ih =>
    intro k hk hn
    have g := ok_gd hc hn4 ok
    have g0 := g.1
    have n1 := ok.2.2.1
    have a2 := ok_2 ok
    have g10 := g.2.2.2.2.1
    have n0 : 0 ≤ A 1 := by omega
    refine q_iload_n dX6_alone_12 rfl rfl ?_
    refine q_aload_n dX6_alone_13 rfl rfl ?_
    refine sg2 (kf := 2) (v := .int (iZ (A 0))) dX6_alone_14 flX6_76 (show kd 2 = 2 from rfl) (by decide) (by show some (Value.int (iZ (σ.1 2 2))) = _; rw [show σ.1 2 2 = A 0 from C.1.1.2.2.1.1]) ?_
    refine z_icmp_ge (tgt := 50) dX6_alone_17 (by decide) (by unfold inR at *; omega) (by unfold inR at *; omega) (fun c_1 => ?_) (fun c_1 => ?_)
    · refine q_iload_n dX6_alone_50 rfl rfl ?_
      exact s_iretZ dX6_alone_51 rfl ⟨by unfold mAlo; rw [show (A 0).toNat = k by omega], rfl⟩
    · refine q_aload_n dX6_alone_20 rfl rfl ?_
      refine sg2 (kf := 1) (v := .ref 4) dX6_alone_21 flX6_190 (show kd 2 = 2 from rfl) (by decide) rfl ?_
      refine q_iload_n dX6_alone_24 rfl rfl ?_
      refine s_iald (n := 5) (x := A (19 + k)) dX6_alone_25 (show kd 4 = 100 + 5 from rfl) (by omega) (by omega) (by decide) (C.1.1.2.1 k (by omega)) ?_
      refine z_iconst dX6_alone_26 ?_
      refine z_icmp_eq (tgt := 44) dX6_alone_27 (by decide) (gdh g k (by omega)) (by unfold inR at *; omega) (fun c_2 => ?_) (fun c_2 => ?_)
      · refine z_iinc dX6_alone_44 rfl (by decide) ?_
        show sE g_tt _ _ _ 47 [some (.ref 0), some (.ref 2), some (.int (iZ ((mBs (fun p => A (19 + p) ≠ -1 ∧ mBes A p = 0) k : Nat) : Int))), some (.int (iZ ((k : Int) + 1)))] [] σ
        refine q_goto (tgt := 12) dX6_alone_47 (by decide) ?_
        have e : ((mBs (fun p => A (19 + p) ≠ -1 ∧ mBes A p = 0) (k + 1) : Nat) : Int) = ((mBs (fun p => A (19 + p) ≠ -1 ∧ mBes A p = 0) k : Nat) : Int) := by rw [mBs_n (by omega)]; simp
        have k9 := ih (k + 1) (by omega) (by omega)
        rw [e] at k9
        exact k9
      · refine q_aload_n dX6_alone_30 rfl rfl ?_
        refine q_iload_n dX6_alone_31 rfl rfl ?_
        refine s_callV (ci := 2) (a := 2) (As := [.int (iZ (k : Int))]) (S := []) dX6_alone_32 okX2_neighbours mlX6_291 rfl (by omega) rfl (Nat.le_of_ble_eq_true rfl) (show kd 2 = 2 from rfl) (by decide) rfl (t_neighbours (d := d - 1) (s := 2) (p := k) (by omega) rfl σ g C.1.1 (by omega)) (fun v_ σ_ hq => ?_)
        obtain ⟨rfl, e9⟩ := hq
        have e9 := e9.symm
        subst e9
        have b32 := mBes_32 g k
        show sE g_tt _ _ _ 35 [some (.ref 0), some (.ref 2), some (.int (iZ ((mBs (fun p => A (19 + p) ≠ -1 ∧ mBes A p = 0) k : Nat) : Int))), some (.int (iZ (k : Int)))] [.int (iZ ((mBes A k : Nat) : Int))] σ
        refine z_if_ne (tgt := 44) dX6_alone_35 (by decide) (by unfold inR at *; omega) (fun c_3 => ?_) (fun c_3 => ?_)
        · refine z_iinc dX6_alone_44 rfl (by decide) ?_
          show sE g_tt _ _ _ 47 [some (.ref 0), some (.ref 2), some (.int (iZ ((mBs (fun p => A (19 + p) ≠ -1 ∧ mBes A p = 0) k : Nat) : Int))), some (.int (iZ ((k : Int) + 1)))] [] σ
          refine q_goto (tgt := 12) dX6_alone_47 (by decide) ?_
          have e : ((mBs (fun p => A (19 + p) ≠ -1 ∧ mBes A p = 0) (k + 1) : Nat) : Int) = ((mBs (fun p => A (19 + p) ≠ -1 ∧ mBes A p = 0) k : Nat) : Int) := by rw [mBs_n (by omega)]; simp
          have k9 := ih (k + 1) (by omega) (by omega)
          rw [e] at k9
          exact k9
        · refine q_iload_n dX6_alone_38 rfl rfl ?_
          refine z_iconst dX6_alone_39 ?_
          refine q_iload_n dX6_alone_40 rfl rfl ?_
          refine z_ishl (x := 1) (k := k) dX6_alone_41 (by omega) ?_
          refine z_top (y := ((2 ^ k : Nat) : Int)) (by simp) ?_
          refine z_ior (m := mBs (fun p => A (19 + p) ≠ -1 ∧ mBes A p = 0) k) (k := 2 ^ k) dX6_alone_42 ?_
          refine q_istore_n dX6_alone_43 rfl (by decide) ?_
          show sE g_tt _ _ _ 44 [some (.ref 0), some (.ref 2), some (.int (iZ (((mBs (fun p => A (19 + p) ≠ -1 ∧ mBes A p = 0) k) ||| (2 ^ k) : Nat) : Int))), some (.int (iZ (k : Int)))] [] σ
          refine z_iinc dX6_alone_44 rfl (by decide) ?_
          show sE g_tt _ _ _ 47 [some (.ref 0), some (.ref 2), some (.int (iZ (((mBs (fun p => A (19 + p) ≠ -1 ∧ mBes A p = 0) k) ||| (2 ^ k) : Nat) : Int))), some (.int (iZ ((k : Int) + 1)))] [] σ
          refine q_goto (tgt := 12) dX6_alone_47 (by decide) ?_
          have e : ((mBs (fun p => A (19 + p) ≠ -1 ∧ mBes A p = 0) (k + 1) : Nat) : Int) = (((mBs (fun p => A (19 + p) ≠ -1 ∧ mBes A p = 0) k) ||| (2 ^ k) : Nat) : Int) := by rw [mBs_y (by omega)]
          have k9 := ih (k + 1) (by omega) (by omega)
          rw [e] at k9
          exact k9
set_option maxHeartbeats 4000000 in
set_option maxRecDepth 100000 in
theorem x_alone {d : Nat} (hd : 2 ≤ d) (σ : gS) {W V : wF} {A I : Nat → Int} {c nt : Int} (hc : c ≤ 88000) (hn4 : nt ≤ 4) (ok : okR c nt A) (oi : okR c (I 1) I) (C : clR σ W V A I) : sC mX6_alone d [.ref 0] σ (fun r σ' => r = some (.int (iZ (((mAlo A : Nat) : Int)))) ∧ σ' = σ) := by
  have g := ok_gd hc hn4 ok
  have g0 := g.1
  have n1 := ok.2.2.1
  have a2 := ok_2 ok
  have g10 := g.2.2.2.2.1
  have n0 : 0 ≤ A 1 := by omega
  refine sC_of rfl (Nat.le_of_ble_eq_true rfl) ?_
  show sE g_tt _ _ _ 0 [some (.ref 0), none, none, none] [] σ
  refine q_aload_n dX6_alone_0 rfl rfl ?_
  refine sg6 (kf := 0) (v := .ref 1) dX6_alone_1 flX6_10 (show kd 0 = 6 from rfl) (by decide) rfl ?_
  refine sg5 (kf := 0) (v := .ref 2) dX6_alone_4 flX6_72 (show kd 1 = 5 from rfl) (by decide) rfl ?_
  refine q_astore_n dX6_alone_7 rfl (by decide) ?_
  show sE g_tt _ _ _ 8 [some (.ref 0), some (.ref 2), none, none] [] σ
  refine z_iconst dX6_alone_8 ?_
  refine q_istore_n dX6_alone_9 rfl (by decide) ?_
  show sE g_tt _ _ _ 10 [some (.ref 0), some (.ref 2), some (.int (iZ 0)), none] [] σ
  refine z_iconst dX6_alone_10 ?_
  refine q_istore_n dX6_alone_11 rfl (by decide) ?_
  show sE g_tt _ _ _ 12 [some (.ref 0), some (.ref 2), some (.int (iZ 0)), some (.int (iZ 0))] [] σ
  exact lx_alone hd σ hc hn4 ok oi C 6 0 (by omega) (by omega)
set_option maxHeartbeats 4000000 in
set_option maxRecDepth 100000 in
theorem lx_empty {d : Nat} (hd : 1 ≤ d) (σ : gS) {W V : wF} {A I : Nat → Int} {c nt : Int} (hc : c ≤ 88000) (hn4 : nt ≤ 4) (ok : okR c nt A) (oi : okR c (I 1) I) (C : clR σ W V A I) : ∀ (n : Nat) (k : Nat), k ≤ 8 → 8 - (k : Int) < (n : Int) → sE g_tt mX6_empty d (fun r σ' => r = some (.int (iZ (((mEmp A : Nat) : Int)))) ∧ σ' = σ) 4 [some (.ref 0), some (.int (iZ ((mBs (fun (h : Nat) => mPeo A (h : Int) (A 0).toNat = 0) k : Nat) : Int))), some (.int (iZ (k : Int)))] [] σ := by
  intro n
  induction n with
  | zero =>
    intro k hk hn
    exact absurd hn (by omega)
  | succ n ih =>
    intro k hk hn
    have g := ok_gd hc hn4 ok
    have g0 := g.1
    have n1 := ok.2.2.1
    have a2 := ok_2 ok
    have g10 := g.2.2.2.2.1
    have n0 : 0 ≤ A 1 := by omega
    refine q_iload_n dX6_empty_4 rfl rfl ?_
    refine z_bipush dX6_empty_5 (by decide +kernel) ?_
    refine z_icmp_ge (tgt := 36) dX6_empty_7 (by decide) (by unfold inR at *; omega) (by unfold inR at *; omega) (fun c_1 => ?_) (fun c_1 => ?_)
    · refine q_iload_n dX6_empty_36 rfl rfl ?_
      exact s_iretZ dX6_empty_37 rfl ⟨by unfold mEmp; rw [show (8 : Nat) = k by omega], rfl⟩
    · refine q_aload_n dX6_empty_10 rfl rfl ?_
      refine sg6 (kf := 0) (v := .ref 1) dX6_empty_11 flX6_10 (show kd 0 = 6 from rfl) (by decide) rfl ?_
      refine sg5 (kf := 0) (v := .ref 2) dX6_empty_14 flX6_72 (show kd 1 = 5 from rfl) (by decide) rfl ?_
      refine q_iload_n dX6_empty_17 rfl rfl ?_
      refine s_callV (ci := 2) (a := 2) (As := [.int (iZ (k : Int))]) (S := []) dX6_empty_18 okX2_peopleIn mlX6_179 rfl (by omega) rfl (Nat.le_of_ble_eq_true rfl) (show kd 2 = 2 from rfl) (by decide) rfl (t_peopleIn (d := d - 1) (s := 2) rfl σ (z := (k : Int)) (by unfold inR; omega) g C.1.1) (fun v_ σ_ hq => ?_)
      obtain ⟨rfl, e9⟩ := hq
      have e9 := e9.symm
      subst e9
      have p32 := mPeo_32 g (k : Int)
      show sE g_tt _ _ _ 21 [some (.ref 0), some (.int (iZ ((mBs (fun (h : Nat) => mPeo A (h : Int) (A 0).toNat = 0) k : Nat) : Int))), some (.int (iZ (k : Int)))] [.int (iZ ((mPeo A (k : Int) (A 0).toNat : Nat) : Int))] σ
      refine z_if_ne (tgt := 30) dX6_empty_21 (by decide) (by unfold inR at *; omega) (fun c_2 => ?_) (fun c_2 => ?_)
      · refine z_iinc dX6_empty_30 rfl (by decide) ?_
        show sE g_tt _ _ _ 33 [some (.ref 0), some (.int (iZ ((mBs (fun (h : Nat) => mPeo A (h : Int) (A 0).toNat = 0) k : Nat) : Int))), some (.int (iZ ((k : Int) + 1)))] [] σ
        refine q_goto (tgt := 4) dX6_empty_33 (by decide) ?_
        have e : ((mBs (fun (h : Nat) => mPeo A (h : Int) (A 0).toNat = 0) (k + 1) : Nat) : Int) = ((mBs (fun (h : Nat) => mPeo A (h : Int) (A 0).toNat = 0) k : Nat) : Int) := by rw [mBs_n (by omega)]; simp
        have k9 := ih (k + 1) (by omega) (by omega)
        rw [e] at k9
        exact k9
      · refine q_iload_n dX6_empty_24 rfl rfl ?_
        refine z_iconst dX6_empty_25 ?_
        refine q_iload_n dX6_empty_26 rfl rfl ?_
        refine z_ishl (x := 1) (k := k) dX6_empty_27 (by omega) ?_
        refine z_top (y := ((2 ^ k : Nat) : Int)) (by simp) ?_
        refine z_ior (m := mBs (fun (h : Nat) => mPeo A (h : Int) (A 0).toNat = 0) k) (k := 2 ^ k) dX6_empty_28 ?_
        refine q_istore_n dX6_empty_29 rfl (by decide) ?_
        show sE g_tt _ _ _ 30 [some (.ref 0), some (.int (iZ (((mBs (fun (h : Nat) => mPeo A (h : Int) (A 0).toNat = 0) k) ||| (2 ^ k) : Nat) : Int))), some (.int (iZ (k : Int)))] [] σ
        refine z_iinc dX6_empty_30 rfl (by decide) ?_
        show sE g_tt _ _ _ 33 [some (.ref 0), some (.int (iZ (((mBs (fun (h : Nat) => mPeo A (h : Int) (A 0).toNat = 0) k) ||| (2 ^ k) : Nat) : Int))), some (.int (iZ ((k : Int) + 1)))] [] σ
        refine q_goto (tgt := 4) dX6_empty_33 (by decide) ?_
        have e : ((mBs (fun (h : Nat) => mPeo A (h : Int) (A 0).toNat = 0) (k + 1) : Nat) : Int) = (((mBs (fun (h : Nat) => mPeo A (h : Int) (A 0).toNat = 0) k) ||| (2 ^ k) : Nat) : Int) := by rw [mBs_y (by omega)]
        have k9 := ih (k + 1) (by omega) (by omega)
        rw [e] at k9
        exact k9
set_option maxHeartbeats 4000000 in
set_option maxRecDepth 100000 in
theorem x_empty {d : Nat} (hd : 1 ≤ d) (σ : gS) {W V : wF} {A I : Nat → Int} {c nt : Int} (hc : c ≤ 88000) (hn4 : nt ≤ 4) (ok : okR c nt A) (oi : okR c (I 1) I) (C : clR σ W V A I) : sC mX6_empty d [.ref 0] σ (fun r σ' => r = some (.int (iZ (((mEmp A : Nat) : Int)))) ∧ σ' = σ) := by
  refine sC_of rfl (Nat.le_of_ble_eq_true rfl) ?_
  show sE g_tt _ _ _ 0 [some (.ref 0), none, none] [] σ
  refine z_iconst dX6_empty_0 ?_
  refine q_istore_n dX6_empty_1 rfl (by decide) ?_
  show sE g_tt _ _ _ 2 [some (.ref 0), some (.int (iZ 0)), none] [] σ
  refine z_iconst dX6_empty_2 ?_
  refine q_istore_n dX6_empty_3 rfl (by decide) ?_
  show sE g_tt _ _ _ 4 [some (.ref 0), some (.int (iZ 0)), some (.int (iZ 0))] [] σ
  exact lx_empty hd σ hc hn4 ok oi C 9 0 (by have := ok.1.1; omega) (by have := ok.1.1; omega)
set_option maxHeartbeats 4000000 in
set_option maxRecDepth 100000 in
theorem lx_kindest {d : Nat} (σ : gS) {W V : wF} {A I : Nat → Int} {c nt : Int} (hc : c ≤ 88000) (hn4 : nt ≤ 4) (ok : okR c nt A) (oi : okR c (I 1) I) (C : clR σ W V A I) : ∀ (n : Nat) (k : Nat), k ≤ 8 → 8 - (k : Int) < (n : Int) → sE g_tt mX6_kindest d (fun r σ' => r = some (.int (iZ (mArg (fun h => A (11 + h)) 8))) ∧ σ' = σ) 6 [some (.ref 0), some (.int (iZ (mArg (fun h => A (11 + h)) k))), some (.int (iZ (mV (fun h => A (11 + h)) k))), some (.int (iZ (k : Int)))] [] σ := by
  intro n
  induction n with
  | zero =>
    intro k hk hn
    exact absurd hn (by omega)
  | succ n ih =>
    intro k hk hn
    have g := ok_gd hc hn4 ok
    have g0 := g.1
    have n1 := ok.2.2.1
    have a2 := ok_2 ok
    have g10 := g.2.2.2.2.1
    have n0 : 0 ≤ A 1 := by omega
    have mvr : 0 ≤ mV (fun h => A (11 + h)) k ∧ mV (fun h => A (11 + h)) k ≤ 100000 := by
      unfold mV
      rcases mArg_spec (fun h => A (11 + h)) k with e | ⟨b, hb, e⟩
      · rw [if_pos e]; omega
      · rw [e, if_neg (by omega), Int.toNat_natCast]
        have := kd_ran g (h := b) (by omega); show 0 ≤ A (11 + b) ∧ A (11 + b) ≤ 100000; omega
    have kk : k < 8 → 0 ≤ A (11 + k) ∧ A (11 + k) ≤ 100000 := fun h => by have := kd_ran g h; omega
    refine q_iload_n dX6_kindest_6 rfl rfl ?_
    refine z_bipush dX6_kindest_7 (by decide +kernel) ?_
    refine z_icmp_ge (tgt := 49) dX6_kindest_9 (by decide) (by unfold inR at *; omega) (by unfold inR at *; omega) (fun c_1 => ?_) (fun c_1 => ?_)
    · refine q_iload_n dX6_kindest_49 rfl rfl ?_
      exact s_iretZ dX6_kindest_50 rfl ⟨by rw [show (8 : Nat) = k by omega], rfl⟩
    · refine q_aload_n dX6_kindest_12 rfl rfl ?_
      refine sg6 (kf := 0) (v := .ref 1) dX6_kindest_13 flX6_10 (show kd 0 = 6 from rfl) (by decide) rfl ?_
      refine sg5 (kf := 0) (v := .ref 2) dX6_kindest_16 flX6_72 (show kd 1 = 5 from rfl) (by decide) rfl ?_
      refine sg2 (kf := 0) (v := .ref 3) dX6_kindest_19 flX6_122 (show kd 2 = 2 from rfl) (by decide) rfl ?_
      refine q_iload_n dX6_kindest_22 rfl rfl ?_
      refine s_iald (n := 8) (x := A (11 + k)) dX6_kindest_23 (show kd 3 = 100 + 8 from rfl) (by omega) (by omega) (by decide) (C.1.1.1 k (by omega)) ?_
      refine q_iload_n dX6_kindest_24 rfl rfl ?_
      refine z_icmp_le (tgt := 43) dX6_kindest_25 (by decide) (by have := kk (by omega); unfold inR; omega) (by unfold inR at *; omega) (fun c_2 => ?_) (fun c_2 => ?_)
      · refine z_iinc dX6_kindest_43 rfl (by decide) ?_
        show sE g_tt _ _ _ 46 [some (.ref 0), some (.int (iZ (mArg (fun h => A (11 + h)) k))), some (.int (iZ (mV (fun h => A (11 + h)) k))), some (.int (iZ ((k : Int) + 1)))] [] σ
        refine q_goto (tgt := 6) dX6_kindest_46 (by decide) ?_
        have e := mArg_no (f := (fun h => A (11 + h))) (k := k) (by show ¬ mV _ k < A (11 + k); omega)
        have k9 := ih (k + 1) (by omega) (by omega)
        rw [e.1, e.2] at k9
        exact k9
      · refine q_aload_n dX6_kindest_28 rfl rfl ?_
        refine sg6 (kf := 0) (v := .ref 1) dX6_kindest_29 flX6_10 (show kd 0 = 6 from rfl) (by decide) rfl ?_
        refine sg5 (kf := 0) (v := .ref 2) dX6_kindest_32 flX6_72 (show kd 1 = 5 from rfl) (by decide) rfl ?_
        refine sg2 (kf := 0) (v := .ref 3) dX6_kindest_35 flX6_122 (show kd 2 = 2 from rfl) (by decide) rfl ?_
        refine q_iload_n dX6_kindest_38 rfl rfl ?_
        refine s_iald (n := 8) (x := A (11 + k)) dX6_kindest_39 (show kd 3 = 100 + 8 from rfl) (by omega) (by omega) (by decide) (C.1.1.1 k (by omega)) ?_
        refine q_istore_n dX6_kindest_40 rfl (by decide) ?_
        show sE g_tt _ _ _ 41 [some (.ref 0), some (.int (iZ (mArg (fun h => A (11 + h)) k))), some (.int (iZ (A (11 + k)))), some (.int (iZ (k : Int)))] [] σ
        refine q_iload_n dX6_kindest_41 rfl rfl ?_
        refine q_istore_n dX6_kindest_42 rfl (by decide) ?_
        show sE g_tt _ _ _ 43 [some (.ref 0), some (.int (iZ (k : Int))), some (.int (iZ (A (11 + k)))), some (.int (iZ (k : Int)))] [] σ
        refine z_iinc dX6_kindest_43 rfl (by decide) ?_
        show sE g_tt _ _ _ 46 [some (.ref 0), some (.int (iZ (k : Int))), some (.int (iZ (A (11 + k)))), some (.int (iZ ((k : Int) + 1)))] [] σ
        refine q_goto (tgt := 6) dX6_kindest_46 (by decide) ?_
        have e := mArg_up (f := (fun h => A (11 + h))) (k := k) (by show mV _ k < A (11 + k); omega)
        have k9 := ih (k + 1) (by omega) (by omega)
        rw [e.1, e.2] at k9
        exact k9
set_option maxHeartbeats 4000000 in
set_option maxRecDepth 100000 in
theorem x_kindest {d : Nat} (σ : gS) {W V : wF} {A I : Nat → Int} {c nt : Int} (hc : c ≤ 88000) (hn4 : nt ≤ 4) (ok : okR c nt A) (oi : okR c (I 1) I) (C : clR σ W V A I) : sC mX6_kindest d [.ref 0] σ (fun r σ' => r = some (.int (iZ (mArg (fun h => A (11 + h)) 8))) ∧ σ' = σ) := by
  refine sC_of rfl (Nat.le_of_ble_eq_true rfl) ?_
  show sE g_tt _ _ _ 0 [some (.ref 0), none, none, none] [] σ
  refine z_iconst dX6_kindest_0 ?_
  refine q_istore_n dX6_kindest_1 rfl (by decide) ?_
  show sE g_tt _ _ _ 2 [some (.ref 0), some (.int (iZ (-1))), none, none] [] σ
  refine z_iconst dX6_kindest_2 ?_
  refine q_istore_n dX6_kindest_3 rfl (by decide) ?_
  show sE g_tt _ _ _ 4 [some (.ref 0), some (.int (iZ (-1))), some (.int (iZ 0)), none] [] σ
  refine z_iconst dX6_kindest_4 ?_
  refine q_istore_n dX6_kindest_5 rfl (by decide) ?_
  show sE g_tt _ _ _ 6 [some (.ref 0), some (.int (iZ (-1))), some (.int (iZ 0)), some (.int (iZ 0))] [] σ
  exact lx_kindest σ hc hn4 ok oi C 9 0 (by have := ok.1.1; omega) (by have := ok.1.1; omega)
set_option maxHeartbeats 4000000 in
set_option maxRecDepth 100000 in
theorem lx_crowded {d : Nat} (hd : 1 ≤ d) (σ : gS) {W V : wF} {A I : Nat → Int} {c nt : Int} (hc : c ≤ 88000) (hn4 : nt ≤ 4) (ok : okR c nt A) (oi : okR c (I 1) I) (C : clR σ W V A I) : ∀ (n : Nat) (k : Nat) (l4 : Option Value), k ≤ 8 → 8 - (k : Int) < (n : Int) → sE g_tt mX6_crowded d (fun r σ' => r = some (.int (iZ (mArg (fun h => mCo A h) 8))) ∧ σ' = σ) 6 [some (.ref 0), some (.int (iZ (mArg (fun h => mCo A h) k))), some (.int (iZ (mV (fun h => mCo A h) k))), some (.int (iZ (k : Int))), l4] [] σ := by
  intro n
  induction n with
  | zero =>
    intro k l4 hk hn
    exact absurd hn (by omega)
  | succ n ih =>
    intro k l4 hk hn
    have g := ok_gd hc hn4 ok
    have g0 := g.1
    have n1 := ok.2.2.1
    have a2 := ok_2 ok
    have g10 := g.2.2.2.2.1
    have n0 : 0 ≤ A 1 := by omega
    have mvr : 0 ≤ mV (fun h => mCo A h) k ∧ mV (fun h => mCo A h) k ≤ 33 := by
      unfold mV
      rcases mArg_spec (fun h => mCo A h) k with e | ⟨b, hb, e⟩
      · rw [if_pos e]; omega
      · rw [e, if_neg (by omega), Int.toNat_natCast]
        exact mCo_ran g b
    refine q_iload_n dX6_crowded_6 rfl rfl ?_
    refine z_bipush dX6_crowded_7 (by decide +kernel) ?_
    refine z_icmp_ge (tgt := 42) dX6_crowded_9 (by decide) (by unfold inR at *; omega) (by unfold inR at *; omega) (fun c_1 => ?_) (fun c_1 => ?_)
    · refine q_iload_n dX6_crowded_42 rfl rfl ?_
      exact s_iretZ dX6_crowded_43 rfl ⟨by rw [show (8 : Nat) = k by omega], rfl⟩
    · refine q_aload_n dX6_crowded_12 rfl rfl ?_
      refine sg6 (kf := 0) (v := .ref 1) dX6_crowded_13 flX6_10 (show kd 0 = 6 from rfl) (by decide) rfl ?_
      refine sg5 (kf := 0) (v := .ref 2) dX6_crowded_16 flX6_72 (show kd 1 = 5 from rfl) (by decide) rfl ?_
      refine q_iload_n dX6_crowded_19 rfl rfl ?_
      refine s_callV (ci := 2) (a := 2) (As := [.int (iZ (k : Int))]) (S := []) dX6_crowded_20 okX2_countIn mlX6_294 rfl (by omega) rfl (Nat.le_of_ble_eq_true rfl) (show kd 2 = 2 from rfl) (by decide) rfl (t_countIn (d := d - 1) (s := 2) rfl σ (z := (k : Int)) (by unfold inR; omega) g C.1.1) (fun v_ σ_ hq => ?_)
      obtain ⟨rfl, e9⟩ := hq
      have e9 := e9.symm
      subst e9
      refine z_top (y := mCo A k) (cCn_bits g0.1 g0.2 (k : Int)).symm ?_
      have mc := mCo_ran g k
      show sE g_tt _ _ _ 23 [some (.ref 0), some (.int (iZ (mArg (fun h => mCo A h) k))), some (.int (iZ (mV (fun h => mCo A h) k))), some (.int (iZ (k : Int))), l4] [.int (iZ (mCo A k))] σ
      refine q_istore dX6_crowded_23 (by decide) ?_
      show sE g_tt _ _ _ 25 [some (.ref 0), some (.int (iZ (mArg (fun h => mCo A h) k))), some (.int (iZ (mV (fun h => mCo A h) k))), some (.int (iZ (k : Int))), some (.int (iZ (mCo A k)))] [] σ
      refine q_iload dX6_crowded_25 rfl ?_
      refine q_iload_n dX6_crowded_27 rfl rfl ?_
      refine z_icmp_le (tgt := 36) dX6_crowded_28 (by decide) (by unfold inR at *; omega) (by unfold inR at *; omega) (fun c_2 => ?_) (fun c_2 => ?_)
      · refine z_iinc dX6_crowded_36 rfl (by decide) ?_
        show sE g_tt _ _ _ 39 [some (.ref 0), some (.int (iZ (mArg (fun h => mCo A h) k))), some (.int (iZ (mV (fun h => mCo A h) k))), some (.int (iZ ((k : Int) + 1))), some (.int (iZ (mCo A k)))] [] σ
        refine q_goto (tgt := 6) dX6_crowded_39 (by decide) ?_
        have e := mArg_no (f := (fun h => mCo A h)) (k := k) (by show ¬ mV _ k < mCo A k; omega)
        have k9 := ih (k + 1) (some (.int (iZ (mCo A k)))) (by omega) (by omega)
        rw [e.1, e.2] at k9
        exact k9
      · refine q_iload dX6_crowded_31 rfl ?_
        refine q_istore_n dX6_crowded_33 rfl (by decide) ?_
        show sE g_tt _ _ _ 34 [some (.ref 0), some (.int (iZ (mArg (fun h => mCo A h) k))), some (.int (iZ (mCo A k))), some (.int (iZ (k : Int))), some (.int (iZ (mCo A k)))] [] σ
        refine q_iload_n dX6_crowded_34 rfl rfl ?_
        refine q_istore_n dX6_crowded_35 rfl (by decide) ?_
        show sE g_tt _ _ _ 36 [some (.ref 0), some (.int (iZ (k : Int))), some (.int (iZ (mCo A k))), some (.int (iZ (k : Int))), some (.int (iZ (mCo A k)))] [] σ
        refine z_iinc dX6_crowded_36 rfl (by decide) ?_
        show sE g_tt _ _ _ 39 [some (.ref 0), some (.int (iZ (k : Int))), some (.int (iZ (mCo A k))), some (.int (iZ ((k : Int) + 1))), some (.int (iZ (mCo A k)))] [] σ
        refine q_goto (tgt := 6) dX6_crowded_39 (by decide) ?_
        have e := mArg_up (f := (fun h => mCo A h)) (k := k) (by show mV _ k < mCo A k; omega)
        have k9 := ih (k + 1) (some (.int (iZ (mCo A k)))) (by omega) (by omega)
        rw [e.1, e.2] at k9
        exact k9
set_option maxHeartbeats 4000000 in
set_option maxRecDepth 100000 in
theorem x_crowded {d : Nat} (hd : 1 ≤ d) (σ : gS) {W V : wF} {A I : Nat → Int} {c nt : Int} (hc : c ≤ 88000) (hn4 : nt ≤ 4) (ok : okR c nt A) (oi : okR c (I 1) I) (C : clR σ W V A I) : sC mX6_crowded d [.ref 0] σ (fun r σ' => r = some (.int (iZ (mArg (fun h => mCo A h) 8))) ∧ σ' = σ) := by
  refine sC_of rfl (Nat.le_of_ble_eq_true rfl) ?_
  show sE g_tt _ _ _ 0 [some (.ref 0), none, none, none, none] [] σ
  refine z_iconst dX6_crowded_0 ?_
  refine q_istore_n dX6_crowded_1 rfl (by decide) ?_
  show sE g_tt _ _ _ 2 [some (.ref 0), some (.int (iZ (-1))), none, none, none] [] σ
  refine z_iconst dX6_crowded_2 ?_
  refine q_istore_n dX6_crowded_3 rfl (by decide) ?_
  show sE g_tt _ _ _ 4 [some (.ref 0), some (.int (iZ (-1))), some (.int (iZ 0)), none, none] [] σ
  refine z_iconst dX6_crowded_4 ?_
  refine q_istore_n dX6_crowded_5 rfl (by decide) ?_
  show sE g_tt _ _ _ 6 [some (.ref 0), some (.int (iZ (-1))), some (.int (iZ 0)), some (.int (iZ 0)), none] [] σ
  exact lx_crowded hd σ hc hn4 ok oi C 9 0 _ (by have := ok.1.1; omega) (by have := ok.1.1; omega)
set_option maxHeartbeats 4000000 in
set_option maxRecDepth 100000 in
theorem lx_travelled {d : Nat} (hd : 2 ≤ d) (σ : gS) {W V : wF} {A I : Nat → Int} {c nt : Int} (hc : c ≤ 88000) (hn4 : nt ≤ 4) (ok : okR c nt A) (oi : okR c (I 1) I) (C : clR σ W V A I) : ∀ (n : Nat) (k : Nat) (l4 : Option Value), (k : Int) ≤ A 0 → A 0 - (k : Int) < (n : Int) → sE g_tt mX6_travelled d (fun r σ' => r = some (.int (iZ (mArg (fun p => mLn A (p : Int) (A 10).toNat) ((A 0).toNat)))) ∧ σ' = σ) 6 [some (.ref 0), some (.int (iZ (mArg (fun p => mLn A (p : Int) (A 10).toNat) k))), some (.int (iZ (mV (fun p => mLn A (p : Int) (A 10).toNat) k))), some (.int (iZ (k : Int))), l4] [] σ := by
  intro n
  induction n with
  | zero =>
    intro k l4 hk hn
    exact absurd hn (by omega)
  | succ n ih =>
    intro k l4 hk hn
    have g := ok_gd hc hn4 ok
    have g0 := g.1
    have n1 := ok.2.2.1
    have a2 := ok_2 ok
    have g10 := g.2.2.2.2.1
    have n0 : 0 ≤ A 1 := by omega
    have mvr : 0 ≤ mV (fun p => mLn A (p : Int) (A 10).toNat) k ∧ mV (fun p => mLn A (p : Int) (A 10).toNat) k ≤ 30 := by
      unfold mV
      rcases mArg_spec (fun p => mLn A (p : Int) (A 10).toNat) k with e | ⟨b, hb, e⟩
      · rw [if_pos e]; omega
      · rw [e, if_neg (by omega), Int.toNat_natCast]
        have := mLn_ran A (b : Int) (A 10).toNat; show 0 ≤ mLn A (b : Int) (A 10).toNat ∧ mLn A (b : Int) (A 10).toNat ≤ 30; omega
    refine q_iload_n dX6_travelled_6 rfl rfl ?_
    refine q_aload_n dX6_travelled_7 rfl rfl ?_
    refine sg6 (kf := 0) (v := .ref 1) dX6_travelled_8 flX6_10 (show kd 0 = 6 from rfl) (by decide) rfl ?_
    refine sg5 (kf := 0) (v := .ref 2) dX6_travelled_11 flX6_72 (show kd 1 = 5 from rfl) (by decide) rfl ?_
    refine sg2 (kf := 2) (v := .int (iZ (A 0))) dX6_travelled_14 flX6_76 (show kd 2 = 2 from rfl) (by decide) (by show some (Value.int (iZ (σ.1 2 2))) = _; rw [show σ.1 2 2 = A 0 from C.1.1.2.2.1.1]) ?_
    refine z_icmp_ge (tgt := 50) dX6_travelled_17 (by decide) (by unfold inR at *; omega) (by unfold inR at *; omega) (fun c_1 => ?_) (fun c_1 => ?_)
    · refine q_iload_n dX6_travelled_50 rfl rfl ?_
      exact s_iretZ dX6_travelled_51 rfl ⟨by rw [show (A 0).toNat = k by omega], rfl⟩
    · refine q_aload_n dX6_travelled_20 rfl rfl ?_
      refine sg6 (kf := 0) (v := .ref 1) dX6_travelled_21 flX6_10 (show kd 0 = 6 from rfl) (by decide) rfl ?_
      refine sg5 (kf := 0) (v := .ref 2) dX6_travelled_24 flX6_72 (show kd 1 = 5 from rfl) (by decide) rfl ?_
      refine q_iload_n dX6_travelled_27 rfl rfl ?_
      refine s_callV (ci := 2) (a := 2) (As := [.int (iZ (k : Int))]) (S := []) dX6_travelled_28 okX2_timesWritten mlX6_309 rfl (by omega) rfl (Nat.le_of_ble_eq_true rfl) (show kd 2 = 2 from rfl) (by decide) rfl (t_timesWritten (d := d - 1) (s := 2) (by omega) rfl σ (q := (k : Int)) (by unfold inR; omega) (by omega) (on := 1) g C.1.1 (by decide)) (fun v_ σ_ hq => ?_)
      obtain ⟨rfl, e9⟩ := hq
      have e9 := e9.symm
      subst e9
      have ml := mLn_ran A (k : Int) (A 10).toNat
      show sE g_tt _ _ _ 31 [some (.ref 0), some (.int (iZ (mArg (fun p => mLn A (p : Int) (A 10).toNat) k))), some (.int (iZ (mV (fun p => mLn A (p : Int) (A 10).toNat) k))), some (.int (iZ (k : Int))), l4] [.int (iZ (mLn A (k : Int) (A 10).toNat))] σ
      refine q_istore dX6_travelled_31 (by decide) ?_
      show sE g_tt _ _ _ 33 [some (.ref 0), some (.int (iZ (mArg (fun p => mLn A (p : Int) (A 10).toNat) k))), some (.int (iZ (mV (fun p => mLn A (p : Int) (A 10).toNat) k))), some (.int (iZ (k : Int))), some (.int (iZ (mLn A (k : Int) (A 10).toNat)))] [] σ
      refine q_iload dX6_travelled_33 rfl ?_
      refine q_iload_n dX6_travelled_35 rfl rfl ?_
      refine z_icmp_le (tgt := 44) dX6_travelled_36 (by decide) (by unfold inR at *; omega) (by unfold inR at *; omega) (fun c_2 => ?_) (fun c_2 => ?_)
      · refine z_iinc dX6_travelled_44 rfl (by decide) ?_
        show sE g_tt _ _ _ 47 [some (.ref 0), some (.int (iZ (mArg (fun p => mLn A (p : Int) (A 10).toNat) k))), some (.int (iZ (mV (fun p => mLn A (p : Int) (A 10).toNat) k))), some (.int (iZ ((k : Int) + 1))), some (.int (iZ (mLn A (k : Int) (A 10).toNat)))] [] σ
        refine q_goto (tgt := 6) dX6_travelled_47 (by decide) ?_
        have e := mArg_no (f := (fun p => mLn A (p : Int) (A 10).toNat)) (k := k) (by show ¬ mV _ k < mLn A (k : Int) (A 10).toNat; omega)
        have k9 := ih (k + 1) (some (.int (iZ (mLn A (k : Int) (A 10).toNat)))) (by omega) (by omega)
        rw [e.1, e.2] at k9
        exact k9
      · refine q_iload dX6_travelled_39 rfl ?_
        refine q_istore_n dX6_travelled_41 rfl (by decide) ?_
        show sE g_tt _ _ _ 42 [some (.ref 0), some (.int (iZ (mArg (fun p => mLn A (p : Int) (A 10).toNat) k))), some (.int (iZ (mLn A (k : Int) (A 10).toNat))), some (.int (iZ (k : Int))), some (.int (iZ (mLn A (k : Int) (A 10).toNat)))] [] σ
        refine q_iload_n dX6_travelled_42 rfl rfl ?_
        refine q_istore_n dX6_travelled_43 rfl (by decide) ?_
        show sE g_tt _ _ _ 44 [some (.ref 0), some (.int (iZ (k : Int))), some (.int (iZ (mLn A (k : Int) (A 10).toNat))), some (.int (iZ (k : Int))), some (.int (iZ (mLn A (k : Int) (A 10).toNat)))] [] σ
        refine z_iinc dX6_travelled_44 rfl (by decide) ?_
        show sE g_tt _ _ _ 47 [some (.ref 0), some (.int (iZ (k : Int))), some (.int (iZ (mLn A (k : Int) (A 10).toNat))), some (.int (iZ ((k : Int) + 1))), some (.int (iZ (mLn A (k : Int) (A 10).toNat)))] [] σ
        refine q_goto (tgt := 6) dX6_travelled_47 (by decide) ?_
        have e := mArg_up (f := (fun p => mLn A (p : Int) (A 10).toNat)) (k := k) (by show mV _ k < mLn A (k : Int) (A 10).toNat; omega)
        have k9 := ih (k + 1) (some (.int (iZ (mLn A (k : Int) (A 10).toNat)))) (by omega) (by omega)
        rw [e.1, e.2] at k9
        exact k9
set_option maxHeartbeats 4000000 in
set_option maxRecDepth 100000 in
theorem x_travelled {d : Nat} (hd : 2 ≤ d) (σ : gS) {W V : wF} {A I : Nat → Int} {c nt : Int} (hc : c ≤ 88000) (hn4 : nt ≤ 4) (ok : okR c nt A) (oi : okR c (I 1) I) (C : clR σ W V A I) : sC mX6_travelled d [.ref 0] σ (fun r σ' => r = some (.int (iZ (mArg (fun p => mLn A (p : Int) (A 10).toNat) ((A 0).toNat)))) ∧ σ' = σ) := by
  refine sC_of rfl (Nat.le_of_ble_eq_true rfl) ?_
  show sE g_tt _ _ _ 0 [some (.ref 0), none, none, none, none] [] σ
  refine z_iconst dX6_travelled_0 ?_
  refine q_istore_n dX6_travelled_1 rfl (by decide) ?_
  show sE g_tt _ _ _ 2 [some (.ref 0), some (.int (iZ (-1))), none, none, none] [] σ
  refine z_iconst dX6_travelled_2 ?_
  refine q_istore_n dX6_travelled_3 rfl (by decide) ?_
  show sE g_tt _ _ _ 4 [some (.ref 0), some (.int (iZ (-1))), some (.int (iZ 0)), none, none] [] σ
  refine z_iconst dX6_travelled_4 ?_
  refine q_istore_n dX6_travelled_5 rfl (by decide) ?_
  show sE g_tt _ _ _ 6 [some (.ref 0), some (.int (iZ (-1))), some (.int (iZ 0)), some (.int (iZ 0)), none] [] σ
  exact lx_travelled hd σ hc hn4 ok oi C 6 0 _ (by have := ok.1.1; omega) (by have := ok.1.1; omega)
theorem mLn_all (A : Nat → Int) : ∀ n : Nat, mLn A (-1) n = (n : Int) := by
  intro n
  induction n with
  | zero => rfl
  | succ n ih => rw [mLn, ih, if_pos (Or.inl rfl)]; omega
set_option maxHeartbeats 4000000 in
set_option maxRecDepth 100000 in
theorem x_ledger {d : Nat} (hd : 2 ≤ d) {q : Int} (hq0 : inR q) (σ : gS) {W V : wF} {A I : Nat → Int} {c nt : Int} (hc : c ≤ 88000) (hn4 : nt ≤ 4) (ok : okR c nt A) (oi : okR c (I 1) I) (C : clR σ W V A I) : sC mX6_ledger d [.ref 0, .int (iZ q)] σ (fun r σ' => r = some (.int (iZ (if q = -1 ∨ (0 ≤ q ∧ q < A 0) then mLn A q (A 10).toNat else -2))) ∧ σ' = σ) := by
  have g := ok_gd hc hn4 ok
  have g0 := g.1
  have n1 := ok.2.2.1
  have a2 := ok_2 ok
  have g10 := g.2.2.2.2.1
  have n0 : 0 ≤ A 1 := by omega
  refine sC_of rfl (Nat.le_of_ble_eq_true rfl) ?_
  show sE g_tt _ _ _ 0 [some (.ref 0), some (.int (iZ q))] [] σ
  refine q_iload_n dX6_ledger_0 rfl rfl ?_
  refine z_iconst dX6_ledger_1 ?_
  refine z_icmp_ne (tgt := 16) dX6_ledger_2 (by decide) (by unfold inR at *; omega) (by unfold inR at *; omega) (fun c_1 => ?_) (fun c_1 => ?_)
  · refine q_aload_n dX6_ledger_16 rfl rfl ?_
    refine q_iload_n dX6_ledger_17 rfl rfl ?_
    refine s_callV (ci := 6) (a := 0) (As := [.int (iZ q)]) (S := []) dX6_ledger_18 okX6_isPerson mlX6_187 rfl (by omega) rfl (Nat.le_of_ble_eq_true rfl) (show kd 0 = 6 from rfl) (by decide) rfl (x_isPerson (d := d - 1) (p := q) (by unfold inR at *; omega) σ hc hn4 ok oi C) (fun v_ σ_ hq => ?_)
    obtain ⟨rfl, e9⟩ := hq
    have e9 := e9.symm
    subst e9
    show sE g_tt _ _ _ 21 [some (.ref 0), some (.int (iZ q))] [.int (iZ (if 0 ≤ q ∧ q < A 0 then 1 else 0))] σ
    refine z_if_eq (tgt := 38) dX6_ledger_21 (by decide) inR_01 (fun c_2 => ?_) (fun c_2 => ?_)
    · have c_2 := if01_0 c_2
      refine z_bipush dX6_ledger_38 (by decide +kernel) ?_
      exact s_iretZ dX6_ledger_40 rfl ⟨by first | ((repeat (first | rw [if_pos (by omega)] | rw [if_neg (by omega)])); done) | (exfalso; omega), rfl⟩
    · have c_2 := if01_1 c_2
      refine q_aload_n dX6_ledger_24 rfl rfl ?_
      refine sg6 (kf := 0) (v := .ref 1) dX6_ledger_25 flX6_10 (show kd 0 = 6 from rfl) (by decide) rfl ?_
      refine sg5 (kf := 0) (v := .ref 2) dX6_ledger_28 flX6_72 (show kd 1 = 5 from rfl) (by decide) rfl ?_
      refine q_iload_n dX6_ledger_31 rfl rfl ?_
      refine s_callV (ci := 2) (a := 2) (As := [.int (iZ q)]) (S := []) dX6_ledger_32 okX2_timesWritten mlX6_309 rfl (by omega) rfl (Nat.le_of_ble_eq_true rfl) (show kd 2 = 2 from rfl) (by decide) rfl (t_timesWritten (d := d - 1) (s := 2) (by omega) rfl σ (q := q) hq0 (by omega) (on := 1) g C.1.1 (by decide)) (fun v_ σ_ hq => ?_)
      obtain ⟨rfl, e9⟩ := hq
      have e9 := e9.symm
      subst e9
      show sE g_tt _ _ _ 35 [some (.ref 0), some (.int (iZ q))] [.int (iZ (mLn A q (A 10).toNat))] σ
      refine q_goto (tgt := 40) dX6_ledger_35 (by decide) ?_
      exact s_iretZ dX6_ledger_40 rfl ⟨by first | ((repeat (first | rw [if_pos (by omega)] | rw [if_neg (by omega)])); done) | (exfalso; omega), rfl⟩
  · refine q_aload_n dX6_ledger_5 rfl rfl ?_
    refine sg6 (kf := 0) (v := .ref 1) dX6_ledger_6 flX6_10 (show kd 0 = 6 from rfl) (by decide) rfl ?_
    refine sg5 (kf := 0) (v := .ref 2) dX6_ledger_9 flX6_72 (show kd 1 = 5 from rfl) (by decide) rfl ?_
    refine sg2 (kf := 9) (v := .int (iZ (A 10))) dX6_ledger_12 flX6_206 (show kd 2 = 2 from rfl) (by decide) (by show some (Value.int (iZ (σ.1 2 9))) = _; rw [show σ.1 2 9 = A 10 from (C.1.1.2.2.2.2 (by decide)).1]) ?_
    exact s_iretZ dX6_ledger_15 rfl ⟨by rw [if_pos (by omega), show q = -1 by omega, mLn_all]; congr 3; omega, rfl⟩
set_option maxHeartbeats 4000000 in
set_option maxRecDepth 100000 in
theorem x_balance {d : Nat} (hd : 2 ≤ d)  (σ : gS) {W V : wF} {A I : Nat → Int} {c nt : Int} (hc : c ≤ 88000) (hn4 : nt ≤ 4) (ok : okR c nt A) (oi : okR c (I 1) I) (C : clR σ W V A I) : sC mX6_balance d [.ref 0] σ (fun r σ' => r = some (.int (iZ (mBal A 8))) ∧ σ' = σ) := by
  have g := ok_gd hc hn4 ok
  have g0 := g.1
  have n1 := ok.2.2.1
  have a2 := ok_2 ok
  have g10 := g.2.2.2.2.1
  have n0 : 0 ≤ A 1 := by omega
  refine sC_of rfl (Nat.le_of_ble_eq_true rfl) ?_
  show sE g_tt _ _ _ 0 [some (.ref 0)] [] σ
  refine q_aload_n dX6_balance_0 rfl rfl ?_
  refine sg6 (kf := 0) (v := .ref 1) dX6_balance_1 flX6_10 (show kd 0 = 6 from rfl) (by decide) rfl ?_
  refine sg5 (kf := 0) (v := .ref 2) dX6_balance_4 flX6_72 (show kd 1 = 5 from rfl) (by decide) rfl ?_
  refine z_iconst dX6_balance_7 ?_
  refine z_iconst dX6_balance_8 ?_
  refine s_callV (ci := 2) (a := 2) (As := [.int (iZ 0), .int (iZ 4)]) (S := []) dX6_balance_9 okX2_kindnessIn mlX6_202 rfl (by omega) rfl (Nat.le_of_ble_eq_true rfl) (show kd 2 = 2 from rfl) (by decide) rfl (t_kindnessIn (d := d - 1) (s := 2) (a := 0) (b := 4) (by omega) rfl σ (by omega) (by omega)) (fun v_ σ_ hq => ?_)
  obtain ⟨rfl, e9⟩ := hq
  have e9 := e9.symm
  subst e9
  refine z_top (y := mSum A 4 - mSum A 0) (by rw [kSum_m C.1.1.1 _ (by omega), kSum_m C.1.1.1 _ (by omega)]) ?_
  have ms1 := mSum_ran g 4 (by omega)
  have ms2 := mSum_ran g 0 (by omega)
  show sE g_tt _ _ _ 12 [some (.ref 0)] [.int (iZ (mSum A 4 - mSum A 0))] σ
  refine q_aload_n dX6_balance_12 rfl rfl ?_
  refine sg6 (kf := 0) (v := .ref 1) dX6_balance_13 flX6_10 (show kd 0 = 6 from rfl) (by decide) rfl ?_
  refine sg5 (kf := 0) (v := .ref 2) dX6_balance_16 flX6_72 (show kd 1 = 5 from rfl) (by decide) rfl ?_
  refine z_iconst dX6_balance_19 ?_
  refine z_bipush dX6_balance_20 (by decide +kernel) ?_
  refine s_callV (ci := 2) (a := 2) (As := [.int (iZ 4), .int (iZ 8)]) (S := [.int (iZ (mSum A 4 - mSum A 0))]) dX6_balance_22 okX2_kindnessIn mlX6_202 rfl (by omega) rfl (Nat.le_of_ble_eq_true rfl) (show kd 2 = 2 from rfl) (by decide) rfl (t_kindnessIn (d := d - 1) (s := 2) (a := 4) (b := 8) (by omega) rfl σ (by omega) (by omega)) (fun v_ σ_ hq => ?_)
  obtain ⟨rfl, e9⟩ := hq
  have e9 := e9.symm
  subst e9
  refine z_top (y := mSum A 8 - mSum A 4) (by rw [kSum_m C.1.1.1 _ (by omega), kSum_m C.1.1.1 _ (by omega)]) ?_
  have ms1 := mSum_ran g 8 (by omega)
  have ms2 := mSum_ran g 4 (by omega)
  show sE g_tt _ _ _ 25 [some (.ref 0)] [.int (iZ (mSum A 8 - mSum A 4)), .int (iZ (mSum A 4 - mSum A 0))] σ
  refine z_isub dX6_balance_25 ?_
  exact s_iretZ dX6_balance_26 rfl ⟨by congr 3; unfold mBal mBal mBal mBal mBal mBal mBal mBal mBal; unfold mSum mSum mSum mSum mSum mSum mSum mSum mSum; simp; omega, rfl⟩
theorem eq_arg2 {M : gM} {d s : Nat} {x y : Int} {z : Value} (e : x = y) {σ : gS} {Q : Option Value → gS → Prop} (k : sC M d [.ref s, z, .int (iZ x)] σ Q) : sC M d [.ref s, z, .int (iZ y)] σ Q := e ▸ k
set_option maxHeartbeats 4000000 in
set_option maxRecDepth 100000 in
theorem lx_middle {d : Nat} (hd : 2 ≤ d) (σ : gS) {W V : wF} {A I : Nat → Int} {c nt : Int} (hc : c ≤ 88000) (hn4 : nt ≤ 4) (ok : okR c nt A) (oi : okR c (I 1) I) (C : clR σ W V A I) : ∀ (n : Nat) (k : Nat), k ≤ 8 → 8 - (k : Int) < (n : Int) → sE g_tt mX6_middle d (fun r σ' => r = some (.int (iZ (mMid A (mSum A 8) (8 - k) k))) ∧ σ' = σ) 22 [some (.ref 0), some (.int (iZ (mSum A 8))), some (.int (iZ (k : Int)))] [] σ := by
  intro n
  induction n with
  | zero =>
    intro k hk hn
    exact absurd hn (by omega)
  | succ n ih =>
    intro k hk hn
    have g := ok_gd hc hn4 ok
    have g0 := g.1
    have n1 := ok.2.2.1
    have a2 := ok_2 ok
    have g10 := g.2.2.2.2.1
    have n0 : 0 ≤ A 1 := by omega
    have m8 := mSum_ran g 8 (by omega)
    have m88 := g.2.2.2.1
    refine q_iload_n dX6_middle_22 rfl rfl ?_
    refine z_bipush dX6_middle_23 (by decide +kernel) ?_
    refine z_icmp_ge (tgt := 56) dX6_middle_25 (by decide) (by unfold inR at *; omega) (by unfold inR at *; omega) (fun c_1 => ?_) (fun c_1 => ?_)
    · refine z_iconst dX6_middle_56 ?_
      exact s_iretZ dX6_middle_57 rfl ⟨by rw [show 8 - k = 0 by omega, mMid], rfl⟩
    · refine z_iconst dX6_middle_28 ?_
      refine q_aload_n dX6_middle_29 rfl rfl ?_
      refine sg6 (kf := 0) (v := .ref 1) dX6_middle_30 flX6_10 (show kd 0 = 6 from rfl) (by decide) rfl ?_
      refine sg5 (kf := 0) (v := .ref 2) dX6_middle_33 flX6_72 (show kd 1 = 5 from rfl) (by decide) rfl ?_
      refine z_iconst dX6_middle_36 ?_
      refine q_iload_n dX6_middle_37 rfl rfl ?_
      refine z_iconst dX6_middle_38 ?_
      refine z_iadd dX6_middle_39 ?_
      refine s_callV (ci := 2) (a := 2) (As := [.int (iZ 0), .int (iZ ((k : Int) + 1))]) (S := [.int (iZ 2)]) dX6_middle_40 okX2_kindnessIn mlX6_202 rfl (by omega) rfl (Nat.le_of_ble_eq_true rfl) (show kd 2 = 2 from rfl) (by decide) rfl (eq_arg2 (show ((k + 1 : Nat) : Int) = (k : Int) + 1 by omega) (t_kindnessIn (d := d - 1) (s := 2) (a := 0) (b := k + 1) (by omega) rfl σ (by omega) (by omega))) (fun v_ σ_ hq => ?_)
      obtain ⟨rfl, e9⟩ := hq
      have e9 := e9.symm
      subst e9
      refine z_top (y := mSum A (k + 1)) (by rw [kSum_m C.1.1.1 _ (by omega)]; show mSum A (k + 1) - 0 = _; omega) ?_
      have ms1 := mSum_ran g (k + 1) (by omega)
      show sE g_tt _ _ _ 43 [some (.ref 0), some (.int (iZ (mSum A 8))), some (.int (iZ (k : Int)))] [.int (iZ (mSum A (k + 1))), .int (iZ 2)] σ
      refine z_imul dX6_middle_43 ?_
      refine q_iload_n dX6_middle_44 rfl rfl ?_
      refine z_icmp_lt (tgt := 50) dX6_middle_45 (by decide) (by unfold inR at *; omega) (by unfold inR at *; omega) (fun c_2 => ?_) (fun c_2 => ?_)
      · refine z_iinc dX6_middle_50 rfl (by decide) ?_
        show sE g_tt _ _ _ 53 [some (.ref 0), some (.int (iZ (mSum A 8))), some (.int (iZ ((k : Int) + 1)))] [] σ
        refine q_goto (tgt := 22) dX6_middle_53 (by decide) ?_
        rw [show 8 - k = (8 - (k + 1)) + 1 by omega, mMid, if_neg (by omega)]
        exact ih (k + 1) (by omega) (by omega)
      · refine q_iload_n dX6_middle_48 rfl rfl ?_
        exact s_iretZ dX6_middle_49 rfl ⟨by rw [show 8 - k = (8 - (k + 1)) + 1 by omega, mMid, if_pos (by omega)], rfl⟩
set_option maxHeartbeats 4000000 in
set_option maxRecDepth 100000 in
theorem x_middle {d : Nat} (hd : 2 ≤ d) (σ : gS) {W V : wF} {A I : Nat → Int} {c nt : Int} (hc : c ≤ 88000) (hn4 : nt ≤ 4) (ok : okR c nt A) (oi : okR c (I 1) I) (C : clR σ W V A I) : sC mX6_middle d [.ref 0] σ (fun r σ' => r = some (.int (iZ (if 0 < mSum A 8 then mMid A (mSum A 8) 8 0 else -1))) ∧ σ' = σ) := by
  have g := ok_gd hc hn4 ok
  have g0 := g.1
  have n1 := ok.2.2.1
  have a2 := ok_2 ok
  have g10 := g.2.2.2.2.1
  have n0 : 0 ≤ A 1 := by omega
  refine sC_of rfl (Nat.le_of_ble_eq_true rfl) ?_
  show sE g_tt _ _ _ 0 [some (.ref 0), none, none] [] σ
  refine q_aload_n dX6_middle_0 rfl rfl ?_
  refine sg6 (kf := 0) (v := .ref 1) dX6_middle_1 flX6_10 (show kd 0 = 6 from rfl) (by decide) rfl ?_
  refine sg5 (kf := 0) (v := .ref 2) dX6_middle_4 flX6_72 (show kd 1 = 5 from rfl) (by decide) rfl ?_
  refine z_iconst dX6_middle_7 ?_
  refine z_bipush dX6_middle_8 (by decide +kernel) ?_
  refine s_callV (ci := 2) (a := 2) (As := [.int (iZ 0), .int (iZ 8)]) (S := []) dX6_middle_10 okX2_kindnessIn mlX6_202 rfl (by omega) rfl (Nat.le_of_ble_eq_true rfl) (show kd 2 = 2 from rfl) (by decide) rfl (t_kindnessIn (d := d - 1) (s := 2) (a := 0) (b := 8) (by omega) rfl σ (by omega) (by omega)) (fun v_ σ_ hq => ?_)
  obtain ⟨rfl, e9⟩ := hq
  have e9 := e9.symm
  subst e9
  refine z_top (y := mSum A 8 - mSum A 0) (by rw [kSum_m C.1.1.1 _ (by omega), kSum_m C.1.1.1 _ (by omega)]) ?_
  have ms1 := mSum_ran g 8 (by omega)
  have ms2 := mSum_ran g 0 (by omega)
  refine z_top (y := mSum A 8) (by show mSum A 8 - 0 = _; omega) ?_
  have m88 := g.2.2.2.1
  show sE g_tt _ _ _ 13 [some (.ref 0), none, none] [.int (iZ (mSum A 8))] σ
  refine q_istore_n dX6_middle_13 rfl (by decide) ?_
  show sE g_tt _ _ _ 14 [some (.ref 0), some (.int (iZ (mSum A 8))), none] [] σ
  refine q_iload_n dX6_middle_14 rfl rfl ?_
  refine z_if_ne (tgt := 20) dX6_middle_15 (by decide) (by unfold inR at *; omega) (fun c_1 => ?_) (fun c_1 => ?_)
  · refine z_iconst dX6_middle_20 ?_
    refine q_istore_n dX6_middle_21 rfl (by decide) ?_
    show sE g_tt _ _ _ 22 [some (.ref 0), some (.int (iZ (mSum A 8))), some (.int (iZ 0))] [] σ
    rw [if_pos (by omega)]
    exact lx_middle hd σ hc hn4 ok oi C 9 0 (by omega) (by omega)
  · refine z_iconst dX6_middle_18 ?_
    exact s_iretZ dX6_middle_19 rfl ⟨by rw [if_neg (by omega)], rfl⟩
