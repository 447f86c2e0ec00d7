/-! ===== waves of the class ===== -/
theorem sett_lt8 {W : wF} : ∀ (f : Nat) (A F : Nat → Int) (x : Nat), x ∈ (sett W f A F).1 → x < 8 := by
  intro f
  induction f with
  | zero => intro A F x h; simp [sett] at h
  | succ f ih =>
    intro A F x h
    simp only [sett] at h
    split at h
    · simp at h
    · rename_i hr
      obtain ⟨j, hj, ej, _⟩ := (rdI_spec (W := W) (A := A)).resolve_left hr
      rcases List.mem_cons.mp h with e | h
      · rw [e, ej]; omega
      · exact ih _ _ _ h
theorem kSum_cong {K J : Nat → Int} : ∀ n, (∀ j, j < n → K j = J j) → kSum K n = kSum J n := by
  intro n
  induction n with
  | zero => intro _; rfl
  | succ n ih => intro h; rw [kSum, kSum, ih (fun j hj => h j (by omega)), h n (by omega)]
theorem kSum_add (K J : Nat → Int) : ∀ n, kSum (fun j => K j + J j) n = kSum K n + kSum J n := by
  intro n
  induction n with
  | zero => rfl
  | succ n ih => rw [kSum, kSum, kSum, ih]; omega
theorem kSum_one (h : Nat) : ∀ n, kSum (fun j => if j = h then 1 else 0) n = if h < n then 1 else 0 := by
  intro n
  induction n with
  | zero => rw [if_neg (by omega)]; rfl
  | succ n ih =>
    rw [kSum, ih]
    by_cases e : n = h
    · rw [if_pos e, if_neg (by omega), if_pos (by omega)]; omega
    · rw [if_neg e]
      by_cases q : h < n
      · rw [if_pos q, if_pos (by omega)]; omega
      · rw [if_neg q, if_neg (by omega)]; omega
theorem kSum_count : ∀ l : List Nat, (∀ x ∈ l, x < 8) → kSum (fun j => ((l.count j : Nat) : Int)) 8 = (l.length : Int) := by
  intro l
  induction l with
  | nil => intro _; rfl
  | cons h l ih =>
    intro q
    rw [kSum_cong 8 (fun j _ => cnt_cons h j l), kSum_add, ih (fun x hx => q x (List.mem_cons_of_mem _ hx)), kSum_one, if_pos (q h List.mem_cons_self)]
    simp
theorem rL_lt8 {W : wF} {A : Nat → Int} (x : Nat) (h : x ∈ rL W A) : x < 8 := sett_lt8 _ _ _ x h
theorem kSum_rL {W : wF} {A N : Nat → Int} (h : ∀ j, j < 8 → N j = (((rL W A).count j : Nat) : Int)) : kSum N 8 = ((rL W A).length : Int) := by
  rw [kSum_cong 8 h, kSum_count _ (fun x hx => rL_lt8 x hx)]
theorem sett_bit {W : wF} (j : Nat) : ∀ (f : Nat) (A F : Nat → Int), 0 ≤ F 26 → ((sett W f A F).2.2 26).toNat.testBit j = ((F 26).toNat.testBit j || decide (0 < (sett W f A F).1.count j)) := by
  intro f
  induction f with
  | zero => intro A F h; simp [sett]
  | succ f ih =>
    intro A F h
    simp only [sett]
    split
    · simp
    · rw [ih _ _ (by rw [mThank_26]; omega), mThank_26, Int.toNat_natCast, Nat.testBit_or, Nat.testBit_two_pow, List.count_cons]
      by_cases e : (rdI W A).toNat = j
      · simp [e]
      · simp [e]
theorem rT_bit {W : wF} {A : Nat → Int} (j : Nat) : (rT W A).toNat.testBit j = decide (0 < (rL W A).count j) := by
  have h := sett_bit (W := W) j fuS A (va_up (va_up zF 26 0) 25 0) (by show (0 : Int) ≤ 0; decide)
  have e : (va_up (va_up zF 26 0) 25 0 26).toNat.testBit j = false := by show (0 : Nat).testBit j = false; simp
  rw [e, Bool.false_or] at h
  exact h
theorem mBs_bit (p : Nat → Prop) [DecidablePred p] (j : Nat) : ∀ n, (mBs p n).testBit j = decide (j < n ∧ p j) := by
  intro n
  induction n with
  | zero => simp [mBs]
  | succ n ih =>
    rw [mBs, Nat.testBit_or, ih]
    by_cases e : j = n
    · subst e
      by_cases q : p j
      · rw [if_pos q]; simp [Nat.testBit_two_pow_self, q]
      · rw [if_neg q]; simp [q]
    · have e2 : ((if p n then 2 ^ n else 0) : Nat).testBit j = false := by
        split
        · rw [Nat.testBit_two_pow_of_ne (by omega)]
        · simp
      rw [e2]
      by_cases q : p j
      · simp [q]; omega
      · simp [q]
theorem rT_set {W : wF} {A : Nat → Int} : rT W A = ((mBs (fun j => 0 < (rL W A).count j) 8 : Nat) : Int) := by
  have h : (rT W A).toNat = mBs (fun j => 0 < (rL W A).count j) 8 := by
    apply Nat.eq_of_testBit_eq
    intro j
    rw [rT_bit, mBs_bit]
    by_cases q : j < 8
    · simp [q]
    · have z : (rL W A).count j = 0 := List.count_eq_zero.mpr (fun m => q (rL_lt8 j m))
      simp [q, z]
  have := rT_0 (W := W) (A := A)
  omega
theorem kE_sym (A B : Nat → Int) : kE A B = kE B A := by
  unfold kE
  by_cases q : ∀ j, j < 8 → A (11 + j) = B (11 + j)
  · rw [if_pos q, if_pos (fun j hj => (q j hj).symm)]
  · rw [if_neg q, if_neg (fun q2 => q (fun j hj => (q2 j hj).symm))]
theorem inc_2 (B : Nat → Int) {h : Nat} : inc B h 2 = B 2 := va_up_ne _ _ (by omega)
theorem rA_2 {T : Nat → Int} {W : wF} {nt : Int} (hW : ∀ A, gd 100000 nt A → ∀ h, h < 8 → 0 ≤ wA W A h) {A : Nat → Int} (g : gd 100000 nt A) : rA W A 2 = A 2 := sett_lo hW _ _ _ g 2 (by omega)
/-- laws say 0 at least -/
def w0 (W : wF) (n : Int) : Prop := ∀ A, gd 100000 4 A → -1 ≤ A 2 → A 2 < n → ∀ h, h < 8 → 0 ≤ wA W A h ∧ wA W A h ≤ 9
theorem w0_of {σ : gS} {W V : wF} {A I : Nat → Int} (C : clR σ W V A I) : w0 W (A 1) := fun B g h1 h2 h hh => (C.2.2.1 (B 2) h1 h2).2.2.2.1 B h g hh
theorem sett_ok2 {W : wF} {n : Int} (hW : w0 W n) : ∀ (f : Nat) (A F : Nat → Int), gd 100000 4 A → -1 ≤ A 2 → A 2 < n → mPhi A < 2 * (f : Int) → gd 100000 4 (sett W f A F).2.1 ∧ rdI W (sett W f A F).2.1 = -1 ∧ (sett W f A F).2.1 2 = A 2 ∧ 2 * ((sett W f A F).1.length : Int) ≤ mPhi A := by
  intro f
  induction f with
  | zero => intro A F g _ _ h; have := (mPhi_ge g).1; omega
  | succ f ih =>
    intro A F g h1 h2 hp
    simp only [sett]
    split
    · rename_i hr
      exact ⟨g, hr, rfl, by have := (mPhi_ge g).1; show 2 * ((0 : Nat) : Int) ≤ _; omega⟩
    · rename_i hr
      obtain ⟨j, hj, ej, hw⟩ := (rdI_spec (W := W) (A := A)).resolve_left hr
      rw [ej, Int.toNat_natCast]
      have w9 := (hW A g h1 h2 j hj).1
      have a0 := g.2.2.2.2.1
      have e2 : (mThank A F j).1 2 = A 2 := mThank_lo A F hj a0.1 a0.2 (by decide) (by decide) (by decide)
      have ps := (mThank_sum A F hj a0.1 a0.2).2
      have i9 := ih (mThank A F j).1 (mThank A F j).2 (gd_thank g F hj (by omega)) (by omega) (by omega) (by omega)
      refine ⟨i9.1, i9.2.1, by rw [i9.2.2.1, e2], ?_⟩
      simp only [List.length_cons]
      omega
theorem rA_ok {W : wF} {n : Int} (hW : w0 W n) {A : Nat → Int} (g : gd 100000 4 A) (h1 : -1 ≤ A 2) (h2 : A 2 < n) : gd 80 4 (rA W A) ∧ rA W A 2 = A 2 ∧ (∀ j, j < 8 → rA W A (11 + j) ≤ 10) ∧ ((rL W A).length : Int) ≤ 1000000 := by
  have pg := mPhi_ge g
  have fg := fuS_ge
  have k := sett_ok2 hW fuS A (va_up (va_up zF 26 0) 25 0) g h1 h2 (by omega)
  have b : ∀ j, j < 8 → rA W A (11 + j) ≤ 10 := fun j hj => by
    have a := rdI_none k.2.1 hj
    have c := (hW _ k.1 (by rw [k.2.2.1]; exact h1) (by rw [k.2.2.1]; exact h2) j hj).2
    show (sett W fuS A (va_up (va_up zF 26 0) 25 0)).2.1 (11 + j) ≤ 10
    omega
  refine ⟨⟨k.1.1, k.1.2.1, k.1.2.2.1, ?_, k.1.2.2.2.2⟩, k.2.2.1, b, by show ((sett W fuS A (va_up (va_up zF 26 0) 25 0)).1.length : Int) ≤ _; omega⟩
  rw [mSum8]
  have b0 := b 0 (by omega)
  have b1 := b 1 (by omega)
  have b2 := b 2 (by omega)
  have b3 := b 3 (by omega)
  have b4 := b 4 (by omega)
  have b5 := b 5 (by omega)
  have b6 := b 6 (by omega)
  have b7 := b 7 (by omega)
  simp only [Nat.add_zero, Nat.reduceAdd] at b0 b1 b2 b3 b4 b5 b6 b7
  show rA W A 11 + rA W A 12 + rA W A 13 + rA W A 14 + rA W A 15 + rA W A 16 + rA W A 17 + rA W A 18 ≤ 80
  omega
set_option maxHeartbeats 4000000 in
set_option maxRecDepth 100000 in
theorem x_waveOver {d h : Nat} (hd : 6 ≤ d) (hh : h < 8) (σ : gS) {W V : wF} {A I : Nat → Int} {c nt : Int} (hc : c ≤ 88000) (hn4 : nt ≤ 4) (ok : okR c nt A) (oi : okR c (I 1) I) (C : clR σ W V A I) (B : Nat → Int) (gB : gd 99000 4 B) (hB2 : B 2 = A 2) (tB : trS 0 σ 364 B) : sC mX6_waveOver d [.ref 0, .ref 364, .int (iZ (h : Int))] σ (fun r σ' => r = some (.ref 369) ∧ chg (atS 369) σ σ' ∧ trS 0 σ' 369 (rA W (inc B h)) ∧ σ'.1 369 11 = rM W (inc B h) ∧ ∀ j, j < 8 → σ'.2.1 (369 + 4) j = (((rL W (inc B h)).count j : Nat) : Int)) := by
  have g := ok_gd hc hn4 ok
  have g0 := g.1
  have n1 := ok.2.2.1
  have a2 := ok_2 ok
  have g10 := g.2.2.2.2.1
  have gL : gd 100000 4 A := gd_mono g (by decide)
  have kB := kd_ran gB hh
  have gI : gd 100000 4 (inc B h) := gd_mono (gd_inc gB hh) (by decide)
  have hI2 : inc B h 2 = A 2 := by rw [inc_2, hB2]
  refine sC_of rfl (Nat.le_of_ble_eq_true rfl) ?_
  show sE g_tt _ _ _ 0 [some (.ref 0), some (.ref 364), some (.int (iZ (h : Int))), none] [] σ
  refine q_aload_n dX6_waveOver_0 rfl rfl ?_
  refine sg6 (kf := 6) (v := .ref 334) dX6_waveOver_1 flX6_48 (show kd 0 = 6 from rfl) (by decide) rfl ?_
  refine z_iconst dX6_waveOver_4 ?_
  refine s_aaldS (n := 4) (x := 369) dX6_waveOver_5 (show kd 334 = 300000 + 4 from rfl) (by omega) (by omega) (by decide) (C.2.2.2.2 1 (by omega)) ?_
  refine q_astore_n dX6_waveOver_6 rfl (by decide) ?_
  show sE g_tt _ _ _ 7 [some (.ref 0), some (.ref 364), some (.int (iZ (h : Int))), some (.ref 369)] [] σ
  refine q_aload_n dX6_waveOver_7 rfl rfl ?_
  refine q_aload_n dX6_waveOver_8 rfl rfl ?_
  refine s_callV (ci := 2) (a := 369) (As := [.ref 364]) (S := []) dX6_waveOver_9 okX2_take mlX6_218 rfl (by omega) rfl (Nat.le_of_ble_eq_true rfl) (show kd 369 = 2 from rfl) (by decide) rfl (t_take (d := d - 1) (s := 369) (o := 364) (by omega) rfl σ rfl (by decide)) (fun v_ σ_ hq => ?_)
  obtain ⟨rfl, hc1, ht1⟩ := hq
  rename gS => σ1
  have t1 : trS 0 σ1 369 B := ht1 0 B gB.1.2 (fun q => absurd rfl q) tB
  have s1 : chg (atS 369) σ σ1 := chg_mono hc1 (fun a q => Or.inr q)
  have sa : chg (atS 369) σ (sR σ1 370 h (B (11 + h) + 1)) := chg_tr s1 (chg_mono (chg_sR σ1 370 h _) (fun a q => Or.inr (by omega)))
  have CA := clR_ch ok oi C (chg_mono sa (fun a q => atS_scr (by omega) q))
  have ta : trS 0 (sR σ1 370 h (B (11 + h) + 1)) 369 (inc B h) := trS_kind t1 hh _
  show sE g_tt _ _ _ 12 [some (.ref 0), some (.ref 364), some (.int (iZ (h : Int))), some (.ref 369)] [] σ1
  refine q_aload_n dX6_waveOver_12 rfl rfl ?_
  refine sg2 (kf := 0) (v := .ref 370) dX6_waveOver_13 flX6_122 (show kd 369 = 2 from rfl) (by decide) rfl ?_
  refine q_iload_n dX6_waveOver_16 rfl rfl ?_
  refine q_dup2 dX6_waveOver_17 rfl rfl ?_
  refine s_iald (n := 8) (x := B (11 + h)) dX6_waveOver_18 (show kd 370 = 100 + 8 from rfl) (by omega) (by omega) (by decide) (t1.1 h hh) ?_
  refine z_iconst dX6_waveOver_19 ?_
  refine z_iadd dX6_waveOver_20 ?_
  refine s_iast (n := 8) dX6_waveOver_21 (show kd 370 = 100 + 8 from rfl) (by omega) (by omega) (by decide) ?_
  refine q_aload_n dX6_waveOver_22 rfl rfl ?_
  refine q_aload_n dX6_waveOver_23 rfl rfl ?_
  refine s_callV (ci := 6) (a := 0) (As := []) (S := [.ref 369]) dX6_waveOver_24 okX6_rule mlX6_125 rfl (by omega) rfl (Nat.le_of_ble_eq_true rfl) (show kd 0 = 6 from rfl) (by decide) rfl (x_rule (d := d - 1) (by omega) (sR σ1 370 h (B (11 + h) + 1)) hc hn4 ok oi CA) (fun v_ σ_ hq => ?_)
  obtain ⟨rfl, e9⟩ := hq
  have e9 := e9.symm
  subst e9
  show sE g_tt _ _ _ 27 [some (.ref 0), some (.ref 364), some (.int (iZ (h : Int))), some (.ref 369)] [.ref (txp (A 2)), .ref 369] (sR σ1 370 h ((B (11 + h)) + 1))
  refine s_callV (ci := 2) (a := 369) (As := [.ref (txp (A 2))]) (S := []) dX6_waveOver_27 okX2_settleBy mlX6_140 rfl (by omega) rfl (Nat.le_of_ble_eq_true rfl) (show kd 369 = 2 from rfl) (by decide) rfl (t_settle (d := d - 1) (s := 369) (by omega) rfl (sR σ1 370 h (B (11 + h) + 1)) (CA.2.2.1 (A 2) a2.1 a2.2) (inc B h) zF gI hI2 ta) (fun v_ σ_ hq => ?_)
  obtain ⟨rfl, hc2, ht2, hm2, hn2⟩ := hq
  rename gS => σ2
  show sE g_tt _ _ _ 30 [some (.ref 0), some (.ref 364), some (.int (iZ (h : Int))), some (.ref 369)] [.int (iZ ((mS W (inc B h) zF).1.length : Int))] σ2
  refine q_pop dX6_waveOver_30 rfl ?_
  refine q_aload_n dX6_waveOver_31 rfl rfl ?_
  exact s_aret dX6_waveOver_32 rfl ⟨rfl, chg_tr sa hc2, ht2, hm2, hn2⟩
set_option maxHeartbeats 4000000 in
set_option maxRecDepth 100000 in
theorem x_doubleWave {d i j : Nat} (hd : 7 ≤ d) (hi : i < 8) (hj : j < 8) (σ : gS) {W V : wF} {A I : Nat → Int} {c nt : Int} (hc : c ≤ 88000) (hn4 : nt ≤ 4) (ok : okR c nt A) (oi : okR c (I 1) I) (C : clR σ W V A I) : sC mX6_doubleWave d [.ref 0, .int (iZ (i : Int)), .int (iZ (j : Int))] σ (fun r σ' => r = some (.ref 369) ∧ chg scrQ σ σ' ∧ trS 0 σ' 369 (rA W (inc (inc (rA W A) i) j)) ∧ σ'.1 369 11 = rM W (inc (inc (rA W A) i) j) ∧ (∀ k, k < 8 → σ'.2.1 (369 + 4) k = (((rL W (inc (inc (rA W A) i) j)).count k : Nat) : Int)) ∧ trS 0 σ' 364 (rA W A)) := by
  have g := ok_gd hc hn4 ok
  have g0 := g.1
  have n1 := ok.2.2.1
  have a2 := ok_2 ok
  have g10 := g.2.2.2.2.1
  have gL : gd 100000 4 A := gd_mono g (by decide)
  have rk := rA_ok (w0_of C) gL a2.1 a2.2
  obtain ⟨B, hB⟩ : ∃ B, B = rA W A := ⟨_, rfl⟩
  have gB : gd 80 4 B := by rw [hB]; exact rk.1
  have gI : gd 100000 4 (inc (inc B i) j) := gd_mono (gd_inc (gd_inc gB hi) hj) (by decide)
  have hI2 : inc (inc B i) j 2 = A 2 := by rw [inc_2, inc_2, hB]; exact rk.2.1
  have ki := kd_ran gB hi
  have kj := kd_ran (gd_inc gB hi) hj
  rw [← hB]
  refine sC_of rfl (Nat.le_of_ble_eq_true rfl) ?_
  show sE g_tt _ _ _ 0 [some (.ref 0), some (.int (iZ (i : Int))), some (.int (iZ (j : Int))), none] [] σ
  refine q_aload_n dX6_doubleWave_0 rfl rfl ?_
  refine sg6 (kf := 6) (v := .ref 334) dX6_doubleWave_1 flX6_48 (show kd 0 = 6 from rfl) (by decide) rfl ?_
  refine z_iconst dX6_doubleWave_4 ?_
  refine s_aaldS (n := 4) (x := 369) dX6_doubleWave_5 (show kd 334 = 300000 + 4 from rfl) (by omega) (by omega) (by decide) (C.2.2.2.2 1 (by omega)) ?_
  refine q_astore_n dX6_doubleWave_6 rfl (by decide) ?_
  show sE g_tt _ _ _ 7 [some (.ref 0), some (.int (iZ (i : Int))), some (.int (iZ (j : Int))), some (.ref 369)] [] σ
  refine q_aload_n dX6_doubleWave_7 rfl rfl ?_
  refine q_aload_n dX6_doubleWave_8 rfl rfl ?_
  refine s_callV (ci := 6) (a := 0) (As := []) (S := [.ref 369]) dX6_doubleWave_9 okX6_atRest mlX6_225 rfl (by omega) rfl (Nat.le_of_ble_eq_true rfl) (show kd 0 = 6 from rfl) (by decide) rfl (x_atRest (d := d - 1) (by omega) σ hc hn4 ok oi C) (fun v_ σ_ hq => ?_)
  obtain ⟨rfl, hc1, ht1, hm1, hn1⟩ := hq
  rename gS => σ1
  have C1 := clR_ch ok oi C hc1
  rw [← hB] at ht1
  show sE g_tt _ _ _ 12 [some (.ref 0), some (.int (iZ (i : Int))), some (.int (iZ (j : Int))), some (.ref 369)] [.ref 364, .ref 369] σ1
  refine s_callV (ci := 2) (a := 369) (As := [.ref 364]) (S := []) dX6_doubleWave_12 okX2_take mlX6_218 rfl (by omega) rfl (Nat.le_of_ble_eq_true rfl) (show kd 369 = 2 from rfl) (by decide) rfl (t_take (d := d - 1) (s := 369) (o := 364) (by omega) rfl σ1 rfl (by decide)) (fun v_ σ_ hq => ?_)
  obtain ⟨rfl, hc2, ht2⟩ := hq
  rename gS => σ2
  have t2 : trS 0 σ2 369 B := ht2 0 B gB.1.2 (fun q => absurd rfl q) ht1
  have ta : trS 0 (sR σ2 370 i (B (11 + i) + 1)) 369 (inc B i) := trS_kind t2 hi _
  have tb : trS 0 (sR (sR σ2 370 i (B (11 + i) + 1)) 370 j (inc B i (11 + j) + 1)) 369 (inc (inc B i) j) := trS_kind ta hj _
  have sa : chg (atS 369) σ1 (sR (sR σ2 370 i (B (11 + i) + 1)) 370 j (inc B i (11 + j) + 1)) := chg_tr (chg_mono hc2 (fun a q => Or.inr q)) (chg_tr (chg_mono (chg_sR σ2 370 i _) (fun a q => Or.inr (by omega))) (chg_mono (chg_sR _ 370 j _) (fun a q => Or.inr (by omega))))
  have CA := clR_ch ok oi C1 (chg_mono sa (fun a q => atS_scr (by omega) q))
  show sE g_tt _ _ _ 15 [some (.ref 0), some (.int (iZ (i : Int))), some (.int (iZ (j : Int))), some (.ref 369)] [] σ2
  refine q_aload_n dX6_doubleWave_15 rfl rfl ?_
  refine sg2 (kf := 0) (v := .ref 370) dX6_doubleWave_16 flX6_122 (show kd 369 = 2 from rfl) (by decide) rfl ?_
  refine q_iload_n dX6_doubleWave_19 rfl rfl ?_
  refine q_dup2 dX6_doubleWave_20 rfl rfl ?_
  refine s_iald (n := 8) (x := B (11 + i)) dX6_doubleWave_21 (show kd 370 = 100 + 8 from rfl) (by omega) (by omega) (by decide) (t2.1 i hi) ?_
  refine z_iconst dX6_doubleWave_22 ?_
  refine z_iadd dX6_doubleWave_23 ?_
  refine s_iast (n := 8) dX6_doubleWave_24 (show kd 370 = 100 + 8 from rfl) (by omega) (by omega) (by decide) ?_
  refine q_aload_n dX6_doubleWave_25 rfl rfl ?_
  refine sg2 (kf := 0) (v := .ref 370) dX6_doubleWave_26 flX6_122 (show kd 369 = 2 from rfl) (by decide) rfl ?_
  refine q_iload_n dX6_doubleWave_29 rfl rfl ?_
  refine q_dup2 dX6_doubleWave_30 rfl rfl ?_
  refine s_iald (n := 8) (x := inc B i (11 + j)) dX6_doubleWave_31 (show kd 370 = 100 + 8 from rfl) (by omega) (by omega) (by decide) (ta.1 j hj) ?_
  refine z_iconst dX6_doubleWave_32 ?_
  refine z_iadd dX6_doubleWave_33 ?_
  refine s_iast (n := 8) dX6_doubleWave_34 (show kd 370 = 100 + 8 from rfl) (by omega) (by omega) (by decide) ?_
  refine q_aload_n dX6_doubleWave_35 rfl rfl ?_
  refine q_aload_n dX6_doubleWave_36 rfl rfl ?_
  refine s_callV (ci := 6) (a := 0) (As := []) (S := [.ref 369]) dX6_doubleWave_37 okX6_rule mlX6_125 rfl (by omega) rfl (Nat.le_of_ble_eq_true rfl) (show kd 0 = 6 from rfl) (by decide) rfl (x_rule (d := d - 1) (by omega) (sR (sR σ2 370 i (B (11 + i) + 1)) 370 j (inc B i (11 + j) + 1)) hc hn4 ok oi CA) (fun v_ σ_ hq => ?_)
  obtain ⟨rfl, e9⟩ := hq
  have e9 := e9.symm
  subst e9
  show sE g_tt _ _ _ 40 [some (.ref 0), some (.int (iZ (i : Int))), some (.int (iZ (j : Int))), some (.ref 369)] [.ref (txp (A 2)), .ref 369] (sR (sR σ2 370 i ((B (11 + i)) + 1)) 370 j ((inc B i (11 + j)) + 1))
  refine s_callV (ci := 2) (a := 369) (As := [.ref (txp (A 2))]) (S := []) dX6_doubleWave_40 okX2_settleBy mlX6_140 rfl (by omega) rfl (Nat.le_of_ble_eq_true rfl) (show kd 369 = 2 from rfl) (by decide) rfl (t_settle (d := d - 1) (s := 369) (by omega) rfl (sR (sR σ2 370 i (B (11 + i) + 1)) 370 j (inc B i (11 + j) + 1)) (CA.2.2.1 (A 2) a2.1 a2.2) (inc (inc B i) j) zF gI hI2 tb) (fun v_ σ_ hq => ?_)
  obtain ⟨rfl, hc3, ht3, hm3, hn3⟩ := hq
  rename gS => σ3
  show sE g_tt _ _ _ 43 [some (.ref 0), some (.int (iZ (i : Int))), some (.int (iZ (j : Int))), some (.ref 369)] [.int (iZ ((mS W (inc (inc B i) j) zF).1.length : Int))] σ3
  refine q_pop dX6_doubleWave_43 rfl ?_
  refine q_aload_n dX6_doubleWave_44 rfl rfl ?_
  exact s_aret dX6_doubleWave_45 rfl ⟨rfl, chg_tr hc1 (chg_mono (chg_tr sa hc3) (fun a q => atS_scr (by omega) q)), ht3, hm3, hn3, trS_ch (trS_ch ht1 sa (fun a x y => by unfold atS stkP; omega)) hc3 (fun a x y => by unfold atS stkP; omega)⟩
