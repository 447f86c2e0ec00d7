/-! ===== settle, years, nights of the class ===== -/
theorem mRset_0 (W : wF) (A : Nat → Int) : mRset W A = 0 ↔ rdI W A = -1 := by
  constructor
  · intro h
    refine rdI_all (fun j hj => ?_)
    have b := mBs_bit (fun h => wA W A h + 2 ≤ A (11 + h)) j 8
    rw [show mBs (fun h => wA W A h + 2 ≤ A (11 + h)) 8 = 0 from h] at b
    simp [hj] at b
    omega
  · intro h
    apply Nat.eq_of_testBit_eq
    intro j
    unfold mRset
    rw [mBs_bit]
    by_cases q : j < 8
    · have := rdI_none h q
      simp; omega
    · simp [q]
theorem mS_non {W : wF} {n : Int} (hW : w0 W n) {A : Nat → Int} (g : gd 100000 4 A) (h1 : -1 ≤ A 2) (h2 : A 2 < n) (F : Nat → Int) {i : Nat} (hi : nonI i) : (mS W A F).2.1 i = A i := sett_lo2 hW _ _ _ g h1 h2 i (by unfold nonI at hi; omega)
theorem mS_gd {W : wF} {n : Int} (hW : w0 W n) {A : Nat → Int} (g : gd 100000 4 A) (h1 : -1 ≤ A 2) (h2 : A 2 < n) (F : Nat → Int) : gd 100000 4 (mS W A F).2.1 ∧ ((mS W A F).1.length : Int) ≤ 1000000 := by
  have pg := mPhi_ge g
  have fg := fuS_ge
  have k := sett_ok2 hW fuS A (va_up (va_up F 26 0) 25 0) g h1 h2 (by omega)
  exact ⟨k.1, by show ((sett W fuS A (va_up (va_up F 26 0) 25 0)).1.length : Int) ≤ _; omega⟩
theorem mPass_non {W V : wF} {n : Int} (hW : w0 W n) (hV : v0 V n) {A : Nat → Int} (g : gd 90000 4 A) (h1 : -1 ≤ A 2) (h2 : A 2 < n) (F : Nat → Int) {i : Nat} (hi : nonI i) : (mPass W V A F).1 i = A i := by
  have gC := gd_mPC g
  have hj := mPH_lt g
  unfold nonI at hi
  have oC : ∀ k, k < 5 ∨ 24 ≤ k → mPC A k = A k := fun k hk => by unfold mPC; rw [va_up_ne _ _ (by omega), va_up_ne _ _ (by omega), va_up_ne _ _ (by omega)]
  have oD : ∀ k, k < 11 ∨ 19 ≤ k → mPD V (mPC A) (mPH A) k = mPC A k := fun k hk => by
    unfold mPD; split
    · rw [va_up_ne _ _ (by omega)]
    · rfl
  have e2 : mPC A 2 = A 2 := oC 2 (by omega)
  have vv := hV (mPC A) (gd_mono gC (by decide)) (by omega) (by omega) _ hj
  have kr := kd_ran gC hj
  have gD : gd 100000 4 (mPD V (mPC A) (mPH A)) := by
    unfold mPD
    split
    · exact gd_kind gC hj (by split <;> omega) (by split <;> omega)
    · exact gd_mono gC (by decide)
  have d2 : mPD V (mPC A) (mPH A) 2 = A 2 := by rw [oD 2 (by omega), e2]
  show va_up (va_up (mS W (mPD V (mPC A) (mPH A)) F).2.1 9 ((mS W (mPD V (mPC A) (mPH A)) F).1.length : Int)) 5 ((mS W (mPD V (mPC A) (mPH A)) F).2.1 5 + 1) i = A i
  rw [va_up_ne _ _ (by omega), va_up_ne _ _ (by omega), mS_non hW gD (by omega) (by omega) F (by unfold nonI; omega), oD i (by omega), oC i (by omega)]
theorem mHap_non {W V : wF} {n : Int} (hW : w0 W n) (hV : v0 V n) {c : Int} {nt : Int} {A : Nat → Int} (ok : okR c nt A) (g : gd 90000 4 A) (h1 : -1 ≤ A 2) (h2 : A 2 < n) (x : Int) {j : Nat} (hj : j < 8) (F : Nat → Int) {i : Nat} (hi : nonI i) : (mHap W V x j A F).1 i = A i := by
  unfold mHap
  split
  · show (if A (11 + j) + (1 + x.tmod 3) ≤ 99 then va_up A (11 + j) (A (11 + j) + (1 + x.tmod 3)) else A) i = _
    split
    · rw [va_up_ne _ _ (by unfold nonI at hi; omega)]
    · rfl
  · split
    · split
      · exact thank_non ok F hj hi
      · rfl
    · split
      · exact mS_non hW (gd_mono g (by decide)) h1 h2 F hi
      · split
        · exact mPass_non hW hV g h1 h2 F hi
        · rfl
theorem mBs_lt (p : Nat → Prop) [DecidablePred p] : ∀ n, mBs p n < 2 ^ n := by
  intro n
  induction n with
  | zero => exact Nat.one_pos
  | succ n ih =>
    rw [mBs]
    refine Nat.or_lt_two_pow (Nat.lt_of_lt_of_le ih (Nat.pow_le_pow_right (by decide) (by omega))) ?_
    split
    · exact Nat.pow_lt_pow_right (by decide) (by omega)
    · exact Nat.two_pow_pos _
theorem x_ruleK {d : Nat} (hd : 1 ≤ d) (σ : gS) {W V : wF} {A I : Nat → Int} {c nt : Int} (hc : c ≤ 88000) (hn4 : nt ≤ 4) (ok : okR c nt A) (oi : okR c (I 1) I) (C : clR σ W V A I) {t : Int} (ht : A 2 = t) : sC mX6_rule d [.ref 0] σ (fun r σ' => r = some (.ref (txp t)) ∧ σ' = σ) := by
  have q := x_rule hd σ hc hn4 ok oi C
  rw [ht] at q
  exact q
set_option maxHeartbeats 4000000 in
set_option maxRecDepth 100000 in
theorem x_settle {d : Nat} (hd : 6 ≤ d) (F : Nat → Int) (hF : F 23 = 1) (σ : gS) {W V : wF} {A I : Nat → Int} {c nt : Int} (hc : c ≤ 88000) (hn4 : nt ≤ 4) (ok : okR c nt A) (oi : okR c (I 1) I) (C : clR σ W V A I) : sC mX6_settle d [.ref 0] σ (fun r σ' => r = some (.int (iZ (if rdI W A = -1 then -1 else ((mS W (mKeep A) F).1.length : Int)))) ∧ chg cmdP σ σ' ∧ clR σ' W V (if rdI W A = -1 then A else (mS W (mKeep A) F).2.1) I) := by
  have g := ok_gd hc hn4 ok
  have g0 := g.1
  have n1 := ok.2.2.1
  have a2 := ok_2 ok
  have g10 := g.2.2.2.2.1
  have gL : gd 100000 4 A := gd_mono g (by decide)
  have rk := rA_ok (w0_of C) gL a2.1 a2.2
  refine sC_of rfl (Nat.le_of_ble_eq_true rfl) ?_
  show sE g_tt _ _ _ 0 [some (.ref 0)] [] σ
  refine q_aload_n dX6_settle_0 rfl rfl ?_
  refine s_callV (ci := 6) (a := 0) (As := []) (S := []) dX6_settle_1 okX6_ready mlX6_136 rfl (by omega) rfl (Nat.le_of_ble_eq_true rfl) (show kd 0 = 6 from rfl) (by decide) rfl (x_ready (d := d - 1) (by omega) σ hc hn4 ok oi C) (fun v_ σ_ hq => ?_)
  obtain ⟨rfl, s0⟩ := hq
  rename gS => σ0
  have C0 := clR_ch ok oi C s0
  have m0 := mRset_0 W A
  have m8 : mRset W A < 256 := mBs_lt _ 8
  show sE g_tt _ _ _ 4 [some (.ref 0)] [.int (iZ ((mRset W A : Nat) : Int))] σ0
  refine z_if_ne (tgt := 9) dX6_settle_4 (by decide) (by unfold inR at *; omega) (fun c_1 => ?_) (fun c_1 => ?_)
  · refine q_aload_n dX6_settle_9 rfl rfl ?_
    refine sg6 (kf := 0) (v := .ref 1) dX6_settle_10 flX6_10 (show kd 0 = 6 from rfl) (by decide) rfl ?_
    refine s_callV (ci := 5) (a := 1) (As := []) (S := []) dX6_settle_13 okX5_keepStep mlX6_119 rfl (by omega) rfl (Nat.le_of_ble_eq_true rfl) (show kd 1 = 5 from rfl) (by decide) rfl (c_keep (d := d - 1) (by omega) σ0 ok C0.1) (fun v_ σ_ hq => ?_)
    obtain ⟨rfl, hc1, tw1⟩ := hq
    rename gS => σ1
    have ok1 := okR_keep ok
    have k1 : mKeep A 1 = A 1 := mKeep_o A ok.2.2.2.1.1 ok.2.2.2.1.2 (by omega)
    have k2 : mKeep A 2 = A 2 := mKeep_o A ok.2.2.2.1.1 ok.2.2.2.1.2 (by omega)
    have s1 : chg cmdP σ0 σ1 := chg_mono hc1 (fun a q => Or.inl q)
    have C1 := clR_cmd oi C0 s1 tw1 k1
    have g1 : gd 100000 4 (mKeep A) := gd_mono (ok_gd hc hn4 ok1) (by decide)
    have w1 := w0_of C1
    rw [k1] at w1
    show sE g_tt _ _ _ 16 [some (.ref 0)] [] σ1
    refine q_aload_n dX6_settle_16 rfl rfl ?_
    refine sg6 (kf := 0) (v := .ref 1) dX6_settle_17 flX6_10 (show kd 0 = 6 from rfl) (by decide) rfl ?_
    refine sg5 (kf := 0) (v := .ref 2) dX6_settle_20 flX6_72 (show kd 1 = 5 from rfl) (by decide) rfl ?_
    refine q_aload_n dX6_settle_23 rfl rfl ?_
    refine s_callV (ci := 6) (a := 0) (As := []) (S := [.ref 2]) dX6_settle_24 okX6_rule mlX6_125 rfl (by omega) rfl (Nat.le_of_ble_eq_true rfl) (show kd 0 = 6 from rfl) (by decide) rfl (x_ruleK (d := d - 1) (by omega) σ1 hc hn4 ok1 oi C1 k2) (fun v_ σ_ hq => ?_)
    obtain ⟨rfl, e9⟩ := hq
    have e9 := e9.symm
    subst e9
    show sE g_tt _ _ _ 27 [some (.ref 0)] [.ref (txp (A 2)), .ref 2] σ1
    refine s_callV (ci := 2) (a := 2) (As := [.ref (txp (A 2))]) (S := []) dX6_settle_27 okX2_settleBy mlX6_140 rfl (by omega) rfl (Nat.le_of_ble_eq_true rfl) (show kd 2 = 2 from rfl) (by decide) rfl (t_settle (d := d - 1) (s := 2) (by omega) rfl σ1 (C1.2.2.1 (A 2) a2.1 (by rw [k1]; exact a2.2)) (mKeep A) F g1 k2 (by rw [hF]; exact C1.1.1)) (fun v_ σ_ hq => ?_)
    obtain ⟨rfl, hc2, ht2, hm2, hn2⟩ := hq
    rename gS => σ2
    rw [hF] at ht2
    have n2 : chg nowP σ1 σ2 := chg_mono hc2 (fun a q => atS2_now q)
    have tw2 := twR_now ok1 C1.1 n2 ht2 (fun i hi => mS_non w1 g1 (by omega) (by omega) F hi)
    have C2 := clR_cmd oi C1 (chg_mono n2 (fun a q => nowP_cmd q)) tw2 (mS_non w1 g1 (by omega) (by omega) F (by unfold nonI; omega))
    show sE g_tt _ _ _ 30 [some (.ref 0)] [.int (iZ ((mS W (mKeep A) F).1.length : Int))] σ2
    exact s_iretZ dX6_settle_30 rfl ⟨by rw [if_neg (fun q => absurd (m0.2 q) (by omega))], chg_tr (chg_mono s0 (fun a q => Or.inr q)) (chg_tr s1 (chg_mono n2 (fun a q => nowP_cmd q))), by rw [if_neg (fun q => absurd (m0.2 q) (by omega))]; exact C2⟩
  · refine z_iconst dX6_settle_7 ?_
    exact s_iretZ dX6_settle_8 rfl ⟨by rw [if_pos (m0.1 (by omega))], chg_mono s0 (fun a q => Or.inr q), by rw [if_pos (m0.1 (by omega))]; exact C0⟩
theorem ok_gd9 {c nt : Int} {A : Nat → Int} (hc : c ≤ 89000) (hn4 : nt ≤ 4) (ok : okR c nt A) : gd 90000 4 A := gd_ntm (gd_mono ok.1 (by omega)) hn4
theorem mHap_23 (W V : wF) (x : Int) (j : Nat) (A F : Nat → Int) : (mHap W V x j A F).2 23 = F 23 := by
  unfold mHap
  split
  · rfl
  · split
    · split
      · exact mThank_F A F j (by decide) (by decide) (by decide)
      · rfl
    · split
      · exact mS_F (by decide) (by decide) (by decide)
      · split
        · exact mS_F (by decide) (by decide) (by decide)
        · rfl
set_option maxHeartbeats 4000000 in
set_option maxRecDepth 100000 in
theorem x_isTextB {d : Nat} {p : Int} (hp : inR p) (σ : gS) {W V : wF} {B I : Nat → Int} {c nt : Int} (hn4 : nt ≤ 4) (okB : okR c nt B) (C : clR σ W V B I) : sC mX6_isText d [.ref 0, .int (iZ p)] σ (fun r σ' => r = some (.int (iZ (if 0 ≤ p ∧ p < B 1 then 1 else 0))) ∧ σ' = σ) := by
  have n1 := okB.2.2.1
  have a2 := ok_2 okB
  refine sC_of rfl (Nat.le_of_ble_eq_true rfl) ?_
  show sE g_tt _ _ _ 0 [some (.ref 0), some (.int (iZ p))] [] σ
  refine q_iload_n dX6_isText_0 rfl rfl ?_
  refine z_if_lt (tgt := 24) dX6_isText_1 (by decide) (by unfold inR at *; omega) (fun c_1 => ?_) (fun c_1 => ?_)
  · refine z_iconst dX6_isText_24 ?_
    exact s_zret dX6_isText_25 rfl (by omega) ⟨by first | ((repeat (first | rw [if_pos (by omega)] | rw [if_neg (by omega)])); done) | (exfalso; omega), rfl⟩
  · refine q_iload_n dX6_isText_4 rfl rfl ?_
    refine q_aload_n dX6_isText_5 rfl rfl ?_
    refine sg6 (kf := 0) (v := .ref 1) dX6_isText_6 flX6_10 (show kd 0 = 6 from rfl) (by decide) rfl ?_
    refine sg5 (kf := 7) (v := .int (iZ (B 1))) dX6_isText_9 flX6_94 (show kd 1 = 5 from rfl) (by decide) (by show some (Value.int (iZ (σ.1 1 7))) = _; rw [C.1.2.1.2.2.1]) ?_
    refine z_icmp_ge (tgt := 24) dX6_isText_12 (by decide) (by unfold inR at *; omega) (by unfold inR at *; omega) (fun c_2 => ?_) (fun c_2 => ?_)
    · refine z_iconst dX6_isText_24 ?_
      exact s_zret dX6_isText_25 rfl (by omega) ⟨by first | ((repeat (first | rw [if_pos (by omega)] | rw [if_neg (by omega)])); done) | (exfalso; omega), rfl⟩
    · refine q_iload_n dX6_isText_15 rfl rfl ?_
      refine z_iconst dX6_isText_16 ?_
      refine z_icmp_ge (tgt := 24) dX6_isText_17 (by decide) (by unfold inR at *; omega) (by unfold inR at *; omega) (fun c_3 => ?_) (fun c_3 => ?_)
      · refine z_iconst dX6_isText_24 ?_
        exact s_zret dX6_isText_25 rfl (by omega) ⟨by first | ((repeat (first | rw [if_pos (by omega)] | rw [if_neg (by omega)])); done) | (exfalso; omega), rfl⟩
      · refine z_iconst dX6_isText_20 ?_
        refine q_goto (tgt := 25) dX6_isText_21 (by decide) ?_
        exact s_zret dX6_isText_25 rfl (by omega) ⟨by first | ((repeat (first | rw [if_pos (by omega)] | rw [if_neg (by omega)])); done) | (exfalso; omega), rfl⟩
set_option maxHeartbeats 4000000 in
set_option maxRecDepth 100000 in
theorem x_ruleB {d : Nat} (hd : 1 ≤ d) (σ : gS) {W V : wF} {B I : Nat → Int} {c nt : Int} (hn4 : nt ≤ 4) (okB : okR c nt B) (oi : okR c (I 1) I) (C : clR σ W V B I) {t : Int} (ht : B 2 = t) : sC mX6_rule d [.ref 0] σ (fun r σ' => r = some (.ref (txp t)) ∧ σ' = σ) := by
  have a2 := ok_2 okB
  have n1 := okB.2.2.1
  subst ht
  refine sC_of rfl (Nat.le_of_ble_eq_true rfl) ?_
  show sE g_tt _ _ _ 0 [some (.ref 0)] [] σ
  refine q_aload_n dX6_rule_0 rfl rfl ?_
  refine q_aload_n dX6_rule_1 rfl rfl ?_
  refine sg6 (kf := 0) (v := .ref 1) dX6_rule_2 flX6_10 (show kd 0 = 6 from rfl) (by decide) rfl ?_
  refine sg5 (kf := 8) (v := .int (iZ (B 2))) dX6_rule_5 flX6_112 (show kd 1 = 5 from rfl) (by decide) (by show some (Value.int (iZ (σ.1 1 8))) = _; rw [C.1.2.1.2.2.2]) ?_
  refine s_callV (ci := 6) (a := 0) (As := [.int (iZ (B 2))]) (S := []) dX6_rule_8 okX6_isText mlX6_109 rfl (by omega) rfl (Nat.le_of_ble_eq_true rfl) (show kd 0 = 6 from rfl) (by decide) rfl (x_isTextB (d := d - 1) (p := B 2) (by unfold inR; omega) σ hn4 okB C) (fun v_ σ_ hq => ?_)
  obtain ⟨rfl, e9⟩ := hq
  have e9 := e9.symm
  subst e9
  show sE g_tt _ _ _ 11 [some (.ref 0)] [.int (iZ (if 0 ≤ B 2 ∧ B 2 < B 1 then 1 else 0))] σ
  refine z_if_eq (tgt := 29) dX6_rule_11 (by decide) inR_01 (fun c_1 => ?_) (fun c_1 => ?_)
  · have c_1 := if01_0 c_1
    refine q_aload_n dX6_rule_29 rfl rfl ?_
    refine sg6 (kf := 3) (v := .ref 322) dX6_rule_30 flX6_26 (show kd 0 = 6 from rfl) (by decide) rfl ?_
    exact s_aret dX6_rule_33 rfl ⟨by unfold txp; rw [if_pos (by omega)], rfl⟩
  · have c_1 := if01_1 c_1
    refine q_aload_n dX6_rule_14 rfl rfl ?_
    refine sg6 (kf := 2) (v := .ref 321) dX6_rule_15 flX6_21 (show kd 0 = 6 from rfl) (by decide) rfl ?_
    refine q_aload_n dX6_rule_18 rfl rfl ?_
    refine sg6 (kf := 0) (v := .ref 1) dX6_rule_19 flX6_10 (show kd 0 = 6 from rfl) (by decide) rfl ?_
    refine sg5 (kf := 8) (v := .int (iZ (B 2))) dX6_rule_22 flX6_112 (show kd 1 = 5 from rfl) (by decide) (by show some (Value.int (iZ (σ.1 1 8))) = _; rw [C.1.2.1.2.2.2]) ?_
    refine s_aaldT (n := 4) (x := (340 + 6 * ((B 2).toNat))) dX6_rule_25 (show kd 321 = 400000 + 4 from rfl) (by omega) (by omega) (by decide) (C.2.2.2.1 ((B 2).toNat) (by omega)) ?_
    refine q_goto (tgt := 33) dX6_rule_26 (by decide) ?_
    exact s_aret dX6_rule_33 rfl ⟨by unfold txp; rw [if_neg (by omega)], rfl⟩
set_option maxHeartbeats 4000000 in
set_option maxRecDepth 100000 in
theorem lx_years {d N : Nat} {t nt : Int} (hd : 8 ≤ d) (hN : N ≤ 40) (l1 : Option Value) (σ : gS) {W V : wF} {I : Nat → Int} (hn4 : nt ≤ 4) {T : Nat → Int} (hW : wOK T 100000 nt W) (hV : vOK T 100000 nt V) : ∀ (n : Nat) (B F : Nat → Int) (k : Nat) (σ1 : gS) (c : Int), F 23 = 1 → okR c nt B → okR c (I 1) I → clR σ1 W V B I → B 2 = t → chg cmdP σ σ1 → c + 2 * ((N : Int) - (k : Int)) ≤ 86900 → k ≤ N → (N : Int) - (k : Int) < (n : Int) → sE g_tt mX6_years d (fun r σ' => r = some (.int (iZ ((mYr W V (N - k) B F).1 5))) ∧ chg cmdP σ σ' ∧ clR σ' W V (mYr W V (N - k) B F).1 I) 50 [some (.ref 0), l1, some (.int (iZ (N : Int))), some (.int (iZ (k : Int)))] [] σ1 := by
  intro n
  induction n with
  | zero =>
    intro B F k σ1 c hF okB oi C1 hB2 s1 hcc hk hn
    exact absurd hn (by omega)
  | succ n ih =>
    intro B F k σ1 c hF okB oi C1 hB2 s1 hcc hk hn
    have n1 := okB.2.2.1
    have b2 := ok_2 okB
    have b6 := okB.1.2.2.2.2.2.2.1
    have b5 := okB.1.2.2.2.2.2.1
    have hc5 : c ≤ 89000 := by omega
    have g9 : gd 90000 4 (va_up B 6 (mNew (B 6))) := gd_up (ok_gd9 hc5 hn4 okB) (Or.inl ⟨rfl, (mNew_ran b6.1).1, (mNew_ran b6.1).2⟩)
    have hnon : ∀ i, nonI i → (mHap W V (B 6) (mHj (B 6)) (va_up B 6 (mNew (B 6))) F).1 i = B i := fun i hi => by
      rw [mHap_non (w0_of C1) (v0_of C1) (okR_x okB (mNew_ran b6.1).1 (mNew_ran b6.1).2) g9 (by rw [va_up_ne _ _ (by decide)]; exact b2.1) (by rw [va_up_ne _ _ (by decide)]; exact b2.2) (B 6) (mHj_lt b6.1) F hi, va_up_ne _ _ (by unfold nonI at hi; omega)]
    refine q_iload_n dX6_years_50 rfl rfl ?_
    refine q_iload_n dX6_years_51 rfl rfl ?_
    refine z_icmp_ge (tgt := 75) dX6_years_52 (by decide) (by unfold inR at *; omega) (by unfold inR at *; omega) (fun c_1 => ?_) (fun c_1 => ?_)
    · refine q_aload_n dX6_years_75 rfl rfl ?_
      refine sg6 (kf := 0) (v := .ref 1) dX6_years_76 flX6_10 (show kd 0 = 6 from rfl) (by decide) rfl ?_
      refine sg5 (kf := 0) (v := .ref 2) dX6_years_79 flX6_72 (show kd 1 = 5 from rfl) (by decide) rfl ?_
      refine sg2 (kf := 6) (v := .int (iZ (B 5))) dX6_years_82 flX6_144 (show kd 2 = 2 from rfl) (by decide) (by show some (Value.int (iZ (σ1.1 2 6))) = _; rw [show σ1.1 2 6 = B 5 from C1.1.1.2.2.1.2.2.2.2.1]) ?_
      exact s_iretZ dX6_years_85 rfl ⟨by rw [show N - k = 0 by omega, mYr], s1, by rw [show N - k = 0 by omega, mYr]; exact C1⟩
    · refine q_aload_n dX6_years_55 rfl rfl ?_
      refine sg6 (kf := 0) (v := .ref 1) dX6_years_56 flX6_10 (show kd 0 = 6 from rfl) (by decide) rfl ?_
      refine sg5 (kf := 0) (v := .ref 2) dX6_years_59 flX6_72 (show kd 1 = 5 from rfl) (by decide) rfl ?_
      refine q_aload_n dX6_years_62 rfl rfl ?_
      refine s_callV (ci := 6) (a := 0) (As := []) (S := [.ref 2]) dX6_years_63 okX6_rule mlX6_125 rfl (by omega) rfl (Nat.le_of_ble_eq_true rfl) (show kd 0 = 6 from rfl) (by decide) rfl (x_ruleB (d := d - 1) (by omega) σ1 hn4 okB oi C1 hB2) (fun v_ σ_ hq => ?_)
      obtain ⟨rfl, e9⟩ := hq
      have e9 := e9.symm
      subst e9
      show sE g_tt _ _ _ 66 [some (.ref 0), l1, some (.int (iZ (N : Int))), some (.int (iZ (k : Int)))] [.ref (txp t), .ref 2] σ1
      refine s_callV (ci := 2) (a := 2) (As := [.ref (txp t)]) (S := []) dX6_years_66 okX2_passYear mlX6_169 rfl (by omega) rfl (Nat.le_of_ble_eq_true rfl) (show kd 2 = 2 from rfl) (by decide) rfl (t_passYear (d := d - 1) (s := 2) (by omega) rfl σ1 (C1.2.2.1 t (by omega) (by omega)) B F (ok_gd9 hc5 hn4 okB) hB2 (by rw [hF]; exact C1.1.1)) (fun v_ σ_ hq => ?_)
      obtain ⟨rfl, hc2, ht2⟩ := hq
      rename gS => σ2
      rw [hF] at ht2
      have n2 : chg nowP σ1 σ2 := chg_mono hc2 (fun a q => atS2_now q)
      have tw2 := twR_now okB C1.1 n2 ht2 (fun i hi => hnon i hi)
      have C2 := clR_cmd oi C1 (chg_mono n2 (fun a q => nowP_cmd q)) tw2 (hnon 1 (by unfold nonI; omega))
      show sE g_tt _ _ _ 69 [some (.ref 0), l1, some (.int (iZ (N : Int))), some (.int (iZ (k : Int)))] [] σ2
      refine z_iinc dX6_years_69 rfl (by decide) ?_
      show sE g_tt _ _ _ 72 [some (.ref 0), l1, some (.int (iZ (N : Int))), some (.int (iZ ((k : Int) + 1)))] [] σ2
      refine q_goto (tgt := 50) dX6_years_72 (by decide) ?_
      rw [show N - k = (N - (k + 1)) + 1 by omega, mYr]
      exact ih (mHap W V (B 6) (mHj (B 6)) (va_up B 6 (mNew (B 6))) F).1 (mHap W V (B 6) (mHj (B 6)) (va_up B 6 (mNew (B 6))) F).2 (k + 1) σ2 (c + 2) (by rw [mHap_23]; exact hF) (okR_hap hW hV (okR_x okB (mNew_ran b6.1).1 (mNew_ran b6.1).2) (by omega) b6.1 (mHj_lt b6.1) F) (okR_mono oi (by omega)) C2 (by rw [hnon 2 (by unfold nonI; omega)]; exact hB2) (chg_tr s1 (chg_mono n2 (fun a q => nowP_cmd q))) (by omega) (by omega) (by omega)
