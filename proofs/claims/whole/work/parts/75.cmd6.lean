/-! ===== ruling, needs, said; a clause performed ===== -/
def keptI (i : Nat) : Prop := i = 0 ∨ i = 1 ∨ i = 3 ∨ (5 ≤ i ∧ i < 29) ∨ 53 ≤ i
theorem twR_misc {σ σ' : gS} {A B : Nat → Int} {c nt : Int} (ok : okR c nt A) (tw : twR σ 1 A) (ch : chg (fun a => a = 1 ∨ a = 8 ∨ a = 9 ∨ a = 10) σ σ') (e : ∀ i, keptI i → B i = A i) (f : σ'.1 1 2 = B 3 ∧ σ'.1 1 6 = B 4 ∧ σ'.1 1 7 = B 1 ∧ σ'.1 1 8 = B 2) (du : ∀ h, h < 8 → σ'.2.1 (1 + 7) h = B (29 + h) - 1) (sd : ∀ i : Nat, (i : Int) < B 4 → σ'.2.1 (1 + 8) i = B (37 + 2 * i) ∧ σ'.2.1 (1 + 9) i = B (37 + 2 * i + 1)) : twR σ' 1 B := by
  obtain ⟨t1, t2, t3, t4, π, hπ, hin, hst⟩ := tw
  have g := ok.1
  have h3 := ok.2.2.2.1
  have ei : ∀ i, idx i → B i = A i := fun i hi => e i (by unfold idx at hi; unfold keptI; omega)
  have e0 : B 0 = A 0 := e 0 (Or.inl rfl)
  have e3 : B 3 = A 3 := e 3 (by unfold keptI; omega)
  have u : ∀ q, q < 30 → ∀ j, idx j → ud B q j = ud A q j := fun q hq j hj => by
    have ep : pz B q = pz A q := by unfold pz; rw [e _ (by unfold keptI; omega)]
    rw [ud_at B q j hq (by rw [e0]; exact g.1.2), ud_at A q j hq g.1.2, ep, e0]
    unfold idx at hj
    by_cases c1 : 1553 ≤ j ∧ j < 1583
    · rw [if_pos c1, if_pos c1]; exact e _ (by unfold keptI; omega)
    · rw [if_neg c1, if_neg c1]
      by_cases c2 : 19 + pz A q ≤ j ∧ (j : Int) < 19 + A 0
      · rw [if_pos c2, if_pos c2]; exact e _ (by unfold keptI; have := g.1; omega)
      · rw [if_neg c2, if_neg c2]
        by_cases c3 : 5 ≤ j ∧ j < 24
        · rw [if_pos c3, if_pos c3]; exact e _ (by unfold keptI; omega)
        · rw [if_neg c3, if_neg c3, if_neg (by omega), if_neg (by omega), show j = 0 by omega]; exact e0
  refine ⟨?_, f, du, sd, π, fun i hi => ?_, hin, fun i hi => ?_⟩
  · exact trS_cong (trS_ch t1 ch (fun a x y => by omega)) g.1.2 (fun _ => g.2.2.2.2.1.2) ei
  · rw [(ch.1 (1 + 6) (by omega)).2.2.1]; exact hπ i hi
  · rw [e3] at hi
    have pi := hπ i (by omega)
    have u5 := ud_05 ok hi
    exact trS_cong (trS_ch (hst i hi) ch (fun a x y => by omega)) u5.1 (fun _ => u5.2) (fun j hj => u i (by omega) j hj)
theorem misc_cmd {a : Nat} (q : a = 1 ∨ a = 8 ∨ a = 9 ∨ a = 10) : cmdP a := Or.inl (by unfold inT; omega)
theorem by_end {σ : gS} {W V : wF} {A I : Nat → Int} {c nt : Int} (ok : okR c nt A) (oi : okR c (I 1) I) (C : clR σ W V A I) (n : Int) : clR (sI σ 1 8 n) W V (va_up A 2 n) I := by
  have ch : chg (fun a => a = 1 ∨ a = 8 ∨ a = 9 ∨ a = 10) σ (sI σ 1 8 n) := chg_mono (chg_sI σ 1 8 n) (fun a q => Or.inl q)
  have t := C.1.2
  refine clR_cmd oi C (chg_mono ch (fun a q => misc_cmd q)) ?_ (va_up_ne _ _ (by decide))
  refine twR_misc ok C.1 ch (fun i hi => va_up_ne _ _ (by unfold keptI at hi; omega)) ⟨?_, ?_, ?_, ?_⟩ (fun h hh => ?_) (fun i hi => ?_)
  · rw [sI_k _ _ _ (by decide), va_up_ne _ _ (by decide)]; exact t.1.1
  · rw [sI_k _ _ _ (by decide), va_up_ne _ _ (by decide)]; exact t.1.2.1
  · rw [sI_k _ _ _ (by decide), va_up_ne _ _ (by decide)]; exact t.1.2.2.1
  · rw [sI_at, va_up_self]
  · rw [va_up_ne _ _ (by omega)]; exact t.2.1 h hh
  · rw [va_up_ne _ _ (by decide)] at hi; rw [va_up_ne _ _ (by omega), va_up_ne _ _ (by omega)]; exact t.2.2.1 i hi
theorem need_end {σ : gS} {W V : wF} {A I : Nat → Int} {c nt : Int} (ok : okR c nt A) (oi : okR c (I 1) I) (C : clR σ W V A I) {h : Nat} (hh : h < 8) (u : Int) : clR (sR σ 8 h u) W V (va_up A (29 + h) (u + 1)) I := by
  have ch : chg (fun a => a = 1 ∨ a = 8 ∨ a = 9 ∨ a = 10) σ (sR σ 8 h u) := chg_mono (chg_sR σ 8 h u) (fun a q => Or.inr (Or.inl q))
  have t := C.1.2
  have i8 := ok.2.2.2.2.1
  refine clR_cmd oi C (chg_mono ch (fun a q => misc_cmd q)) ?_ (va_up_ne _ _ (by omega))
  refine twR_misc ok C.1 ch (fun i hi => va_up_ne _ _ (by unfold keptI at hi; omega)) ⟨?_, ?_, ?_, ?_⟩ (fun k hk => ?_) (fun i hi => ?_)
  · rw [va_up_ne _ _ (by omega)]; exact t.1.1
  · rw [va_up_ne _ _ (by omega)]; exact t.1.2.1
  · rw [va_up_ne _ _ (by omega)]; exact t.1.2.2.1
  · rw [va_up_ne _ _ (by omega)]; exact t.1.2.2.2
  · show up2 σ.2.1 8 h u 8 k = _
    by_cases e : k = h
    · subst e; rw [up2_at, va_up_self]; omega
    · rw [up2_k _ _ e, va_up_ne _ _ (by omega)]; exact t.2.1 k hk
  · rw [va_up_ne _ _ (by omega)] at hi
    show up2 σ.2.1 8 h u 9 i = _ ∧ up2 σ.2.1 8 h u 10 i = _
    rw [up2_ne _ _ _ (by decide), up2_ne _ _ _ (by decide), va_up_ne _ _ (by omega), va_up_ne _ _ (by omega)]; exact t.2.2.1 i hi
theorem said0_end {σ : gS} {W V : wF} {A I : Nat → Int} {c nt : Int} (ok : okR c nt A) (oi : okR c (I 1) I) (C : clR σ W V A I) : clR (sI σ 1 6 0) W V (va_up A 4 0) I := by
  have ch : chg (fun a => a = 1 ∨ a = 8 ∨ a = 9 ∨ a = 10) σ (sI σ 1 6 0) := chg_mono (chg_sI σ 1 6 0) (fun a q => Or.inl q)
  have t := C.1.2
  refine clR_cmd oi C (chg_mono ch (fun a q => misc_cmd q)) ?_ (va_up_ne _ _ (by decide))
  refine twR_misc ok C.1 ch (fun i hi => va_up_ne _ _ (by unfold keptI at hi; omega)) ⟨?_, ?_, ?_, ?_⟩ (fun h hh => ?_) (fun i hi => ?_)
  · rw [sI_k _ _ _ (by decide), va_up_ne _ _ (by decide)]; exact t.1.1
  · rw [sI_at, va_up_self]
  · rw [sI_k _ _ _ (by decide), va_up_ne _ _ (by decide)]; exact t.1.2.2.1
  · rw [sI_k _ _ _ (by decide), va_up_ne _ _ (by decide)]; exact t.1.2.2.2
  · rw [va_up_ne _ _ (by omega)]; exact t.2.1 h hh
  · rw [va_up_self] at hi; omega
theorem said_end {σ : gS} {W V : wF} {A I : Nat → Int} {c nt : Int} (ok : okR c nt A) (oi : okR c (I 1) I) (C : clR σ W V A I) {k : Nat} (hk : A 4 = (k : Int)) (hk8 : k < 8) (h v : Int) : clR (sI (sR (sR σ 9 k h) 10 k v) 1 6 ((k : Int) + 1)) W V (va_up (va_up (va_up A (37 + 2 * k) h) (37 + 2 * k + 1) v) 4 ((k : Int) + 1)) I := by
  have ch : chg (fun a => a = 1 ∨ a = 8 ∨ a = 9 ∨ a = 10) σ (sI (sR (sR σ 9 k h) 10 k v) 1 6 ((k : Int) + 1)) := chg_tr (chg_mono (chg_sR σ 9 k h) (fun a q => Or.inr (Or.inr (Or.inl q)))) (chg_tr (chg_mono (chg_sR _ 10 k v) (fun a q => Or.inr (Or.inr (Or.inr q)))) (chg_mono (chg_sI _ 1 6 _) (fun a q => Or.inl q)))
  have t := C.1.2
  have lo : ∀ i, i ≠ 4 → i ≠ 37 + 2 * k → i ≠ 37 + 2 * k + 1 → va_up (va_up (va_up A (37 + 2 * k) h) (37 + 2 * k + 1) v) 4 ((k : Int) + 1) i = A i := fun i a b d => by rw [va_up_ne _ _ a, va_up_ne _ _ d, va_up_ne _ _ b]
  refine clR_cmd oi C (chg_mono ch (fun a q => misc_cmd q)) ?_ (lo 1 (by omega) (by omega) (by omega))
  refine twR_misc ok C.1 ch (fun i hi => lo i (by unfold keptI at hi; omega) (by unfold keptI at hi; omega) (by unfold keptI at hi; omega)) ⟨?_, ?_, ?_, ?_⟩ (fun q hq => ?_) (fun i hi => ?_)
  · rw [sI_k _ _ _ (by decide), lo 3 (by omega) (by omega) (by omega)]; exact t.1.1
  · rw [sI_at, va_up_self]
  · rw [sI_k _ _ _ (by decide), lo 1 (by omega) (by omega) (by omega)]; exact t.1.2.2.1
  · rw [sI_k _ _ _ (by decide), lo 2 (by omega) (by omega) (by omega)]; exact t.1.2.2.2
  · rw [lo _ (by omega) (by omega) (by omega)]; exact t.2.1 q hq
  · rw [va_up_self] at hi
    show up2 (up2 σ.2.1 9 k h) 10 k v 9 i = _ ∧ up2 (up2 σ.2.1 9 k h) 10 k v 10 i = _
    rw [up2_ne _ _ _ (by decide)]
    by_cases e : i = k
    · subst e
      rw [up2_at, up2_at, va_up_ne _ _ (by omega), va_up_ne _ _ (by omega), va_up_self, va_up_ne _ _ (by omega), va_up_self]
      exact ⟨rfl, rfl⟩
    · rw [up2_k _ _ e, up2_k _ _ e, up2_ne _ _ _ (by decide), lo _ (by omega) (by omega) (by omega), lo _ (by omega) (by omega) (by omega)]
      exact t.2.2.1 i (by omega)
set_option maxHeartbeats 4000000 in
set_option maxRecDepth 100000 in
theorem x_by {d : Nat} (hd : 1 ≤ d) {n : Int} (hn : inR n) (σ : gS) {W V : wF} {A I : Nat → Int} {c nt : Int} (hc : c ≤ 88000) (hn4 : nt ≤ 4) (ok : okR c nt A) (oi : okR c (I 1) I) (C : clR σ W V A I) (n0 : 0 ≤ nt) : sC mX6_by d [.ref 0, .int (iZ n)] σ (fun r σ' => r = some (.int (iZ (if -1 ≤ n ∧ n ≤ A 1 - 1 then 1 else 0))) ∧ chg cmdP σ σ' ∧ clR σ' W V (if -1 ≤ n ∧ n ≤ A 1 - 1 then va_up A 2 n else A) I) := by
  have g := ok_gd hc hn4 ok
  have g0 := g.1
  have n1 := ok.2.2.1
  have a2 := ok_2 ok
  have g10 := g.2.2.2.2.1
  have gL : gd 100000 4 A := gd_mono g (by decide)
  have rk := rA_ok (w0_of C) gL a2.1 a2.2
  refine sC_of rfl (Nat.le_of_ble_eq_true rfl) ?_
  show sE g_tt _ _ _ 0 [some (.ref 0), some (.int (iZ n))] [] σ
  refine q_iload_n dX6_by_0 rfl rfl ?_
  refine z_iconst dX6_by_1 ?_
  refine z_icmp_eq (tgt := 15) dX6_by_2 (by decide) (by unfold inR at *; omega) (by unfold inR at *; omega) (fun c_1 => ?_) (fun c_1 => ?_)
  · refine q_aload_n dX6_by_15 rfl rfl ?_
    refine sg6 (kf := 0) (v := .ref 1) dX6_by_16 flX6_10 (show kd 0 = 6 from rfl) (by decide) rfl ?_
    refine q_iload_n dX6_by_19 rfl rfl ?_
    refine sp5 (kf := 8) dX6_by_20 flX6_112 (show kd 1 = 5 from rfl) (by decide) ?_
    refine z_iconst dX6_by_23 ?_
    exact s_zret dX6_by_24 rfl (by omega) ⟨by first | ((repeat (first | rw [if_pos (by omega)] | rw [if_neg (by omega)])); done) | (exfalso; omega), chg_mono (chg_sI σ 1 8 n) (fun a q => misc_cmd (Or.inl q)), by rw [if_pos (by omega)]; exact by_end ok oi C n⟩
  · refine q_aload_n dX6_by_5 rfl rfl ?_
    refine q_iload_n dX6_by_6 rfl rfl ?_
    refine s_callV (ci := 6) (a := 0) (As := [.int (iZ n)]) (S := []) dX6_by_7 okX6_isText mlX6_109 rfl (by omega) rfl (Nat.le_of_ble_eq_true rfl) (show kd 0 = 6 from rfl) (by decide) rfl (x_isText (d := d - 1) (p := n) (by unfold inR at *; omega) σ hc hn4 ok oi C) (fun v_ σ_ hq => ?_)
    obtain ⟨rfl, e9⟩ := hq
    have e9 := e9.symm
    subst e9
    show sE g_tt _ _ _ 10 [some (.ref 0), some (.int (iZ n))] [.int (iZ (if 0 ≤ n ∧ n < A 1 then 1 else 0))] σ
    refine z_if_ne (tgt := 15) dX6_by_10 (by decide) inR_01 (fun c_2 => ?_) (fun c_2 => ?_)
    · have c_2 := if01_1 c_2
      refine q_aload_n dX6_by_15 rfl rfl ?_
      refine sg6 (kf := 0) (v := .ref 1) dX6_by_16 flX6_10 (show kd 0 = 6 from rfl) (by decide) rfl ?_
      refine q_iload_n dX6_by_19 rfl rfl ?_
      refine sp5 (kf := 8) dX6_by_20 flX6_112 (show kd 1 = 5 from rfl) (by decide) ?_
      refine z_iconst dX6_by_23 ?_
      exact s_zret dX6_by_24 rfl (by omega) ⟨by first | ((repeat (first | rw [if_pos (by omega)] | rw [if_neg (by omega)])); done) | (exfalso; omega), chg_mono (chg_sI σ 1 8 n) (fun a q => misc_cmd (Or.inl q)), by rw [if_pos (by omega)]; exact by_end ok oi C n⟩
    · have c_2 := if01_0 c_2
      refine z_iconst dX6_by_13 ?_
      exact s_zret dX6_by_14 rfl (by omega) ⟨by first | ((repeat (first | rw [if_pos (by omega)] | rw [if_neg (by omega)])); done) | (exfalso; omega), chg_rf _ _, by rw [if_neg (by omega)]; exact C⟩
set_option maxHeartbeats 4000000 in
set_option maxRecDepth 100000 in
theorem x_need {d : Nat} (hd : 1 ≤ d) {h u : Int} (hh : inR h) (hu : inR u) (σ : gS) {W V : wF} {A I : Nat → Int} {c nt : Int} (hc : c ≤ 88000) (hn4 : nt ≤ 4) (ok : okR c nt A) (oi : okR c (I 1) I) (C : clR σ W V A I) : sC mX6_need d [.ref 0, .int (iZ h), .int (iZ u)] σ (fun r σ' => r = some (.int (iZ (if (0 ≤ h ∧ h < 8) ∧ -1 ≤ u ∧ u ≤ 30 then 1 else 0))) ∧ chg cmdP σ σ' ∧ clR σ' W V (if (0 ≤ h ∧ h < 8) ∧ -1 ≤ u ∧ u ≤ 30 then va_up A (29 + h).toNat (u + 1) else A) I) := by
  have g := ok_gd hc hn4 ok
  have g0 := g.1
  have n1 := ok.2.2.1
  have a2 := ok_2 ok
  have g10 := g.2.2.2.2.1
  have gL : gd 100000 4 A := gd_mono g (by decide)
  have rk := rA_ok (w0_of C) gL a2.1 a2.2
  refine sC_of rfl (Nat.le_of_ble_eq_true rfl) ?_
  show sE g_tt _ _ _ 0 [some (.ref 0), some (.int (iZ h)), some (.int (iZ u))] [] σ
  refine q_iload_n dX6_need_0 rfl rfl ?_
  refine s_callS (As := [.int (iZ h)]) (S := []) dX6_need_1 okX6_isHouse mlX6_68 rfl (by omega) rfl (Nat.le_of_ble_eq_true rfl) (c_isHouse (d := d - 1) (z := h) (by unfold inR at *; omega) σ) (fun v_ σ_ hq => ?_)
  obtain ⟨rfl, e9⟩ := hq
  have e9 := e9.symm
  subst e9
  show sE g_tt _ _ _ 4 [some (.ref 0), some (.int (iZ h)), some (.int (iZ u))] [.int (iZ (if 0 ≤ h ∧ h < 8 then 1 else 0))] σ
  refine z_if_eq (tgt := 18) dX6_need_4 (by decide) inR_01 (fun c_1 => ?_) (fun c_1 => ?_)
  · have c_1 := if01_0 c_1
    refine z_iconst dX6_need_18 ?_
    exact s_zret dX6_need_19 rfl (by omega) ⟨by first | ((repeat (first | rw [if_pos (by omega)] | rw [if_neg (by omega)])); done) | (exfalso; omega), chg_rf _ _, by rw [if_neg (by omega)]; exact C⟩
  · have c_1 := if01_1 c_1
    refine q_iload_n dX6_need_7 rfl rfl ?_
    refine z_iconst dX6_need_8 ?_
    refine z_icmp_lt (tgt := 18) dX6_need_9 (by decide) (by unfold inR at *; omega) (by unfold inR at *; omega) (fun c_2 => ?_) (fun c_2 => ?_)
    · refine z_iconst dX6_need_18 ?_
      exact s_zret dX6_need_19 rfl (by omega) ⟨by first | ((repeat (first | rw [if_pos (by omega)] | rw [if_neg (by omega)])); done) | (exfalso; omega), chg_rf _ _, by rw [if_neg (by omega)]; exact C⟩
    · refine q_iload_n dX6_need_12 rfl rfl ?_
      refine z_bipush dX6_need_13 (by decide +kernel) ?_
      refine z_icmp_le (tgt := 20) dX6_need_15 (by decide) (by unfold inR at *; omega) (by unfold inR at *; omega) (fun c_3 => ?_) (fun c_3 => ?_)
      · refine q_aload_n dX6_need_20 rfl rfl ?_
        refine sg6 (kf := 0) (v := .ref 1) dX6_need_21 flX6_10 (show kd 0 = 6 from rfl) (by decide) rfl ?_
        refine sg5 (kf := 3) (v := .ref 8) dX6_need_24 flX6_278 (show kd 1 = 5 from rfl) (by decide) rfl ?_
        refine q_iload_n dX6_need_27 rfl rfl ?_
        refine q_iload_n dX6_need_28 rfl rfl ?_
        refine s_iast (n := 8) dX6_need_29 (show kd 8 = 100 + 8 from rfl) (by omega) (by omega) (by decide) ?_
        refine z_iconst dX6_need_30 ?_
        exact s_zret dX6_need_31 rfl (by omega) ⟨by first | ((repeat (first | rw [if_pos (by omega)] | rw [if_neg (by omega)])); done) | (exfalso; omega), chg_mono (chg_sR σ 8 _ u) (fun a q => misc_cmd (Or.inr (Or.inl q))), by rw [if_pos (by omega), show (29 + h).toNat = 29 + h.toNat by omega]; exact need_end ok oi C (h := h.toNat) (by omega) u⟩
      · refine z_iconst dX6_need_18 ?_
        exact s_zret dX6_need_19 rfl (by omega) ⟨by first | ((repeat (first | rw [if_pos (by omega)] | rw [if_neg (by omega)])); done) | (exfalso; omega), chg_rf _ _, by rw [if_neg (by omega)]; exact C⟩
set_option maxHeartbeats 4000000 in
set_option maxRecDepth 100000 in
theorem x_said {d : Nat} (hd : 1 ≤ d) {h n : Int} (hh : inR h) (hn : inR n) (σ : gS) {W V : wF} {A I : Nat → Int} {c nt : Int} (hc : c ≤ 88000) (hn4 : nt ≤ 4) (ok : okR c nt A) (oi : okR c (I 1) I) (C : clR σ W V A I) : sC mX6_said d [.ref 0, .int (iZ h), .int (iZ n)] σ (fun r σ' => r = some (.int (iZ (if h = -1 then 0 else if ¬ (0 ≤ h ∧ h < 8) ∨ ¬ (0 ≤ n ∧ n ≤ 9) ∨ A 4 = 8 then -2 else A 4 + 1))) ∧ chg cmdP σ σ' ∧ clR σ' W V (if h = -1 then va_up A 4 0 else if ¬ (0 ≤ h ∧ h < 8) ∨ ¬ (0 ≤ n ∧ n ≤ 9) ∨ A 4 = 8 then A else va_up (va_up (va_up A (37 + 2 * A 4).toNat h) (37 + 2 * A 4 + 1).toNat n) 4 (A 4 + 1)) I) := by
  have g := ok_gd hc hn4 ok
  have g0 := g.1
  have n1 := ok.2.2.1
  have a2 := ok_2 ok
  have g10 := g.2.2.2.2.1
  have gL : gd 100000 4 A := gd_mono g (by decide)
  have rk := rA_ok (w0_of C) gL a2.1 a2.2
  have i8 := ok.2.2.2.2.1
  refine sC_of rfl (Nat.le_of_ble_eq_true rfl) ?_
  show sE g_tt _ _ _ 0 [some (.ref 0), some (.int (iZ h)), some (.int (iZ n))] [] σ
  refine q_iload_n dX6_said_0 rfl rfl ?_
  refine z_iconst dX6_said_1 ?_
  refine z_icmp_ne (tgt := 15) dX6_said_2 (by decide) (by unfold inR at *; omega) (by unfold inR at *; omega) (fun c_1 => ?_) (fun c_1 => ?_)
  · refine q_iload_n dX6_said_15 rfl rfl ?_
    refine s_callS (As := [.int (iZ h)]) (S := []) dX6_said_16 okX6_isHouse mlX6_68 rfl (by omega) rfl (Nat.le_of_ble_eq_true rfl) (c_isHouse (d := d - 1) (z := h) (by unfold inR at *; omega) σ) (fun v_ σ_ hq => ?_)
    obtain ⟨rfl, e9⟩ := hq
    have e9 := e9.symm
    subst e9
    show sE g_tt _ _ _ 19 [some (.ref 0), some (.int (iZ h)), some (.int (iZ n))] [.int (iZ (if 0 ≤ h ∧ h < 8 then 1 else 0))] σ
    refine z_if_eq (tgt := 44) dX6_said_19 (by decide) inR_01 (fun c_2 => ?_) (fun c_2 => ?_)
    · have c_2 := if01_0 c_2
      refine z_bipush dX6_said_44 (by decide +kernel) ?_
      exact s_iretZ dX6_said_46 rfl ⟨by rw [if_neg (by omega), if_pos (by omega)], chg_rf _ _, by rw [if_neg (by omega), if_pos (by omega)]; exact C⟩
    · have c_2 := if01_1 c_2
      refine q_iload_n dX6_said_22 rfl rfl ?_
      refine z_if_lt (tgt := 44) dX6_said_23 (by decide) (by unfold inR at *; omega) (fun c_3 => ?_) (fun c_3 => ?_)
      · refine z_bipush dX6_said_44 (by decide +kernel) ?_
        exact s_iretZ dX6_said_46 rfl ⟨by rw [if_neg (by omega), if_pos (by omega)], chg_rf _ _, by rw [if_neg (by omega), if_pos (by omega)]; exact C⟩
      · refine q_iload_n dX6_said_26 rfl rfl ?_
        refine z_bipush dX6_said_27 (by decide +kernel) ?_
        refine z_icmp_gt (tgt := 44) dX6_said_29 (by decide) (by unfold inR at *; omega) (by unfold inR at *; omega) (fun c_4 => ?_) (fun c_4 => ?_)
        · refine z_bipush dX6_said_44 (by decide +kernel) ?_
          exact s_iretZ dX6_said_46 rfl ⟨by rw [if_neg (by omega), if_pos (by omega)], chg_rf _ _, by rw [if_neg (by omega), if_pos (by omega)]; exact C⟩
        · refine q_aload_n dX6_said_32 rfl rfl ?_
          refine sg6 (kf := 0) (v := .ref 1) dX6_said_33 flX6_10 (show kd 0 = 6 from rfl) (by decide) rfl ?_
          refine sg5 (kf := 6) (v := .int (iZ (A 4))) dX6_said_36 flX6_297 (show kd 1 = 5 from rfl) (by decide) (by show some (Value.int (iZ (σ.1 1 6))) = _; rw [C.1.2.1.2.1]) ?_
          refine z_bipush dX6_said_39 (by decide +kernel) ?_
          refine z_icmp_lt (tgt := 47) dX6_said_41 (by decide) (by unfold inR at *; omega) (by unfold inR at *; omega) (fun c_5 => ?_) (fun c_5 => ?_)
          · refine q_aload_n dX6_said_47 rfl rfl ?_
            refine sg6 (kf := 0) (v := .ref 1) dX6_said_48 flX6_10 (show kd 0 = 6 from rfl) (by decide) rfl ?_
            refine sg5 (kf := 4) (v := .ref 9) dX6_said_51 flX6_300 (show kd 1 = 5 from rfl) (by decide) rfl ?_
            refine q_aload_n dX6_said_54 rfl rfl ?_
            refine sg6 (kf := 0) (v := .ref 1) dX6_said_55 flX6_10 (show kd 0 = 6 from rfl) (by decide) rfl ?_
            refine sg5 (kf := 6) (v := .int (iZ (A 4))) dX6_said_58 flX6_297 (show kd 1 = 5 from rfl) (by decide) (by show some (Value.int (iZ (σ.1 1 6))) = _; rw [C.1.2.1.2.1]) ?_
            refine q_iload_n dX6_said_61 rfl rfl ?_
            refine s_iast (n := 8) dX6_said_62 (show kd 9 = 100 + 8 from rfl) (by omega) (by omega) (by decide) ?_
            refine q_aload_n dX6_said_63 rfl rfl ?_
            refine sg6 (kf := 0) (v := .ref 1) dX6_said_64 flX6_10 (show kd 0 = 6 from rfl) (by decide) rfl ?_
            refine sg5 (kf := 5) (v := .ref 10) dX6_said_67 flX6_303 (show kd 1 = 5 from rfl) (by decide) rfl ?_
            refine q_aload_n dX6_said_70 rfl rfl ?_
            refine sg6 (kf := 0) (v := .ref 1) dX6_said_71 flX6_10 (show kd 0 = 6 from rfl) (by decide) rfl ?_
            refine sg5 (kf := 6) (v := .int (iZ (A 4))) dX6_said_74 flX6_297 (show kd 1 = 5 from rfl) (by decide) (by show some (Value.int (iZ (σ.1 1 6))) = _; rw [C.1.2.1.2.1]) ?_
            refine q_iload_n dX6_said_77 rfl rfl ?_
            refine s_iast (n := 8) dX6_said_78 (show kd 10 = 100 + 8 from rfl) (by omega) (by omega) (by decide) ?_
            refine q_aload_n dX6_said_79 rfl rfl ?_
            refine sg6 (kf := 0) (v := .ref 1) dX6_said_80 flX6_10 (show kd 0 = 6 from rfl) (by decide) rfl ?_
            refine q_dup dX6_said_83 rfl ?_
            refine sg5 (kf := 6) (v := .int (iZ (A 4))) dX6_said_84 flX6_297 (show kd 1 = 5 from rfl) (by decide) (by show some (Value.int (iZ (σ.1 1 6))) = _; rw [C.1.2.1.2.1]) ?_
            refine z_iconst dX6_said_87 ?_
            refine z_iadd dX6_said_88 ?_
            refine sp5 (kf := 6) dX6_said_89 flX6_297 (show kd 1 = 5 from rfl) (by decide) ?_
            refine q_aload_n dX6_said_92 rfl rfl ?_
            refine sg6 (kf := 0) (v := .ref 1) dX6_said_93 flX6_10 (show kd 0 = 6 from rfl) (by decide) rfl ?_
            refine sg5 (kf := 6) (v := .int (iZ (A 4 + 1))) dX6_said_96 flX6_297 (show kd 1 = 5 from rfl) (by decide) (by show some (Value.int (iZ (up2 σ.1 1 6 (A 4 + 1) 1 6))) = _; rw [up2_at]) ?_
            exact s_iretZ dX6_said_99 rfl ⟨by rw [if_neg (by omega), if_neg (by omega)], chg_tr (chg_mono (chg_sR σ 9 _ _) (fun a q => misc_cmd (Or.inr (Or.inr (Or.inl q))))) (chg_tr (chg_mono (chg_sR _ 10 _ _) (fun a q => misc_cmd (Or.inr (Or.inr (Or.inr q))))) (chg_mono (chg_sI _ 1 6 _) (fun a q => misc_cmd (Or.inl q)))), by rw [if_neg (by omega), if_neg (by omega)]; have q := said_end ok oi C (k := (A 4).toNat) (by omega) (by omega) h n; rw [show (((A 4).toNat : Nat) : Int) = A 4 by omega] at q; rw [show (37 + 2 * A 4).toNat = 37 + 2 * (A 4).toNat by omega, show (37 + 2 * A 4 + 1).toNat = 37 + 2 * (A 4).toNat + 1 by omega]; exact q⟩
          · refine z_bipush dX6_said_44 (by decide +kernel) ?_
            exact s_iretZ dX6_said_46 rfl ⟨by rw [if_neg (by omega), if_pos (by omega)], chg_rf _ _, by rw [if_neg (by omega), if_pos (by omega)]; exact C⟩
  · refine q_aload_n dX6_said_5 rfl rfl ?_
    refine sg6 (kf := 0) (v := .ref 1) dX6_said_6 flX6_10 (show kd 0 = 6 from rfl) (by decide) rfl ?_
    refine z_iconst dX6_said_9 ?_
    refine sp5 (kf := 6) dX6_said_10 flX6_297 (show kd 1 = 5 from rfl) (by decide) ?_
    refine z_iconst dX6_said_13 ?_
    exact s_iretZ dX6_said_14 rfl ⟨by rw [if_pos (by omega)], chg_mono (chg_sI σ 1 6 0) (fun a q => misc_cmd (Or.inl q)), by rw [if_pos (by omega)]; exact said0_end ok oi C⟩
