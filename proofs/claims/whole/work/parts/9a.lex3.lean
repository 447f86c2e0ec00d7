/-! ===== the class's tape: numbers, signs, scan ===== -/
theorem sIx_un (c : Int) : sIx c 11 0 = if 60 = c then 0 else if 62 = c then 1 else if 61 = c then 2 else if 35 = c then 3 else if 43 = c then 4 else if 45 = c then 5 else if 42 = c then 6 else if 47 = c then 7 else if 40 = c then 8 else if 41 = c then 9 else if 59 = c then 10 else -1 := by
  have v : stB 1 0 = 60 ∧ stB 1 1 = 62 ∧ stB 1 2 = 61 ∧ stB 1 3 = 35 ∧ stB 1 4 = 43 ∧ stB 1 5 = 45 ∧ stB 1 6 = 42 ∧ stB 1 7 = 47 ∧ stB 1 8 = 40 ∧ stB 1 9 = 41 ∧ stB 1 10 = 59 := by decide +kernel
  obtain ⟨v0, v1, v2, v3, v4, v5, v6, v7, v8, v9, v10⟩ := v
  simp only [sIx, Nat.zero_add, Nat.reduceAdd, v0, v1, v2, v3, v4, v5, v6, v7, v8, v9, v10]
  rfl
theorem sIx_c (c : Int) : (sIx c 11 0 = 0 ↔ c = 60) ∧ (sIx c 11 0 = 1 ↔ c = 62) ∧ -1 ≤ sIx c 11 0 ∧ sIx c 11 0 ≤ 10 := by
  rw [sIx_un]
  by_cases h0 : (60 : Int) = c
  · rw [if_pos h0]; omega
  · rw [if_neg h0]
    by_cases h1 : (62 : Int) = c
    · rw [if_pos h1]; omega
    · rw [if_neg h1]
      repeat' split
      all_goals omega
set_option maxHeartbeats 4000000 in
set_option maxRecDepth 100000 in
theorem lx_num {d k s e : Nat} {v : Int} (hd : 1 ≤ d) (hk : k < 301) (σ : gS) {b : Nat → Int} {n : Nat} (hn : σ.1 328 1 = (n : Int)) (hn3 : n ≤ 300) (hb : σ.2.1 329 = b) (hb8 : ∀ i, i < n → 0 ≤ b i ∧ b i < 256) {tk st nu : Nat → Int} (hT : tk k = 38) (hS : st k = (s : Int)) (hN : nu k = v) : ∀ (g : Nat) (p : Nat) (a : Int) (σ1 : gS), p ≤ n → lxR σ σ1 k p tk st nu → dEnd b n (n - p) p = e → dNum b n (n - p) p a = v → (0 ≤ a ∧ a ≤ 10000) → (n : Int) - (p : Int) < (g : Int) → sE g_tt mX3_scanNumber d (fun r σ' => r = none ∧ lxR σ σ' (k + 1) e tk st nu) 7 [some (.ref 328), some (.int (iZ (s : Int))), some (.int (iZ a))] [] σ1 := by
  intro g
  induction g with
  | zero =>
    intro p a σ1 hp lx he hv ha hg
    exact absurd hg (by omega)
  | succ g ih =>
    intro p a σ1 hp lx he hv ha hg
    refine q_aload_n dX3_scanNumber_7 rfl rfl ?_
    refine sg3 (kf := 6) (v := .int (iZ (p : Int))) dX3_scanNumber_8 flX3_31 (show kd 328 = 3 from rfl) (by decide) (by show some (Value.int (iZ (σ1.1 328 6))) = _; rw [show σ1.1 328 6 = (p : Int) from lx.2.2.2.1]) ?_
    refine q_aload_n dX3_scanNumber_11 rfl rfl ?_
    refine sg3 (kf := 1) (v := .int (iZ (n : Int))) dX3_scanNumber_12 flX3_15 (show kd 328 = 3 from rfl) (by decide) (by show some (Value.int (iZ (σ1.1 328 1))) = _; rw [show σ1.1 328 1 = (n : Int) from lx.2.1.trans hn]) ?_
    refine z_icmp_ge (tgt := 70) dX3_scanNumber_15 (by decide) (by unfold inR at *; omega) (by unfold inR at *; omega) (fun c_1 => ?_) (fun c_1 => ?_)
    · have nd : ¬ (p < n ∧ isDg (b p)) := fun z => by first | omega | (exact absurd z.2 (by assumption))
      have e9 : p = e := by rw [← he]; cases hm : n - p with | zero => rfl | succ m => rw [dEnd, if_neg nd]
      have e8 : a = v := by rw [← hv]; cases hm : n - p with | zero => rfl | succ m => rw [dNum, if_neg nd]
      subst e9
      refine q_aload_n dX3_scanNumber_70 rfl rfl ?_
      refine z_bipush dX3_scanNumber_71 (by decide +kernel) ?_
      refine q_iload_n dX3_scanNumber_73 rfl rfl ?_
      refine q_iload_n dX3_scanNumber_74 rfl rfl ?_
      refine s_callV (ci := 3) (a := 328) (As := [.int (iZ 38), .int (iZ (s : Int)), .int (iZ a)]) (S := []) dX3_scanNumber_75 okX3_add mlX3_50 rfl (by omega) rfl (Nat.le_of_ble_eq_true rfl) (show kd 328 = 3 from rfl) (by decide) rfl (x_add3 (d := d - 1) (k := k) (by omega) (t := 38) (s := (s : Int)) (u := a) σ1 lx.2.2.1) (fun v_ σ_ hq => ?_)
      obtain ⟨rfl, e9⟩ := hq
      subst e9
      show sE g_tt _ _ _ 78 [some (.ref 328), some (.int (iZ (s : Int))), some (.int (iZ a))] [] (adS σ1 k (38) (s : Int) a)
      exact s_vret dX3_scanNumber_78 rfl ⟨rfl, lx_add lx hT hS (hN.trans e8.symm)⟩
    · refine q_aload_n dX3_scanNumber_18 rfl rfl ?_
      refine sg3 (kf := 0) (v := .ref 329) dX3_scanNumber_19 flX3_9 (show kd 328 = 3 from rfl) (by decide) rfl ?_
      refine q_aload_n dX3_scanNumber_22 rfl rfl ?_
      refine sg3 (kf := 6) (v := .int (iZ (p : Int))) dX3_scanNumber_23 flX3_31 (show kd 328 = 3 from rfl) (by decide) (by show some (Value.int (iZ (σ1.1 328 6))) = _; rw [show σ1.1 328 6 = (p : Int) from lx.2.2.2.1]) ?_
      refine s_iald (n := 300) (x := b p) dX3_scanNumber_26 (show kd 329 = 100 + 300 from rfl) (by omega) (by omega) (by decide) (by rw [lx_b lx, hb]; first | rfl | skip) ?_
      refine s_callS (As := [.int (iZ (b p))]) (S := []) dX3_scanNumber_27 okX3_isDigit mlX3_41 rfl (by omega) rfl (Nat.le_of_ble_eq_true rfl) (x_isDigit (d := d - 1) (c := b p) (by have q9 := hb8 p (by omega); unfold inR; omega) σ1) (fun v_ σ_ hq => ?_)
      obtain ⟨rfl, e9⟩ := hq
      have e9 := e9.symm
      subst e9
      show sE g_tt _ _ _ 30 [some (.ref 328), some (.int (iZ (s : Int))), some (.int (iZ a))] [.int (iZ (if isDg (b p) then 1 else 0))] σ1
      refine z_if_eq (tgt := 70) dX3_scanNumber_30 (by decide) (by have q9 := hb8 p (by omega); unfold inR; omega) (fun c_2 => ?_) (fun c_2 => ?_)
      · have c_2 := if01_0 c_2
        have nd : ¬ (p < n ∧ isDg (b p)) := fun z => by first | omega | (exact absurd z.2 (by assumption))
        have e9 : p = e := by rw [← he]; cases hm : n - p with | zero => rfl | succ m => rw [dEnd, if_neg nd]
        have e8 : a = v := by rw [← hv]; cases hm : n - p with | zero => rfl | succ m => rw [dNum, if_neg nd]
        subst e9
        refine q_aload_n dX3_scanNumber_70 rfl rfl ?_
        refine z_bipush dX3_scanNumber_71 (by decide +kernel) ?_
        refine q_iload_n dX3_scanNumber_73 rfl rfl ?_
        refine q_iload_n dX3_scanNumber_74 rfl rfl ?_
        refine s_callV (ci := 3) (a := 328) (As := [.int (iZ 38), .int (iZ (s : Int)), .int (iZ a)]) (S := []) dX3_scanNumber_75 okX3_add mlX3_50 rfl (by omega) rfl (Nat.le_of_ble_eq_true rfl) (show kd 328 = 3 from rfl) (by decide) rfl (x_add3 (d := d - 1) (k := k) (by omega) (t := 38) (s := (s : Int)) (u := a) σ1 lx.2.2.1) (fun v_ σ_ hq => ?_)
        obtain ⟨rfl, e9⟩ := hq
        subst e9
        show sE g_tt _ _ _ 78 [some (.ref 328), some (.int (iZ (s : Int))), some (.int (iZ a))] [] (adS σ1 k (38) (s : Int) a)
        exact s_vret dX3_scanNumber_78 rfl ⟨rfl, lx_add lx hT hS (hN.trans e8.symm)⟩
      · have c_2 := if01_1 c_2
        refine q_iload_n dX3_scanNumber_33 rfl rfl ?_
        refine z_bipush dX3_scanNumber_34 (by decide +kernel) ?_
        refine z_imul dX3_scanNumber_36 ?_
        refine q_aload_n dX3_scanNumber_37 rfl rfl ?_
        refine sg3 (kf := 0) (v := .ref 329) dX3_scanNumber_38 flX3_9 (show kd 328 = 3 from rfl) (by decide) rfl ?_
        refine q_aload_n dX3_scanNumber_41 rfl rfl ?_
        refine sg3 (kf := 6) (v := .int (iZ (p : Int))) dX3_scanNumber_42 flX3_31 (show kd 328 = 3 from rfl) (by decide) (by show some (Value.int (iZ (σ1.1 328 6))) = _; rw [show σ1.1 328 6 = (p : Int) from lx.2.2.2.1]) ?_
        refine s_iald (n := 300) (x := b p) dX3_scanNumber_45 (show kd 329 = 100 + 300 from rfl) (by omega) (by omega) (by decide) (by rw [lx_b lx, hb]; first | rfl | skip) ?_
        refine z_iadd dX3_scanNumber_46 ?_
        refine z_bipush dX3_scanNumber_47 (by decide +kernel) ?_
        refine z_isub dX3_scanNumber_49 ?_
        refine z_sipush dX3_scanNumber_50 (by decide +kernel) ?_
        refine z_mmin dX3_scanNumber_53 mlX3_69 (by omega) (Nat.le_of_ble_eq_true rfl) (by have q9 := hb8 p (by omega); unfold inR; omega) (by unfold inR at *; omega) ?_
        refine q_istore_n dX3_scanNumber_56 rfl (by decide) ?_
        show sE g_tt _ _ _ 57 [some (.ref 328), some (.int (iZ (s : Int))), some (.int (iZ (min (((a * 10) + (b p)) - 48) 10000)))] [] σ1
        refine q_aload_n dX3_scanNumber_57 rfl rfl ?_
        refine q_dup dX3_scanNumber_58 rfl ?_
        refine sg3 (kf := 6) (v := .int (iZ (p : Int))) dX3_scanNumber_59 flX3_31 (show kd 328 = 3 from rfl) (by decide) (by show some (Value.int (iZ (σ1.1 328 6))) = _; rw [show σ1.1 328 6 = (p : Int) from lx.2.2.2.1]) ?_
        refine z_iconst dX3_scanNumber_62 ?_
        refine z_iadd dX3_scanNumber_63 ?_
        refine sp3 (kf := 6) dX3_scanNumber_64 flX3_31 (show kd 328 = 3 from rfl) (by decide) ?_
        refine q_goto (tgt := 7) dX3_scanNumber_67 (by decide) ?_
        have k9 := ih (p + 1) (min (a * 10 + b p - 48) 10000) _ (by omega) (lx_at lx (p + 1)) (by rw [← he, show n - p = (n - (p + 1)) + 1 by omega, dEnd, if_pos ⟨by omega, by assumption⟩]) (by rw [← hv, show n - p = (n - (p + 1)) + 1 by omega, dNum, if_pos ⟨by omega, by assumption⟩]) (by omega) (by omega)
        rw [show ((p + 1 : Nat) : Int) = (p : Int) + 1 by omega] at k9
        exact k9
set_option maxHeartbeats 4000000 in
set_option maxRecDepth 100000 in
theorem x_scanNumber {d k s : Nat} (hd : 1 ≤ d) (hk : k < 301) (σ : gS) {b : Nat → Int} {n : Nat} (hn : σ.1 328 1 = (n : Int)) (hn3 : n ≤ 300) (hb : σ.2.1 329 = b) (hb8 : ∀ i, i < n → 0 ≤ b i ∧ b i < 256) {tk st nu : Nat → Int} (hsn : s ≤ n) (hT : tk k = 38) (hS : st k = (s : Int)) (hN : nu k = dNum b n (n - s) s 0) (lx0 : lxR σ σ k s tk st nu) : sC mX3_scanNumber d [.ref 328] σ (fun r σ' => r = none ∧ lxR σ σ' (k + 1) (dEnd b n (n - s) s) tk st nu) := by
  refine sC_of rfl (Nat.le_of_ble_eq_true rfl) ?_
  show sE g_tt _ _ _ 0 [some (.ref 328), none, none] [] σ
  refine q_aload_n dX3_scanNumber_0 rfl rfl ?_
  refine sg3 (kf := 6) (v := .int (iZ (s : Int))) dX3_scanNumber_1 flX3_31 (show kd 328 = 3 from rfl) (by decide) (by show some (Value.int (iZ (σ.1 328 6))) = _; rw [show σ.1 328 6 = (s : Int) from lx0.2.2.2.1]) ?_
  refine q_istore_n dX3_scanNumber_4 rfl (by decide) ?_
  show sE g_tt _ _ _ 5 [some (.ref 328), some (.int (iZ (s : Int))), none] [] σ
  refine z_iconst dX3_scanNumber_5 ?_
  refine q_istore_n dX3_scanNumber_6 rfl (by decide) ?_
  show sE g_tt _ _ _ 7 [some (.ref 328), some (.int (iZ (s : Int))), some (.int (iZ 0))] [] σ
  exact lx_num hd hk σ hn hn3 hb hb8 hT hS hN (n + 1) s 0 σ (by omega) lx0 rfl rfl (by omega) (by omega)
theorem xj_ix {d : Nat} (hd : 3 ≤ d) {c : Int} (hc : 0 ≤ c ∧ c < 256) (σ : gS) : sC mJ0_indexOf_0f7a4 d [.ref (1000000 + 1), .int (iZ c)] σ (fun r σ' => r = some (.int (iZ (sIx c 11 0))) ∧ σ' = σ) := by
  obtain ⟨n, rfl⟩ : ∃ n : Nat, c = (n : Int) := ⟨c.toNat, by omega⟩
  exact j_indexOf hd (by omega) σ
set_option maxHeartbeats 4000000 in
set_option maxRecDepth 100000 in
theorem x_scanSign {d k s : Nat} (hd : 4 ≤ d) (hk : k < 301) (σ : gS) {b : Nat → Int} {n : Nat} (hn : σ.1 328 1 = (n : Int)) (hn3 : n ≤ 300) (hb : σ.2.1 329 = b) (hb8 : ∀ i, i < n → 0 ≤ b i ∧ b i < 256) {tk st nu : Nat → Int} (hsn : s < n) (hT : tk k = (if s + 1 < n ∧ b (s + 1) = 61 ∧ b s = 60 then 36 else if s + 1 < n ∧ b (s + 1) = 61 ∧ b s = 62 then 37 else if sIx (b s) 11 0 < 0 then 40 else 25 + sIx (b s) 11 0)) (hS : st k = (s : Int)) (hN : nu k = 0) (lx0 : lxR σ σ k s tk st nu) : sC mX3_scanSign d [.ref 328] σ (fun r σ' => r = none ∧ lxR σ σ' (k + 1) (if s + 1 < n ∧ b (s + 1) = 61 ∧ (b s = 60 ∨ b s = 62) then s + 2 else s + 1) tk st nu) := by
  have sc := sIx_c (b s)
  refine sC_of rfl (Nat.le_of_ble_eq_true rfl) ?_
  show sE g_tt _ _ _ 0 [some (.ref 328), none, none, none] [] σ
  refine q_aload_n dX3_scanSign_0 rfl rfl ?_
  refine sg3 (kf := 6) (v := .int (iZ (s : Int))) dX3_scanSign_1 flX3_31 (show kd 328 = 3 from rfl) (by decide) (by show some (Value.int (iZ ((σ).1 328 6))) = _; rw [show (σ).1 328 6 = (s : Int) from lx0.2.2.2.1]) ?_
  refine q_istore_n dX3_scanSign_4 rfl (by decide) ?_
  show sE g_tt _ _ _ 5 [some (.ref 328), some (.int (iZ (s : Int))), none, none] [] σ
  refine q_ldcS1 rfl dX3_scanSign_5 ?_
  show sE g_tt _ _ _ 7 [some (.ref 328), some (.int (iZ (s : Int))), none, none] [.ref (1000000 + 1)] σ
  refine q_aload_n dX3_scanSign_7 rfl rfl ?_
  refine sg3 (kf := 0) (v := .ref 329) dX3_scanSign_8 flX3_9 (show kd 328 = 3 from rfl) (by decide) rfl ?_
  refine q_aload_n dX3_scanSign_11 rfl rfl ?_
  refine sg3 (kf := 6) (v := .int (iZ (s : Int))) dX3_scanSign_12 flX3_31 (show kd 328 = 3 from rfl) (by decide) (by show some (Value.int (iZ ((σ).1 328 6))) = _; rw [show (σ).1 328 6 = (s : Int) from lx0.2.2.2.1]) ?_
  refine s_iald (n := 300) (x := b s) dX3_scanSign_15 (show kd 329 = 100 + 300 from rfl) (by omega) (by omega) (by decide) (by rw [hb]; rfl) ?_
  refine z_i2cN dX3_scanSign_16 (hb8 s (by omega)) ?_
  refine s_callStr (j := 1) (As := [.int (iZ (b s))]) (S := []) dX3_scanSign_17 okJ0_indexOf_0f7a4 mlX3_77 rfl (by omega) rfl (Nat.le_of_ble_eq_true rfl) (by decide) rfl (xj_ix (d := d - 1) (by omega) (hb8 s (by omega)) σ) (fun v_ σ_ hq => ?_)
  obtain ⟨rfl, e9⟩ := hq
  have e9 := e9.symm
  subst e9
  show sE g_tt _ _ _ 20 [some (.ref 328), some (.int (iZ (s : Int))), none, none] [.int (iZ (sIx (b s) 11 0))] σ
  refine q_istore_n dX3_scanSign_20 rfl (by decide) ?_
  show sE g_tt _ _ _ 21 [some (.ref 328), some (.int (iZ (s : Int))), some (.int (iZ (sIx (b s) 11 0))), none] [] σ
  refine q_iload_n dX3_scanSign_21 rfl rfl ?_
  refine z_if_ge (tgt := 30) dX3_scanSign_22 (by decide) (by unfold inR; omega) (fun c_1 => ?_) (fun c_1 => ?_)
  · refine z_bipush dX3_scanSign_30 (by decide +kernel) ?_
    refine q_iload_n dX3_scanSign_32 rfl rfl ?_
    refine z_iadd dX3_scanSign_33 ?_
    refine q_istore_n dX3_scanSign_34 rfl (by decide) ?_
    show sE g_tt _ _ _ 35 [some (.ref 328), some (.int (iZ (s : Int))), some (.int (iZ (sIx (b s) 11 0))), some (.int (iZ (25 + (sIx (b s) 11 0))))] [] σ
    refine q_aload_n dX3_scanSign_35 rfl rfl ?_
    refine q_dup dX3_scanSign_36 rfl ?_
    refine sg3 (kf := 6) (v := .int (iZ (s : Int))) dX3_scanSign_37 flX3_31 (show kd 328 = 3 from rfl) (by decide) (by show some (Value.int (iZ ((σ).1 328 6))) = _; rw [show (σ).1 328 6 = (s : Int) from lx0.2.2.2.1]) ?_
    refine z_iconst dX3_scanSign_40 ?_
    refine z_iadd dX3_scanSign_41 ?_
    refine sp3 (kf := 6) dX3_scanSign_42 flX3_31 (show kd 328 = 3 from rfl) (by decide) ?_
    refine q_aload_n dX3_scanSign_45 rfl rfl ?_
    refine sg3 (kf := 6) (v := .int (iZ ((s : Int) + 1))) dX3_scanSign_46 flX3_31 (show kd 328 = 3 from rfl) (by decide) (by show some (Value.int (iZ ((sI σ 328 6 ((s : Int) + 1)).1 328 6))) = _; rw [show (sI σ 328 6 ((s : Int) + 1)).1 328 6 = (s : Int) + 1 from up2_at σ.1 328 6 ((s : Int) + 1)]) ?_
    refine q_aload_n dX3_scanSign_49 rfl rfl ?_
    refine sg3 (kf := 1) (v := .int (iZ (n : Int))) dX3_scanSign_50 flX3_15 (show kd 328 = 3 from rfl) (by decide) (by show some (Value.int (iZ ((sI σ 328 6 ((s : Int) + 1)).1 328 1))) = _; rw [show (sI σ 328 6 ((s : Int) + 1)).1 328 1 = (n : Int) from (up2_k (a := 328) (k := 6) (j := 1) σ.1 ((s : Int) + 1) (by decide)).trans hn]) ?_
    refine z_icmp_ge (tgt := 106) dX3_scanSign_53 (by decide) (by unfold inR at *; omega) (by unfold inR at *; omega) (fun c_2 => ?_) (fun c_2 => ?_)
    · have lq : lxR σ (sI σ 328 6 ((s : Int) + 1)) k (s + 1) tk st nu := by rw [show (s : Int) + 1 = ((s + 1 : Nat) : Int) by omega]; exact lx_at lx0 (s + 1)
      have eE : (if s + 1 < n ∧ b (s + 1) = 61 ∧ (b s = 60 ∨ b s = 62) then s + 2 else s + 1) = s + 1 := by rw [if_neg (fun z => by have z1 := z.1; have z2 := z.2.1; have z3 := z.2.2; omega)]
      have eT : (if s + 1 < n ∧ b (s + 1) = 61 ∧ b s = 60 then 36 else if s + 1 < n ∧ b (s + 1) = 61 ∧ b s = 62 then 37 else if sIx (b s) 11 0 < 0 then 40 else 25 + sIx (b s) 11 0) = 25 + (sIx (b s) 11 0) := by
        repeat' split
        all_goals omega
      refine q_aload_n dX3_scanSign_106 rfl rfl ?_
      refine q_iload_n dX3_scanSign_107 rfl rfl ?_
      refine q_iload_n dX3_scanSign_108 rfl rfl ?_
      refine z_iconst dX3_scanSign_109 ?_
      refine s_callV (ci := 3) (a := 328) (As := [.int (iZ (25 + (sIx (b s) 11 0))), .int (iZ (s : Int)), .int (iZ 0)]) (S := []) dX3_scanSign_110 okX3_add mlX3_50 rfl (by omega) rfl (Nat.le_of_ble_eq_true rfl) (show kd 328 = 3 from rfl) (by decide) rfl (x_add3 (d := d - 1) (k := k) (by omega) (t := 25 + (sIx (b s) 11 0)) (s := (s : Int)) (u := 0) (sI σ 328 6 ((s : Int) + 1)) lq.2.2.1) (fun v_ σ_ hq => ?_)
      obtain ⟨rfl, e9⟩ := hq
      subst e9
      show sE g_tt _ _ _ 113 [some (.ref 328), some (.int (iZ (s : Int))), some (.int (iZ (sIx (b s) 11 0))), some (.int (iZ (25 + (sIx (b s) 11 0))))] [] (adS (sI σ 328 6 ((s : Int) + 1)) k (25 + (sIx (b s) 11 0)) (s : Int) 0)
      exact s_vret dX3_scanSign_113 rfl ⟨rfl, by rw [eE]; exact lx_add lq (hT.trans eT) hS hN⟩
    · refine q_aload_n dX3_scanSign_56 rfl rfl ?_
      refine sg3 (kf := 0) (v := .ref 329) dX3_scanSign_57 flX3_9 (show kd 328 = 3 from rfl) (by decide) rfl ?_
      refine q_aload_n dX3_scanSign_60 rfl rfl ?_
      refine sg3 (kf := 6) (v := .int (iZ ((s : Int) + 1))) dX3_scanSign_61 flX3_31 (show kd 328 = 3 from rfl) (by decide) (by show some (Value.int (iZ ((sI σ 328 6 ((s : Int) + 1)).1 328 6))) = _; rw [show (sI σ 328 6 ((s : Int) + 1)).1 328 6 = (s : Int) + 1 from up2_at σ.1 328 6 ((s : Int) + 1)]) ?_
      refine s_iald (n := 300) (x := b (s + 1)) dX3_scanSign_64 (show kd 329 = 100 + 300 from rfl) (by omega) (by omega) (by decide) (by rw [show (sI σ 328 6 ((s : Int) + 1)).2.1 329 = b from hb, show ((s : Int) + 1).toNat = s + 1 by omega]) ?_
      refine z_bipush dX3_scanSign_65 (by decide +kernel) ?_
      refine z_icmp_ne (tgt := 106) dX3_scanSign_67 (by decide) (by have q9 := hb8 (s + 1) (by omega); unfold inR; omega) (by unfold inR at *; omega) (fun c_3 => ?_) (fun c_3 => ?_)
      · have lq : lxR σ (sI σ 328 6 ((s : Int) + 1)) k (s + 1) tk st nu := by rw [show (s : Int) + 1 = ((s + 1 : Nat) : Int) by omega]; exact lx_at lx0 (s + 1)
        have eE : (if s + 1 < n ∧ b (s + 1) = 61 ∧ (b s = 60 ∨ b s = 62) then s + 2 else s + 1) = s + 1 := by rw [if_neg (fun z => by have z1 := z.1; have z2 := z.2.1; have z3 := z.2.2; omega)]
        have eT : (if s + 1 < n ∧ b (s + 1) = 61 ∧ b s = 60 then 36 else if s + 1 < n ∧ b (s + 1) = 61 ∧ b s = 62 then 37 else if sIx (b s) 11 0 < 0 then 40 else 25 + sIx (b s) 11 0) = 25 + (sIx (b s) 11 0) := by
          repeat' split
          all_goals omega
        refine q_aload_n dX3_scanSign_106 rfl rfl ?_
        refine q_iload_n dX3_scanSign_107 rfl rfl ?_
        refine q_iload_n dX3_scanSign_108 rfl rfl ?_
        refine z_iconst dX3_scanSign_109 ?_
        refine s_callV (ci := 3) (a := 328) (As := [.int (iZ (25 + (sIx (b s) 11 0))), .int (iZ (s : Int)), .int (iZ 0)]) (S := []) dX3_scanSign_110 okX3_add mlX3_50 rfl (by omega) rfl (Nat.le_of_ble_eq_true rfl) (show kd 328 = 3 from rfl) (by decide) rfl (x_add3 (d := d - 1) (k := k) (by omega) (t := 25 + (sIx (b s) 11 0)) (s := (s : Int)) (u := 0) (sI σ 328 6 ((s : Int) + 1)) lq.2.2.1) (fun v_ σ_ hq => ?_)
        obtain ⟨rfl, e9⟩ := hq
        subst e9
        show sE g_tt _ _ _ 113 [some (.ref 328), some (.int (iZ (s : Int))), some (.int (iZ (sIx (b s) 11 0))), some (.int (iZ (25 + (sIx (b s) 11 0))))] [] (adS (sI σ 328 6 ((s : Int) + 1)) k (25 + (sIx (b s) 11 0)) (s : Int) 0)
        exact s_vret dX3_scanSign_113 rfl ⟨rfl, by rw [eE]; exact lx_add lq (hT.trans eT) hS hN⟩
      · refine q_iload_n dX3_scanSign_70 rfl rfl ?_
        refine z_bipush dX3_scanSign_71 (by decide +kernel) ?_
        refine z_icmp_eq (tgt := 82) dX3_scanSign_73 (by decide) (by unfold inR; omega) (by unfold inR at *; omega) (fun c_4 => ?_) (fun c_4 => ?_)
        · refine q_iload_n dX3_scanSign_82 rfl rfl ?_
          refine z_bipush dX3_scanSign_83 (by decide +kernel) ?_
          refine z_icmp_ne (tgt := 93) dX3_scanSign_85 (by decide) (by unfold inR; omega) (by unfold inR at *; omega) (fun c_5 => ?_) (fun c_5 => ?_)
          · refine z_bipush dX3_scanSign_93 (by decide +kernel) ?_
            refine q_istore_n dX3_scanSign_95 rfl (by decide) ?_
            show sE g_tt _ _ _ 96 [some (.ref 328), some (.int (iZ (s : Int))), some (.int (iZ (sIx (b s) 11 0))), some (.int (iZ 37))] [] (sI σ 328 6 ((s : Int) + 1))
            refine q_aload_n dX3_scanSign_96 rfl rfl ?_
            refine q_dup dX3_scanSign_97 rfl ?_
            refine sg3 (kf := 6) (v := .int (iZ ((s : Int) + 1))) dX3_scanSign_98 flX3_31 (show kd 328 = 3 from rfl) (by decide) (by show some (Value.int (iZ ((sI σ 328 6 ((s : Int) + 1)).1 328 6))) = _; rw [show (sI σ 328 6 ((s : Int) + 1)).1 328 6 = (s : Int) + 1 from up2_at σ.1 328 6 ((s : Int) + 1)]) ?_
            refine z_iconst dX3_scanSign_101 ?_
            refine z_iadd dX3_scanSign_102 ?_
            refine sp3 (kf := 6) dX3_scanSign_103 flX3_31 (show kd 328 = 3 from rfl) (by decide) ?_
            have lq : lxR σ (sI (sI σ 328 6 ((s : Int) + 1)) 328 6 (((s : Int) + 1) + 1)) k (s + 2) tk st nu := by rw [show ((s : Int) + 1) + 1 = ((s + 2 : Nat) : Int) by omega, show (s : Int) + 1 = ((s + 1 : Nat) : Int) by omega]; exact lx_at (lx_at lx0 (s + 1)) (s + 2)
            have eE : (if s + 1 < n ∧ b (s + 1) = 61 ∧ (b s = 60 ∨ b s = 62) then s + 2 else s + 1) = s + 2 := by rw [if_pos ⟨by omega, by assumption, by omega⟩]
            have eT : (if s + 1 < n ∧ b (s + 1) = 61 ∧ b s = 60 then 36 else if s + 1 < n ∧ b (s + 1) = 61 ∧ b s = 62 then 37 else if sIx (b s) 11 0 < 0 then 40 else 25 + sIx (b s) 11 0) = 37 := by
              repeat' split
              all_goals omega
            refine q_aload_n dX3_scanSign_106 rfl rfl ?_
            refine q_iload_n dX3_scanSign_107 rfl rfl ?_
            refine q_iload_n dX3_scanSign_108 rfl rfl ?_
            refine z_iconst dX3_scanSign_109 ?_
            refine s_callV (ci := 3) (a := 328) (As := [.int (iZ 37), .int (iZ (s : Int)), .int (iZ 0)]) (S := []) dX3_scanSign_110 okX3_add mlX3_50 rfl (by omega) rfl (Nat.le_of_ble_eq_true rfl) (show kd 328 = 3 from rfl) (by decide) rfl (x_add3 (d := d - 1) (k := k) (by omega) (t := 37) (s := (s : Int)) (u := 0) (sI (sI σ 328 6 ((s : Int) + 1)) 328 6 (((s : Int) + 1) + 1)) lq.2.2.1) (fun v_ σ_ hq => ?_)
            obtain ⟨rfl, e9⟩ := hq
            subst e9
            show sE g_tt _ _ _ 113 [some (.ref 328), some (.int (iZ (s : Int))), some (.int (iZ (sIx (b s) 11 0))), some (.int (iZ 37))] [] (adS (sI (sI σ 328 6 ((s : Int) + 1)) 328 6 (((s : Int) + 1) + 1)) k 37 (s : Int) 0)
            exact s_vret dX3_scanSign_113 rfl ⟨rfl, by rw [eE]; exact lx_add lq (hT.trans eT) hS hN⟩
          · refine z_bipush dX3_scanSign_88 (by decide +kernel) ?_
            refine q_goto (tgt := 95) dX3_scanSign_90 (by decide) ?_
            refine q_istore_n dX3_scanSign_95 rfl (by decide) ?_
            show sE g_tt _ _ _ 96 [some (.ref 328), some (.int (iZ (s : Int))), some (.int (iZ (sIx (b s) 11 0))), some (.int (iZ 36))] [] (sI σ 328 6 ((s : Int) + 1))
            refine q_aload_n dX3_scanSign_96 rfl rfl ?_
            refine q_dup dX3_scanSign_97 rfl ?_
            refine sg3 (kf := 6) (v := .int (iZ ((s : Int) + 1))) dX3_scanSign_98 flX3_31 (show kd 328 = 3 from rfl) (by decide) (by show some (Value.int (iZ ((sI σ 328 6 ((s : Int) + 1)).1 328 6))) = _; rw [show (sI σ 328 6 ((s : Int) + 1)).1 328 6 = (s : Int) + 1 from up2_at σ.1 328 6 ((s : Int) + 1)]) ?_
            refine z_iconst dX3_scanSign_101 ?_
            refine z_iadd dX3_scanSign_102 ?_
            refine sp3 (kf := 6) dX3_scanSign_103 flX3_31 (show kd 328 = 3 from rfl) (by decide) ?_
            have lq : lxR σ (sI (sI σ 328 6 ((s : Int) + 1)) 328 6 (((s : Int) + 1) + 1)) k (s + 2) tk st nu := by rw [show ((s : Int) + 1) + 1 = ((s + 2 : Nat) : Int) by omega, show (s : Int) + 1 = ((s + 1 : Nat) : Int) by omega]; exact lx_at (lx_at lx0 (s + 1)) (s + 2)
            have eE : (if s + 1 < n ∧ b (s + 1) = 61 ∧ (b s = 60 ∨ b s = 62) then s + 2 else s + 1) = s + 2 := by rw [if_pos ⟨by omega, by assumption, by omega⟩]
            have eT : (if s + 1 < n ∧ b (s + 1) = 61 ∧ b s = 60 then 36 else if s + 1 < n ∧ b (s + 1) = 61 ∧ b s = 62 then 37 else if sIx (b s) 11 0 < 0 then 40 else 25 + sIx (b s) 11 0) = 36 := by
              repeat' split
              all_goals omega
            refine q_aload_n dX3_scanSign_106 rfl rfl ?_
            refine q_iload_n dX3_scanSign_107 rfl rfl ?_
            refine q_iload_n dX3_scanSign_108 rfl rfl ?_
            refine z_iconst dX3_scanSign_109 ?_
            refine s_callV (ci := 3) (a := 328) (As := [.int (iZ 36), .int (iZ (s : Int)), .int (iZ 0)]) (S := []) dX3_scanSign_110 okX3_add mlX3_50 rfl (by omega) rfl (Nat.le_of_ble_eq_true rfl) (show kd 328 = 3 from rfl) (by decide) rfl (x_add3 (d := d - 1) (k := k) (by omega) (t := 36) (s := (s : Int)) (u := 0) (sI (sI σ 328 6 ((s : Int) + 1)) 328 6 (((s : Int) + 1) + 1)) lq.2.2.1) (fun v_ σ_ hq => ?_)
            obtain ⟨rfl, e9⟩ := hq
            subst e9
            show sE g_tt _ _ _ 113 [some (.ref 328), some (.int (iZ (s : Int))), some (.int (iZ (sIx (b s) 11 0))), some (.int (iZ 36))] [] (adS (sI (sI σ 328 6 ((s : Int) + 1)) 328 6 (((s : Int) + 1) + 1)) k 36 (s : Int) 0)
            exact s_vret dX3_scanSign_113 rfl ⟨rfl, by rw [eE]; exact lx_add lq (hT.trans eT) hS hN⟩
        · refine q_iload_n dX3_scanSign_76 rfl rfl ?_
          refine z_bipush dX3_scanSign_77 (by decide +kernel) ?_
          refine z_icmp_ne (tgt := 106) dX3_scanSign_79 (by decide) (by unfold inR; omega) (by unfold inR at *; omega) (fun c_6 => ?_) (fun c_6 => ?_)
          · have lq : lxR σ (sI σ 328 6 ((s : Int) + 1)) k (s + 1) tk st nu := by rw [show (s : Int) + 1 = ((s + 1 : Nat) : Int) by omega]; exact lx_at lx0 (s + 1)
            have eE : (if s + 1 < n ∧ b (s + 1) = 61 ∧ (b s = 60 ∨ b s = 62) then s + 2 else s + 1) = s + 1 := by rw [if_neg (fun z => by have z1 := z.1; have z2 := z.2.1; have z3 := z.2.2; omega)]
            have eT : (if s + 1 < n ∧ b (s + 1) = 61 ∧ b s = 60 then 36 else if s + 1 < n ∧ b (s + 1) = 61 ∧ b s = 62 then 37 else if sIx (b s) 11 0 < 0 then 40 else 25 + sIx (b s) 11 0) = 25 + (sIx (b s) 11 0) := by
              repeat' split
              all_goals omega
            refine q_aload_n dX3_scanSign_106 rfl rfl ?_
            refine q_iload_n dX3_scanSign_107 rfl rfl ?_
            refine q_iload_n dX3_scanSign_108 rfl rfl ?_
            refine z_iconst dX3_scanSign_109 ?_
            refine s_callV (ci := 3) (a := 328) (As := [.int (iZ (25 + (sIx (b s) 11 0))), .int (iZ (s : Int)), .int (iZ 0)]) (S := []) dX3_scanSign_110 okX3_add mlX3_50 rfl (by omega) rfl (Nat.le_of_ble_eq_true rfl) (show kd 328 = 3 from rfl) (by decide) rfl (x_add3 (d := d - 1) (k := k) (by omega) (t := 25 + (sIx (b s) 11 0)) (s := (s : Int)) (u := 0) (sI σ 328 6 ((s : Int) + 1)) lq.2.2.1) (fun v_ σ_ hq => ?_)
            obtain ⟨rfl, e9⟩ := hq
            subst e9
            show sE g_tt _ _ _ 113 [some (.ref 328), some (.int (iZ (s : Int))), some (.int (iZ (sIx (b s) 11 0))), some (.int (iZ (25 + (sIx (b s) 11 0))))] [] (adS (sI σ 328 6 ((s : Int) + 1)) k (25 + (sIx (b s) 11 0)) (s : Int) 0)
            exact s_vret dX3_scanSign_113 rfl ⟨rfl, by rw [eE]; exact lx_add lq (hT.trans eT) hS hN⟩
          · refine q_iload_n dX3_scanSign_82 rfl rfl ?_
            refine z_bipush dX3_scanSign_83 (by decide +kernel) ?_
            refine z_icmp_ne (tgt := 93) dX3_scanSign_85 (by decide) (by unfold inR; omega) (by unfold inR at *; omega) (fun c_7 => ?_) (fun c_7 => ?_)
            · refine z_bipush dX3_scanSign_93 (by decide +kernel) ?_
              refine q_istore_n dX3_scanSign_95 rfl (by decide) ?_
              show sE g_tt _ _ _ 96 [some (.ref 328), some (.int (iZ (s : Int))), some (.int (iZ (sIx (b s) 11 0))), some (.int (iZ 37))] [] (sI σ 328 6 ((s : Int) + 1))
              refine q_aload_n dX3_scanSign_96 rfl rfl ?_
              refine q_dup dX3_scanSign_97 rfl ?_
              refine sg3 (kf := 6) (v := .int (iZ ((s : Int) + 1))) dX3_scanSign_98 flX3_31 (show kd 328 = 3 from rfl) (by decide) (by show some (Value.int (iZ ((sI σ 328 6 ((s : Int) + 1)).1 328 6))) = _; rw [show (sI σ 328 6 ((s : Int) + 1)).1 328 6 = (s : Int) + 1 from up2_at σ.1 328 6 ((s : Int) + 1)]) ?_
              refine z_iconst dX3_scanSign_101 ?_
              refine z_iadd dX3_scanSign_102 ?_
              refine sp3 (kf := 6) dX3_scanSign_103 flX3_31 (show kd 328 = 3 from rfl) (by decide) ?_
              have lq : lxR σ (sI (sI σ 328 6 ((s : Int) + 1)) 328 6 (((s : Int) + 1) + 1)) k (s + 2) tk st nu := by rw [show ((s : Int) + 1) + 1 = ((s + 2 : Nat) : Int) by omega, show (s : Int) + 1 = ((s + 1 : Nat) : Int) by omega]; exact lx_at (lx_at lx0 (s + 1)) (s + 2)
              have eE : (if s + 1 < n ∧ b (s + 1) = 61 ∧ (b s = 60 ∨ b s = 62) then s + 2 else s + 1) = s + 2 := by rw [if_pos ⟨by omega, by assumption, by omega⟩]
              have eT : (if s + 1 < n ∧ b (s + 1) = 61 ∧ b s = 60 then 36 else if s + 1 < n ∧ b (s + 1) = 61 ∧ b s = 62 then 37 else if sIx (b s) 11 0 < 0 then 40 else 25 + sIx (b s) 11 0) = 37 := by
                repeat' split
                all_goals omega
              refine q_aload_n dX3_scanSign_106 rfl rfl ?_
              refine q_iload_n dX3_scanSign_107 rfl rfl ?_
              refine q_iload_n dX3_scanSign_108 rfl rfl ?_
              refine z_iconst dX3_scanSign_109 ?_
              refine s_callV (ci := 3) (a := 328) (As := [.int (iZ 37), .int (iZ (s : Int)), .int (iZ 0)]) (S := []) dX3_scanSign_110 okX3_add mlX3_50 rfl (by omega) rfl (Nat.le_of_ble_eq_true rfl) (show kd 328 = 3 from rfl) (by decide) rfl (x_add3 (d := d - 1) (k := k) (by omega) (t := 37) (s := (s : Int)) (u := 0) (sI (sI σ 328 6 ((s : Int) + 1)) 328 6 (((s : Int) + 1) + 1)) lq.2.2.1) (fun v_ σ_ hq => ?_)
              obtain ⟨rfl, e9⟩ := hq
              subst e9
              show sE g_tt _ _ _ 113 [some (.ref 328), some (.int (iZ (s : Int))), some (.int (iZ (sIx (b s) 11 0))), some (.int (iZ 37))] [] (adS (sI (sI σ 328 6 ((s : Int) + 1)) 328 6 (((s : Int) + 1) + 1)) k 37 (s : Int) 0)
              exact s_vret dX3_scanSign_113 rfl ⟨rfl, by rw [eE]; exact lx_add lq (hT.trans eT) hS hN⟩
            · refine z_bipush dX3_scanSign_88 (by decide +kernel) ?_
              refine q_goto (tgt := 95) dX3_scanSign_90 (by decide) ?_
              refine q_istore_n dX3_scanSign_95 rfl (by decide) ?_
              show sE g_tt _ _ _ 96 [some (.ref 328), some (.int (iZ (s : Int))), some (.int (iZ (sIx (b s) 11 0))), some (.int (iZ 36))] [] (sI σ 328 6 ((s : Int) + 1))
              refine q_aload_n dX3_scanSign_96 rfl rfl ?_
              refine q_dup dX3_scanSign_97 rfl ?_
              refine sg3 (kf := 6) (v := .int (iZ ((s : Int) + 1))) dX3_scanSign_98 flX3_31 (show kd 328 = 3 from rfl) (by decide) (by show some (Value.int (iZ ((sI σ 328 6 ((s : Int) + 1)).1 328 6))) = _; rw [show (sI σ 328 6 ((s : Int) + 1)).1 328 6 = (s : Int) + 1 from up2_at σ.1 328 6 ((s : Int) + 1)]) ?_
              refine z_iconst dX3_scanSign_101 ?_
              refine z_iadd dX3_scanSign_102 ?_
              refine sp3 (kf := 6) dX3_scanSign_103 flX3_31 (show kd 328 = 3 from rfl) (by decide) ?_
              have lq : lxR σ (sI (sI σ 328 6 ((s : Int) + 1)) 328 6 (((s : Int) + 1) + 1)) k (s + 2) tk st nu := by rw [show ((s : Int) + 1) + 1 = ((s + 2 : Nat) : Int) by omega, show (s : Int) + 1 = ((s + 1 : Nat) : Int) by omega]; exact lx_at (lx_at lx0 (s + 1)) (s + 2)
              have eE : (if s + 1 < n ∧ b (s + 1) = 61 ∧ (b s = 60 ∨ b s = 62) then s + 2 else s + 1) = s + 2 := by rw [if_pos ⟨by omega, by assumption, by omega⟩]
              have eT : (if s + 1 < n ∧ b (s + 1) = 61 ∧ b s = 60 then 36 else if s + 1 < n ∧ b (s + 1) = 61 ∧ b s = 62 then 37 else if sIx (b s) 11 0 < 0 then 40 else 25 + sIx (b s) 11 0) = 36 := by
                repeat' split
                all_goals omega
              refine q_aload_n dX3_scanSign_106 rfl rfl ?_
              refine q_iload_n dX3_scanSign_107 rfl rfl ?_
              refine q_iload_n dX3_scanSign_108 rfl rfl ?_
              refine z_iconst dX3_scanSign_109 ?_
              refine s_callV (ci := 3) (a := 328) (As := [.int (iZ 36), .int (iZ (s : Int)), .int (iZ 0)]) (S := []) dX3_scanSign_110 okX3_add mlX3_50 rfl (by omega) rfl (Nat.le_of_ble_eq_true rfl) (show kd 328 = 3 from rfl) (by decide) rfl (x_add3 (d := d - 1) (k := k) (by omega) (t := 36) (s := (s : Int)) (u := 0) (sI (sI σ 328 6 ((s : Int) + 1)) 328 6 (((s : Int) + 1) + 1)) lq.2.2.1) (fun v_ σ_ hq => ?_)
              obtain ⟨rfl, e9⟩ := hq
              subst e9
              show sE g_tt _ _ _ 113 [some (.ref 328), some (.int (iZ (s : Int))), some (.int (iZ (sIx (b s) 11 0))), some (.int (iZ 36))] [] (adS (sI (sI σ 328 6 ((s : Int) + 1)) 328 6 (((s : Int) + 1) + 1)) k 36 (s : Int) 0)
              exact s_vret dX3_scanSign_113 rfl ⟨rfl, by rw [eE]; exact lx_add lq (hT.trans eT) hS hN⟩
  · refine z_bipush dX3_scanSign_25 (by decide +kernel) ?_
    refine q_goto (tgt := 34) dX3_scanSign_27 (by decide) ?_
    refine q_istore_n dX3_scanSign_34 rfl (by decide) ?_
    show sE g_tt _ _ _ 35 [some (.ref 328), some (.int (iZ (s : Int))), some (.int (iZ (sIx (b s) 11 0))), some (.int (iZ 40))] [] σ
    refine q_aload_n dX3_scanSign_35 rfl rfl ?_
    refine q_dup dX3_scanSign_36 rfl ?_
    refine sg3 (kf := 6) (v := .int (iZ (s : Int))) dX3_scanSign_37 flX3_31 (show kd 328 = 3 from rfl) (by decide) (by show some (Value.int (iZ ((σ).1 328 6))) = _; rw [show (σ).1 328 6 = (s : Int) from lx0.2.2.2.1]) ?_
    refine z_iconst dX3_scanSign_40 ?_
    refine z_iadd dX3_scanSign_41 ?_
    refine sp3 (kf := 6) dX3_scanSign_42 flX3_31 (show kd 328 = 3 from rfl) (by decide) ?_
    refine q_aload_n dX3_scanSign_45 rfl rfl ?_
    refine sg3 (kf := 6) (v := .int (iZ ((s : Int) + 1))) dX3_scanSign_46 flX3_31 (show kd 328 = 3 from rfl) (by decide) (by show some (Value.int (iZ ((sI σ 328 6 ((s : Int) + 1)).1 328 6))) = _; rw [show (sI σ 328 6 ((s : Int) + 1)).1 328 6 = (s : Int) + 1 from up2_at σ.1 328 6 ((s : Int) + 1)]) ?_
    refine q_aload_n dX3_scanSign_49 rfl rfl ?_
    refine sg3 (kf := 1) (v := .int (iZ (n : Int))) dX3_scanSign_50 flX3_15 (show kd 328 = 3 from rfl) (by decide) (by show some (Value.int (iZ ((sI σ 328 6 ((s : Int) + 1)).1 328 1))) = _; rw [show (sI σ 328 6 ((s : Int) + 1)).1 328 1 = (n : Int) from (up2_k (a := 328) (k := 6) (j := 1) σ.1 ((s : Int) + 1) (by decide)).trans hn]) ?_
    refine z_icmp_ge (tgt := 106) dX3_scanSign_53 (by decide) (by unfold inR at *; omega) (by unfold inR at *; omega) (fun c_8 => ?_) (fun c_8 => ?_)
    · have lq : lxR σ (sI σ 328 6 ((s : Int) + 1)) k (s + 1) tk st nu := by rw [show (s : Int) + 1 = ((s + 1 : Nat) : Int) by omega]; exact lx_at lx0 (s + 1)
      have eE : (if s + 1 < n ∧ b (s + 1) = 61 ∧ (b s = 60 ∨ b s = 62) then s + 2 else s + 1) = s + 1 := by rw [if_neg (fun z => by have z1 := z.1; have z2 := z.2.1; have z3 := z.2.2; omega)]
      have eT : (if s + 1 < n ∧ b (s + 1) = 61 ∧ b s = 60 then 36 else if s + 1 < n ∧ b (s + 1) = 61 ∧ b s = 62 then 37 else if sIx (b s) 11 0 < 0 then 40 else 25 + sIx (b s) 11 0) = 40 := by
        repeat' split
        all_goals omega
      refine q_aload_n dX3_scanSign_106 rfl rfl ?_
      refine q_iload_n dX3_scanSign_107 rfl rfl ?_
      refine q_iload_n dX3_scanSign_108 rfl rfl ?_
      refine z_iconst dX3_scanSign_109 ?_
      refine s_callV (ci := 3) (a := 328) (As := [.int (iZ 40), .int (iZ (s : Int)), .int (iZ 0)]) (S := []) dX3_scanSign_110 okX3_add mlX3_50 rfl (by omega) rfl (Nat.le_of_ble_eq_true rfl) (show kd 328 = 3 from rfl) (by decide) rfl (x_add3 (d := d - 1) (k := k) (by omega) (t := 40) (s := (s : Int)) (u := 0) (sI σ 328 6 ((s : Int) + 1)) lq.2.2.1) (fun v_ σ_ hq => ?_)
      obtain ⟨rfl, e9⟩ := hq
      subst e9
      show sE g_tt _ _ _ 113 [some (.ref 328), some (.int (iZ (s : Int))), some (.int (iZ (sIx (b s) 11 0))), some (.int (iZ 40))] [] (adS (sI σ 328 6 ((s : Int) + 1)) k 40 (s : Int) 0)
      exact s_vret dX3_scanSign_113 rfl ⟨rfl, by rw [eE]; exact lx_add lq (hT.trans eT) hS hN⟩
    · refine q_aload_n dX3_scanSign_56 rfl rfl ?_
      refine sg3 (kf := 0) (v := .ref 329) dX3_scanSign_57 flX3_9 (show kd 328 = 3 from rfl) (by decide) rfl ?_
      refine q_aload_n dX3_scanSign_60 rfl rfl ?_
      refine sg3 (kf := 6) (v := .int (iZ ((s : Int) + 1))) dX3_scanSign_61 flX3_31 (show kd 328 = 3 from rfl) (by decide) (by show some (Value.int (iZ ((sI σ 328 6 ((s : Int) + 1)).1 328 6))) = _; rw [show (sI σ 328 6 ((s : Int) + 1)).1 328 6 = (s : Int) + 1 from up2_at σ.1 328 6 ((s : Int) + 1)]) ?_
      refine s_iald (n := 300) (x := b (s + 1)) dX3_scanSign_64 (show kd 329 = 100 + 300 from rfl) (by omega) (by omega) (by decide) (by rw [show (sI σ 328 6 ((s : Int) + 1)).2.1 329 = b from hb, show ((s : Int) + 1).toNat = s + 1 by omega]) ?_
      refine z_bipush dX3_scanSign_65 (by decide +kernel) ?_
      refine z_icmp_ne (tgt := 106) dX3_scanSign_67 (by decide) (by have q9 := hb8 (s + 1) (by omega); unfold inR; omega) (by unfold inR at *; omega) (fun c_9 => ?_) (fun c_9 => ?_)
      · have lq : lxR σ (sI σ 328 6 ((s : Int) + 1)) k (s + 1) tk st nu := by rw [show (s : Int) + 1 = ((s + 1 : Nat) : Int) by omega]; exact lx_at lx0 (s + 1)
        have eE : (if s + 1 < n ∧ b (s + 1) = 61 ∧ (b s = 60 ∨ b s = 62) then s + 2 else s + 1) = s + 1 := by rw [if_neg (fun z => by have z1 := z.1; have z2 := z.2.1; have z3 := z.2.2; omega)]
        have eT : (if s + 1 < n ∧ b (s + 1) = 61 ∧ b s = 60 then 36 else if s + 1 < n ∧ b (s + 1) = 61 ∧ b s = 62 then 37 else if sIx (b s) 11 0 < 0 then 40 else 25 + sIx (b s) 11 0) = 40 := by
          repeat' split
          all_goals omega
        refine q_aload_n dX3_scanSign_106 rfl rfl ?_
        refine q_iload_n dX3_scanSign_107 rfl rfl ?_
        refine q_iload_n dX3_scanSign_108 rfl rfl ?_
        refine z_iconst dX3_scanSign_109 ?_
        refine s_callV (ci := 3) (a := 328) (As := [.int (iZ 40), .int (iZ (s : Int)), .int (iZ 0)]) (S := []) dX3_scanSign_110 okX3_add mlX3_50 rfl (by omega) rfl (Nat.le_of_ble_eq_true rfl) (show kd 328 = 3 from rfl) (by decide) rfl (x_add3 (d := d - 1) (k := k) (by omega) (t := 40) (s := (s : Int)) (u := 0) (sI σ 328 6 ((s : Int) + 1)) lq.2.2.1) (fun v_ σ_ hq => ?_)
        obtain ⟨rfl, e9⟩ := hq
        subst e9
        show sE g_tt _ _ _ 113 [some (.ref 328), some (.int (iZ (s : Int))), some (.int (iZ (sIx (b s) 11 0))), some (.int (iZ 40))] [] (adS (sI σ 328 6 ((s : Int) + 1)) k 40 (s : Int) 0)
        exact s_vret dX3_scanSign_113 rfl ⟨rfl, by rw [eE]; exact lx_add lq (hT.trans eT) hS hN⟩
      · refine q_iload_n dX3_scanSign_70 rfl rfl ?_
        refine z_bipush dX3_scanSign_71 (by decide +kernel) ?_
        refine z_icmp_eq (tgt := 82) dX3_scanSign_73 (by decide) (by unfold inR at *; omega) (by unfold inR at *; omega) (fun c_10 => ?_) (fun c_10 => ?_)
        · exfalso
          revert c_10
          decide
        · refine q_iload_n dX3_scanSign_76 rfl rfl ?_
          refine z_bipush dX3_scanSign_77 (by decide +kernel) ?_
          refine z_icmp_ne (tgt := 106) dX3_scanSign_79 (by decide) (by unfold inR at *; omega) (by unfold inR at *; omega) (fun c_11 => ?_) (fun c_11 => ?_)
          · have lq : lxR σ (sI σ 328 6 ((s : Int) + 1)) k (s + 1) tk st nu := by rw [show (s : Int) + 1 = ((s + 1 : Nat) : Int) by omega]; exact lx_at lx0 (s + 1)
            have eE : (if s + 1 < n ∧ b (s + 1) = 61 ∧ (b s = 60 ∨ b s = 62) then s + 2 else s + 1) = s + 1 := by rw [if_neg (fun z => by have z1 := z.1; have z2 := z.2.1; have z3 := z.2.2; omega)]
            have eT : (if s + 1 < n ∧ b (s + 1) = 61 ∧ b s = 60 then 36 else if s + 1 < n ∧ b (s + 1) = 61 ∧ b s = 62 then 37 else if sIx (b s) 11 0 < 0 then 40 else 25 + sIx (b s) 11 0) = 40 := by
              repeat' split
              all_goals omega
            refine q_aload_n dX3_scanSign_106 rfl rfl ?_
            refine q_iload_n dX3_scanSign_107 rfl rfl ?_
            refine q_iload_n dX3_scanSign_108 rfl rfl ?_
            refine z_iconst dX3_scanSign_109 ?_
            refine s_callV (ci := 3) (a := 328) (As := [.int (iZ 40), .int (iZ (s : Int)), .int (iZ 0)]) (S := []) dX3_scanSign_110 okX3_add mlX3_50 rfl (by omega) rfl (Nat.le_of_ble_eq_true rfl) (show kd 328 = 3 from rfl) (by decide) rfl (x_add3 (d := d - 1) (k := k) (by omega) (t := 40) (s := (s : Int)) (u := 0) (sI σ 328 6 ((s : Int) + 1)) lq.2.2.1) (fun v_ σ_ hq => ?_)
            obtain ⟨rfl, e9⟩ := hq
            subst e9
            show sE g_tt _ _ _ 113 [some (.ref 328), some (.int (iZ (s : Int))), some (.int (iZ (sIx (b s) 11 0))), some (.int (iZ 40))] [] (adS (sI σ 328 6 ((s : Int) + 1)) k 40 (s : Int) 0)
            exact s_vret dX3_scanSign_113 rfl ⟨rfl, by rw [eE]; exact lx_add lq (hT.trans eT) hS hN⟩
          · exfalso
            revert c_11
            decide
abbrev tkA (b : Nat → Int) (n k : Nat) : Int := tkT b n (tkS b n k)
abbrev stA (b : Nat → Int) (n k : Nat) : Int := ((tkS b n k : Nat) : Int)
abbrev nuA (b : Nat → Int) (n k : Nat) : Int := tkN b n (tkS b n k)
theorem lx_self {σ σ1 : gS} {k p : Nat} {tk st nu : Nat → Int} (h : lxR σ σ1 k p tk st nu) : lxR σ1 σ1 k p tk st nu := ⟨chg_rf _ _, rfl, h.2.2.1, h.2.2.2.1, h.2.2.2.2⟩
theorem lx_tr {σ σ1 σ2 : gS} {k p k2 p2 : Nat} {tk st nu : Nat → Int} (h : lxR σ σ1 k p tk st nu) (h2 : lxR σ1 σ2 k2 p2 tk st nu) : lxR σ σ2 k2 p2 tk st nu := ⟨chg_tr h.1 h2.1, h2.2.1.trans h.2.1, h2.2.2⟩
theorem scan_fin {σ σ1 : gS} {b : Nat → Int} {n p k : Nat} (hp : p ≤ n) (hk : k ≤ p) (lx : lxR σ σ1 k p (tkA b n) (stA b n) (nuA b n)) (hs : sEnd b n (n - p) p = tkS b n k) (hpn : n ≤ p) : (none : Option Value) = none ∧ ∃ j, j ≤ n ∧ tkS b n j = n ∧ lxR σ (adS σ1 k 39 (n : Int) 0) (j + 1) n (tkA b n) (stA b n) (nuA b n) := by
  obtain rfl : p = n := by omega
  have eS : tkS b p k = p := by rw [← hs, Nat.sub_self]; rfl
  refine ⟨rfl, k, hk, eS, lx_add lx ?_ ?_ ?_⟩
  · show tkT b p (tkS b p k) = _
    rw [eS]; unfold tkT; rw [if_pos (Nat.le_refl _)]
  · show ((tkS b p k : Nat) : Int) = _
    rw [eS]
  · show tkN b p (tkS b p k) = _
    rw [eS]; unfold tkN; rw [if_pos (Nat.le_refl _)]
set_option maxHeartbeats 4000000 in
set_option maxRecDepth 100000 in
theorem lx_scan {d : Nat} (hd : 6 ≤ d) (σ : gS) {b : Nat → Int} {n : Nat} (hn : σ.1 328 1 = (n : Int)) (hn3 : n ≤ 300) (hb : σ.2.1 329 = b) (hb8 : ∀ i, i < n → 0 ≤ b i ∧ b i < 256) : ∀ (g : Nat) (i p k : Nat) (σ1 : gS) (l2 : Option Value), i ≤ p → p ≤ n → k ≤ p → lxR σ σ1 k p (tkA b n) (stA b n) (nuA b n) → sEnd b n (n - p) p = tkS b n k → (n : Int) - (p : Int) < (g : Int) → sE g_tt mX3_scan d (fun r σ' => r = none ∧ ∃ k, k ≤ n ∧ tkS b n k = n ∧ lxR σ σ' (k + 1) n (tkA b n) (stA b n) (nuA b n)) 12 [some (.ref 328), some (.int (iZ (i : Int))), l2] [] σ1 := by
  intro g
  induction g with
  | zero =>
    intro i p k σ1 l2 hi hp hk lx hs hg
    exact absurd hg (by omega)
  | succ g ih =>
    intro i p k σ1 l2 hi hp hk lx hs hg
    refine q_iload_n dX3_scan_12 rfl rfl ?_
    refine z_sipush dX3_scan_13 (by decide +kernel) ?_
    refine z_icmp_ge (tgt := 103) dX3_scan_16 (by decide) (by unfold inR at *; omega) (by unfold inR at *; omega) (fun c_1 => ?_) (fun c_1 => ?_)
    · refine q_aload_n dX3_scan_103 rfl rfl ?_
      refine z_bipush dX3_scan_104 (by decide +kernel) ?_
      refine q_aload_n dX3_scan_106 rfl rfl ?_
      refine sg3 (kf := 1) (v := .int (iZ (n : Int))) dX3_scan_107 flX3_15 (show kd 328 = 3 from rfl) (by decide) (by show some (Value.int (iZ (σ1.1 328 1))) = _; rw [show σ1.1 328 1 = (n : Int) from lx.2.1.trans hn]) ?_
      refine z_iconst dX3_scan_110 ?_
      refine s_callV (ci := 3) (a := 328) (As := [.int (iZ 39), .int (iZ (n : Int)), .int (iZ 0)]) (S := []) dX3_scan_111 okX3_add mlX3_50 rfl (by omega) rfl (Nat.le_of_ble_eq_true rfl) (show kd 328 = 3 from rfl) (by decide) rfl (x_add3 (d := d - 1) (k := k) (by omega) (t := 39) (s := (n : Int)) (u := 0) σ1 lx.2.2.1) (fun v_ σ_ hq => ?_)
      obtain ⟨rfl, e9⟩ := hq
      subst e9
      show sE g_tt _ _ _ 114 [some (.ref 328), some (.int (iZ (i : Int))), l2] [] (adS σ1 k 39 (n : Int) 0)
      exact s_vret dX3_scan_114 rfl (scan_fin hp hk lx hs (by omega))
    · refine q_aload_n dX3_scan_19 rfl rfl ?_
      refine sg3 (kf := 6) (v := .int (iZ (p : Int))) dX3_scan_20 flX3_31 (show kd 328 = 3 from rfl) (by decide) (by show some (Value.int (iZ (σ1.1 328 6))) = _; rw [show σ1.1 328 6 = (p : Int) from lx.2.2.2.1]) ?_
      refine q_aload_n dX3_scan_23 rfl rfl ?_
      refine sg3 (kf := 1) (v := .int (iZ (n : Int))) dX3_scan_24 flX3_15 (show kd 328 = 3 from rfl) (by decide) (by show some (Value.int (iZ (σ1.1 328 1))) = _; rw [show σ1.1 328 1 = (n : Int) from lx.2.1.trans hn]) ?_
      refine z_icmp_ge (tgt := 103) dX3_scan_27 (by decide) (by unfold inR at *; omega) (by unfold inR at *; omega) (fun c_2 => ?_) (fun c_2 => ?_)
      · refine q_aload_n dX3_scan_103 rfl rfl ?_
        refine z_bipush dX3_scan_104 (by decide +kernel) ?_
        refine q_aload_n dX3_scan_106 rfl rfl ?_
        refine sg3 (kf := 1) (v := .int (iZ (n : Int))) dX3_scan_107 flX3_15 (show kd 328 = 3 from rfl) (by decide) (by show some (Value.int (iZ (σ1.1 328 1))) = _; rw [show σ1.1 328 1 = (n : Int) from lx.2.1.trans hn]) ?_
        refine z_iconst dX3_scan_110 ?_
        refine s_callV (ci := 3) (a := 328) (As := [.int (iZ 39), .int (iZ (n : Int)), .int (iZ 0)]) (S := []) dX3_scan_111 okX3_add mlX3_50 rfl (by omega) rfl (Nat.le_of_ble_eq_true rfl) (show kd 328 = 3 from rfl) (by decide) rfl (x_add3 (d := d - 1) (k := k) (by omega) (t := 39) (s := (n : Int)) (u := 0) σ1 lx.2.2.1) (fun v_ σ_ hq => ?_)
        obtain ⟨rfl, e9⟩ := hq
        subst e9
        show sE g_tt _ _ _ 114 [some (.ref 328), some (.int (iZ (i : Int))), l2] [] (adS σ1 k 39 (n : Int) 0)
        exact s_vret dX3_scan_114 rfl (scan_fin hp hk lx hs (by omega))
      · refine q_aload_n dX3_scan_30 rfl rfl ?_
        refine sg3 (kf := 0) (v := .ref 329) dX3_scan_31 flX3_9 (show kd 328 = 3 from rfl) (by decide) rfl ?_
        refine q_aload_n dX3_scan_34 rfl rfl ?_
        refine sg3 (kf := 6) (v := .int (iZ (p : Int))) dX3_scan_35 flX3_31 (show kd 328 = 3 from rfl) (by decide) (by show some (Value.int (iZ (σ1.1 328 6))) = _; rw [show σ1.1 328 6 = (p : Int) from lx.2.2.2.1]) ?_
        refine s_iald (n := 300) (x := b p) dX3_scan_38 (show kd 329 = 100 + 300 from rfl) (by omega) (by omega) (by decide) (by rw [lx_b lx, hb]; first | rfl | skip) ?_
        refine q_istore_n dX3_scan_39 rfl (by decide) ?_
        show sE g_tt _ _ _ 40 [some (.ref 328), some (.int (iZ (i : Int))), some (.int (iZ (b p)))] [] σ1
        refine q_iload_n dX3_scan_40 rfl rfl ?_
        refine z_bipush dX3_scan_41 (by decide +kernel) ?_
        refine z_icmp_eq (tgt := 52) dX3_scan_43 (by decide) (by have q9 := hb8 p (by omega); unfold inR; omega) (by unfold inR at *; omega) (fun c_3 => ?_) (fun c_3 => ?_)
        · refine q_aload_n dX3_scan_52 rfl rfl ?_
          refine q_dup dX3_scan_53 rfl ?_
          refine sg3 (kf := 6) (v := .int (iZ (p : Int))) dX3_scan_54 flX3_31 (show kd 328 = 3 from rfl) (by decide) (by show some (Value.int (iZ (σ1.1 328 6))) = _; rw [show σ1.1 328 6 = (p : Int) from lx.2.2.2.1]) ?_
          refine z_iconst dX3_scan_57 ?_
          refine z_iadd dX3_scan_58 ?_
          refine sp3 (kf := 6) dX3_scan_59 flX3_31 (show kd 328 = 3 from rfl) (by decide) ?_
          refine q_goto (tgt := 97) dX3_scan_62 (by decide) ?_
          refine z_iinc dX3_scan_97 rfl (by decide) ?_
          show sE g_tt _ _ _ 100 [some (.ref 328), some (.int (iZ ((i : Int) + 1))), some (.int (iZ (b p)))] [] (sI σ1 328 6 ((p : Int) + 1))
          refine q_goto (tgt := 12) dX3_scan_100 (by decide) ?_
          have k9 := ih (i + 1) (p + 1) k _ (some (.int (iZ (b p)))) (by omega) (by omega) (by omega) (lx_at lx (p + 1)) (by rw [← sEnd_b (by omega) (by omega)]; exact hs) (by omega)
          rw [show ((p + 1 : Nat) : Int) = (p : Int) + 1 by omega] at k9
          exact k9
        · refine q_iload_n dX3_scan_46 rfl rfl ?_
          refine z_bipush dX3_scan_47 (by decide +kernel) ?_
          refine z_icmp_ne (tgt := 65) dX3_scan_49 (by decide) (by have q9 := hb8 p (by omega); unfold inR; omega) (by unfold inR at *; omega) (fun c_4 => ?_) (fun c_4 => ?_)
          · refine q_iload_n dX3_scan_65 rfl rfl ?_
            refine s_callS (As := [.int (iZ (b p))]) (S := []) dX3_scan_66 okX3_isLetter mlX3_34 rfl (by omega) rfl (Nat.le_of_ble_eq_true rfl) (x_isLetter (d := d - 1) (c := b p) (by have q9 := hb8 p (by omega); unfold inR; omega) σ1) (fun v_ σ_ hq => ?_)
            obtain ⟨rfl, e9⟩ := hq
            have e9 := e9.symm
            subst e9
            show sE g_tt _ _ _ 69 [some (.ref 328), some (.int (iZ (i : Int))), some (.int (iZ (b p)))] [.int (iZ (if isLt (b p) then 1 else 0))] σ1
            refine z_if_eq (tgt := 79) dX3_scan_69 (by decide) inR_01 (fun c_5 => ?_) (fun c_5 => ?_)
            · have c_5 := if01_0 c_5
              refine q_iload_n dX3_scan_79 rfl rfl ?_
              refine s_callS (As := [.int (iZ (b p))]) (S := []) dX3_scan_80 okX3_isDigit mlX3_41 rfl (by omega) rfl (Nat.le_of_ble_eq_true rfl) (x_isDigit (d := d - 1) (c := b p) (by have q9 := hb8 p (by omega); unfold inR; omega) σ1) (fun v_ σ_ hq => ?_)
              obtain ⟨rfl, e9⟩ := hq
              have e9 := e9.symm
              subst e9
              show sE g_tt _ _ _ 83 [some (.ref 328), some (.int (iZ (i : Int))), some (.int (iZ (b p)))] [.int (iZ (if isDg (b p) then 1 else 0))] σ1
              refine z_if_eq (tgt := 93) dX3_scan_83 (by decide) inR_01 (fun c_6 => ?_) (fun c_6 => ?_)
              · have c_6 := if01_0 c_6
                have eS : sEnd b n (n - p) p = p := sEnd_n (fun z => by omega)
                have eK : tkS b n k = p := by rw [← hs, eS]
                have eE : tkE b n p = (if p + 1 < n ∧ b (p + 1) = 61 ∧ (b p = 60 ∨ b p = 62) then p + 2 else p + 1) := by unfold tkE; rw [if_neg (show ¬ n ≤ p by omega), if_neg c_5, if_neg c_6]
                refine q_aload_n dX3_scan_93 rfl rfl ?_
                refine s_callV (ci := 3) (a := 328) (As := []) (S := []) dX3_scan_94 okX3_scanSign mlX3_47 rfl (by omega) rfl (Nat.le_of_ble_eq_true rfl) (show kd 328 = 3 from rfl) (by decide) rfl (x_scanSign (d := d - 1) (k := k) (s := p) (by omega) (by omega) σ1 (lx.2.1.trans hn) hn3 ((lx_b lx).trans hb) hb8 (by omega) (by show tkT b n (tkS b n k) = _; rw [eK]; unfold tkT; rw [if_neg (show ¬ n ≤ p by omega), if_neg c_5, if_neg c_6]) (by show ((tkS b n k : Nat) : Int) = _; rw [eK]) (by show tkN b n (tkS b n k) = _; rw [eK]; unfold tkN; rw [if_neg (show ¬ n ≤ p by omega), if_neg c_5, if_neg c_6]) (lx_self lx)) (fun v_ σ_ hq => ?_)
                obtain ⟨rfl, lx2⟩ := hq
                rename gS => σ2
                show sE g_tt _ _ _ 97 [some (.ref 328), some (.int (iZ (i : Int))), some (.int (iZ (b p)))] [] σ2
                refine z_iinc dX3_scan_97 rfl (by decide) ?_
                show sE g_tt _ _ _ 100 [some (.ref 328), some (.int (iZ ((i : Int) + 1))), some (.int (iZ (b p)))] [] σ2
                refine q_goto (tgt := 12) dX3_scan_100 (by decide) ?_
                have er := tkE_ran (b := b) (n := n) (s := p) (by omega)
                have eP : tkP b n (k + 1) = tkE b n p := by rw [tkP]; show tkE b n (tkS b n k) = _; rw [← hs, eS]
                exact ih (i + 1) (tkE b n p) (k + 1) σ2 (some (.int (iZ (b p)))) (by omega) (by omega) (by omega) (by rw [eE]; exact lx_tr lx lx2) (by rw [← eP]; rfl) (by omega)
              · have c_6 := if01_1 c_6
                have eS : sEnd b n (n - p) p = p := sEnd_n (fun z => by omega)
                have eK : tkS b n k = p := by rw [← hs, eS]
                have eE : tkE b n p = dEnd b n (n - p) p := by unfold tkE; rw [if_neg (by omega), if_neg c_5, if_pos c_6]
                refine q_aload_n dX3_scan_86 rfl rfl ?_
                refine s_callV (ci := 3) (a := 328) (As := []) (S := []) dX3_scan_87 okX3_scanNumber mlX3_44 rfl (by omega) rfl (Nat.le_of_ble_eq_true rfl) (show kd 328 = 3 from rfl) (by decide) rfl (x_scanNumber (d := d - 1) (k := k) (s := p) (by omega) (by omega) σ1 (lx.2.1.trans hn) hn3 ((lx_b lx).trans hb) hb8 (by omega) (by show tkT b n (tkS b n k) = _; rw [eK]; unfold tkT; rw [if_neg (by omega), if_neg c_5, if_pos c_6]) (by show ((tkS b n k : Nat) : Int) = _; rw [eK]) (by show tkN b n (tkS b n k) = _; rw [eK]; unfold tkN; rw [if_neg (by omega), if_neg c_5, if_pos c_6]) (lx_self lx)) (fun v_ σ_ hq => ?_)
                obtain ⟨rfl, lx2⟩ := hq
                rename gS => σ2
                show sE g_tt _ _ _ 90 [some (.ref 328), some (.int (iZ (i : Int))), some (.int (iZ (b p)))] [] σ2
                refine q_goto (tgt := 97) dX3_scan_90 (by decide) ?_
                refine z_iinc dX3_scan_97 rfl (by decide) ?_
                show sE g_tt _ _ _ 100 [some (.ref 328), some (.int (iZ ((i : Int) + 1))), some (.int (iZ (b p)))] [] σ2
                refine q_goto (tgt := 12) dX3_scan_100 (by decide) ?_
                have er := tkE_ran (b := b) (n := n) (s := p) (by omega)
                have eP : tkP b n (k + 1) = tkE b n p := by rw [tkP]; show tkE b n (tkS b n k) = _; rw [← hs, eS]
                exact ih (i + 1) (tkE b n p) (k + 1) σ2 (some (.int (iZ (b p)))) (by omega) (by omega) (by omega) (by rw [eE]; exact lx_tr lx lx2) (by rw [← eP]; rfl) (by omega)
            · have c_5 := if01_1 c_5
              have eS : sEnd b n (n - p) p = p := sEnd_n (fun z => by omega)
              have eK : tkS b n k = p := by rw [← hs, eS]
              have eE : tkE b n p = lEnd b n (n - p) p := by unfold tkE; rw [if_neg (by omega), if_pos c_5]
              refine q_aload_n dX3_scan_72 rfl rfl ?_
              refine s_callV (ci := 3) (a := 328) (As := []) (S := []) dX3_scan_73 okX3_scanWord mlX3_38 rfl (by omega) rfl (Nat.le_of_ble_eq_true rfl) (show kd 328 = 3 from rfl) (by decide) rfl (x_scanWord (d := d - 1) (k := k) (s := p) (by omega) (by omega) σ1 (lx.2.1.trans hn) hn3 ((lx_b lx).trans hb) hb8 (by omega) (by show tkT b n (tkS b n k) = _; rw [eK]; unfold tkT; rw [if_neg (by omega), if_pos c_5]) (by show ((tkS b n k : Nat) : Int) = _; rw [eK]) (by show tkN b n (tkS b n k) = _; rw [eK]; unfold tkN; rw [if_neg (by omega), if_pos c_5]) (lx_self lx)) (fun v_ σ_ hq => ?_)
              obtain ⟨rfl, lx2⟩ := hq
              rename gS => σ2
              show sE g_tt _ _ _ 76 [some (.ref 328), some (.int (iZ (i : Int))), some (.int (iZ (b p)))] [] σ2
              refine q_goto (tgt := 97) dX3_scan_76 (by decide) ?_
              refine z_iinc dX3_scan_97 rfl (by decide) ?_
              show sE g_tt _ _ _ 100 [some (.ref 328), some (.int (iZ ((i : Int) + 1))), some (.int (iZ (b p)))] [] σ2
              refine q_goto (tgt := 12) dX3_scan_100 (by decide) ?_
              have er := tkE_ran (b := b) (n := n) (s := p) (by omega)
              have eP : tkP b n (k + 1) = tkE b n p := by rw [tkP]; show tkE b n (tkS b n k) = _; rw [← hs, eS]
              exact ih (i + 1) (tkE b n p) (k + 1) σ2 (some (.int (iZ (b p)))) (by omega) (by omega) (by omega) (by rw [eE]; exact lx_tr lx lx2) (by rw [← eP]; rfl) (by omega)
          · refine q_aload_n dX3_scan_52 rfl rfl ?_
            refine q_dup dX3_scan_53 rfl ?_
            refine sg3 (kf := 6) (v := .int (iZ (p : Int))) dX3_scan_54 flX3_31 (show kd 328 = 3 from rfl) (by decide) (by show some (Value.int (iZ (σ1.1 328 6))) = _; rw [show σ1.1 328 6 = (p : Int) from lx.2.2.2.1]) ?_
            refine z_iconst dX3_scan_57 ?_
            refine z_iadd dX3_scan_58 ?_
            refine sp3 (kf := 6) dX3_scan_59 flX3_31 (show kd 328 = 3 from rfl) (by decide) ?_
            refine q_goto (tgt := 97) dX3_scan_62 (by decide) ?_
            refine z_iinc dX3_scan_97 rfl (by decide) ?_
            show sE g_tt _ _ _ 100 [some (.ref 328), some (.int (iZ ((i : Int) + 1))), some (.int (iZ (b p)))] [] (sI σ1 328 6 ((p : Int) + 1))
            refine q_goto (tgt := 12) dX3_scan_100 (by decide) ?_
            have k9 := ih (i + 1) (p + 1) k _ (some (.int (iZ (b p)))) (by omega) (by omega) (by omega) (lx_at lx (p + 1)) (by rw [← sEnd_b (by omega) (by omega)]; exact hs) (by omega)
            rw [show ((p + 1 : Nat) : Int) = (p : Int) + 1 by omega] at k9
            exact k9
set_option maxHeartbeats 4000000 in
set_option maxRecDepth 100000 in
theorem x_scan {d : Nat} (hd : 6 ≤ d) (σ : gS) {b : Nat → Int} {n : Nat} (hn : σ.1 328 1 = (n : Int)) (hn3 : n ≤ 300) (hb : σ.2.1 329 = b) (hb8 : ∀ i, i < n → 0 ≤ b i ∧ b i < 256) : sC mX3_scan d [.ref 328] σ (fun r σ' => r = none ∧ ∃ k, k ≤ n ∧ tkS b n k = n ∧ lxR σ σ' (k + 1) n (tkA b n) (stA b n) (nuA b n)) := by
  refine sC_of rfl (Nat.le_of_ble_eq_true rfl) ?_
  show sE g_tt _ _ _ 0 [some (.ref 328), none, none] [] σ
  refine q_aload_n dX3_scan_0 rfl rfl ?_
  refine z_iconst dX3_scan_1 ?_
  refine sp3 (kf := 6) dX3_scan_2 flX3_31 (show kd 328 = 3 from rfl) (by decide) ?_
  refine q_aload_n dX3_scan_5 rfl rfl ?_
  refine z_iconst dX3_scan_6 ?_
  refine sp3 (kf := 5) dX3_scan_7 flX3_28 (show kd 328 = 3 from rfl) (by decide) ?_
  refine z_iconst dX3_scan_10 ?_
  refine q_istore_n dX3_scan_11 rfl (by decide) ?_
  show sE g_tt _ _ _ 12 [some (.ref 328), some (.int (iZ 0)), none] [] (sI (sI σ 328 6 0) 328 5 0)
  have l0 : lxR σ (sI (sI σ 328 6 0) 328 5 0) 0 0 (tkA b n) (stA b n) (nuA b n) := ⟨chg_tr (chg_mono (chg_sI σ 328 6 0) (fun a e => Or.inl e)) (chg_mono (chg_sI _ 328 5 0) (fun a e => Or.inl e)), (up2_k (a := 328) (k := 5) (j := 1) (up2 σ.1 328 6 0) 0 (by decide)).trans (up2_k (a := 328) (k := 6) (j := 1) σ.1 0 (by decide)), up2_at (up2 σ.1 328 6 0) 328 5 0, (up2_k (a := 328) (k := 5) (j := 6) (up2 σ.1 328 6 0) 0 (by decide)).trans (up2_at σ.1 328 6 0), fun i hi => absurd hi (by omega)⟩
  exact lx_scan hd σ hn hn3 hb hb8 (n + 1) 0 0 0 (sI (sI σ 328 6 0) 328 5 0) none (by omega) (by omega) (by omega) l0 rfl (by omega)
