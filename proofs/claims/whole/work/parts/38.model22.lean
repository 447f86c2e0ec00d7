/-! ===== greatest, mover, rest, until ===== -/
/-- the first of the greatest of the first n: which, how great -/
def mGr (f : Nat → Int) : Nat → Int × Int
  | 0 => (0, -1)
  | n + 1 => if f n ≤ (mGr f n).2 then mGr f n else ((n : Int), f n)
theorem mGr_ran {f : Nat → Int} (h : ∀ n, n < 8 → 0 ≤ f n ∧ f n ≤ 5000000) : ∀ n, n ≤ 8 → ((-1 ≤ (mGr f n).2 ∧ (mGr f n).2 ≤ 5000000) ∧ 0 ≤ (mGr f n).1 ∧ (mGr f n).1 < 8) := by
  intro n
  induction n with
  | zero => intro _; exact ⟨⟨Int.le_refl _, by show (-1 : Int) ≤ 5000000; decide⟩, Int.le_refl _, by show (0 : Int) < 8; decide⟩
  | succ n ih =>
    intro hn
    have i9 := ih (by omega)
    have h9 := h n (by omega)
    rw [mGr]
    split
    · exact i9
    · exact ⟨⟨by show (-1 : Int) ≤ f n; omega, h9.2⟩, by show (0 : Int) ≤ (n : Int); omega, by show (n : Int) < 8; omega⟩
set_option maxHeartbeats 4000000 in
set_option maxRecDepth 100000 in
theorem lp_greatest {d : Nat} (hd : 9 ≤ d) {u : Int} (hu : u = 0 ∨ u = 1) (σ : gS) (A F : Nat → Int) (h23 : F 23 = 1) (h26 : 0 ≤ F 26) {W : wF} {nt : Int} (hW : wOK (σ.2.1 387) 100000 nt W) (g : gd 100000 nt A) : ∀ (n : Nat) (k : Nat) (σ1 : gS) (F1 : Nat → Int), k ≤ 8 → eqX σ σ1 → fS F F1 → 8 - (k : Int) < (n : Int) → sE g_tt mX7_greatest d (fun r σ' => r = some (.int (iZ (if u = 0 then (mGr (wvN W A) 8).2 else (mGr (wvN W A) 8).1))) ∧ ∃ σ2 F2, σ' = ms σ2 A F2 ∧ eqX σ σ2 ∧ fS F F2) 7 [some (.ref 384), some (.int (iZ u)), some (.int (iZ ((mGr (wvN W A) k).1))), some (.int (iZ ((mGr (wvN W A) k).2))), some (.int (iZ (k : Int)))] [] (ms σ1 A F1) := by
  intro n
  induction n with
  | zero =>
    intro k σ1 F1 hk hE1 hF1 hn
    exact absurd hn (by omega)
  | succ n ih =>
    intro k σ1 F1 hk hE1 hF1 hn
    have rn := mGr_ran (f := wvN W A) (fun n hn => ⟨by have q := wv_ran hW g hn; omega, by have q := wv_ran hW g hn; omega⟩) k (by omega)
    rcases Nat.lt_or_ge k 8 with hk8 | hk8
    · refine q_iload dX7_greatest_7 rfl ?_
      refine z_bipush dX7_greatest_9 (by decide +kernel) ?_
      refine z_icmp_ge (tgt := 46) dX7_greatest_11 (by decide) (by unfold inR at *; omega) (by unfold inR at *; omega) (fun c_1 => ?_) (fun c_1 => ?_)
      · exfalso
        omega
      · refine q_aload_n dX7_greatest_14 rfl rfl ?_
        refine q_iload dX7_greatest_15 rfl ?_
        refine z_iconst dX7_greatest_17 ?_
        refine s_callV (ci := 7) (a := 384) (As := [.int (iZ (k : Int)), .int (iZ (-1))]) (S := []) dX7_greatest_18 okX7_layWave mlX7_400 rfl (by omega) rfl (Nat.le_of_ble_eq_true rfl) (show kd 384 = 7 from rfl) (by decide) rfl (m_layWave (d := d - 1) (h := k) (by omega) (by omega) σ1 A F1 ((fS_23 hF1).trans h23) hF1.2 (by rw [hE1.2.1 387 (by decide)]; exact hW) g) (fun v_ σ_ hq => ?_)
        obtain ⟨rfl, σ8, F8, e9, hE8, hF8, hN8, hT8, hM8⟩ := hq
        subst e9
        have hE9 := eqX_tr hE1 hE8
        have hF9 := fS_tr hF1 hF8
        have hN8 : F8 29 = wvN W A k := hN8
        have hM8 : F8 31 = wvM W A k := hM8
        show sE g_tt _ _ _ 21 [some (.ref 384), some (.int (iZ u)), some (.int (iZ ((mGr (wvN W A) k).1))), some (.int (iZ ((mGr (wvN W A) k).2))), some (.int (iZ (k : Int)))] [] (ms σ8 A F8)
        refine q_aload_n dX7_greatest_21 rfl rfl ?_
        refine sg7 (kf := 29) (v := .int (iZ (F8 29))) dX7_greatest_22 flX7_391 (show kd 384 = 7 from rfl) (by decide) rfl ?_
        refine q_iload_n dX7_greatest_25 rfl rfl ?_
        refine z_icmp_gt (tgt := 32) dX7_greatest_26 (by decide) (by have q := wv_ran hW g hk8; rw [hN8]; unfold inR; omega) (by unfold inR at *; omega) (fun c_2 => ?_) (fun c_2 => ?_)
        · refine q_aload_n dX7_greatest_32 rfl rfl ?_
          refine sg7 (kf := 29) (v := .int (iZ (F8 29))) dX7_greatest_33 flX7_391 (show kd 384 = 7 from rfl) (by decide) rfl ?_
          refine q_istore_n dX7_greatest_36 rfl (by decide) ?_
          show sE g_tt _ _ _ 37 [some (.ref 384), some (.int (iZ u)), some (.int (iZ ((mGr (wvN W A) k).1))), some (.int (iZ (F8 29))), some (.int (iZ (k : Int)))] [] (ms σ8 A F8)
          refine q_iload dX7_greatest_37 rfl ?_
          refine q_istore_n dX7_greatest_39 rfl (by decide) ?_
          show sE g_tt _ _ _ 40 [some (.ref 384), some (.int (iZ u)), some (.int (iZ (k : Int))), some (.int (iZ (F8 29))), some (.int (iZ (k : Int)))] [] (ms σ8 A F8)
          refine z_iinc dX7_greatest_40 rfl (by decide) ?_
          show sE g_tt _ _ _ 43 [some (.ref 384), some (.int (iZ u)), some (.int (iZ (k : Int))), some (.int (iZ (F8 29))), some (.int (iZ ((k : Int) + 1)))] [] (ms σ8 A F8)
          refine q_goto (tgt := 7) dX7_greatest_43 (by decide) ?_
          have e : mGr (wvN W A) (k + 1) = ((k : Int), F8 29) := by rw [mGr, if_neg (by rw [hN8] at c_2; omega), hN8]
          have k9 := ih (k + 1) σ8 F8 (by omega) hE9 hF9 (by omega)
          rw [e] at k9
          exact k9
        · refine q_goto (tgt := 40) dX7_greatest_29 (by decide) ?_
          refine z_iinc dX7_greatest_40 rfl (by decide) ?_
          show sE g_tt _ _ _ 43 [some (.ref 384), some (.int (iZ u)), some (.int (iZ ((mGr (wvN W A) k).1))), some (.int (iZ ((mGr (wvN W A) k).2))), some (.int (iZ ((k : Int) + 1)))] [] (ms σ8 A F8)
          refine q_goto (tgt := 7) dX7_greatest_43 (by decide) ?_
          have e : mGr (wvN W A) (k + 1) = mGr (wvN W A) k := by rw [mGr, if_pos (by rw [hN8] at c_2; omega)]
          have k9 := ih (k + 1) σ8 F8 (by omega) hE9 hF9 (by omega)
          rw [e] at k9
          exact k9
    · refine q_iload dX7_greatest_7 rfl ?_
      refine z_bipush dX7_greatest_9 (by decide +kernel) ?_
      refine z_icmp_ge (tgt := 46) dX7_greatest_11 (by decide) (by unfold inR at *; omega) (by unfold inR at *; omega) (fun c_1 => ?_) (fun c_1 => ?_)
      · refine q_iload_n dX7_greatest_46 rfl rfl ?_
        refine z_if_eq (tgt := 54) dX7_greatest_47 (by decide) (by unfold inR at *; omega) (fun c_2 => ?_) (fun c_2 => ?_)
        · refine q_iload_n dX7_greatest_54 rfl rfl ?_
          exact s_iretZ dX7_greatest_55 rfl ⟨by rw [show (8 : Nat) = k by omega]; (repeat (first | rw [if_pos (by omega)] | rw [if_neg (by omega)])), σ1, F1, rfl, hE1, hF1⟩
        · refine q_iload_n dX7_greatest_50 rfl rfl ?_
          refine q_goto (tgt := 55) dX7_greatest_51 (by decide) ?_
          exact s_iretZ dX7_greatest_55 rfl ⟨by rw [show (8 : Nat) = k by omega]; (repeat (first | rw [if_pos (by omega)] | rw [if_neg (by omega)])), σ1, F1, rfl, hE1, hF1⟩
      · exfalso
        omega
set_option maxHeartbeats 4000000 in
set_option maxRecDepth 100000 in
theorem m_greatest {d : Nat} (hd : 9 ≤ d) {u : Int} (hu : u = 0 ∨ u = 1) (σ : gS) (A F : Nat → Int) (h23 : F 23 = 1) (h26 : 0 ≤ F 26) {W : wF} {nt : Int} (hW : wOK (σ.2.1 387) 100000 nt W) (g : gd 100000 nt A) : sC mX7_greatest d [.ref 384, .int (iZ u)] (ms σ A F) (fun r σ' => r = some (.int (iZ (if u = 0 then (mGr (wvN W A) 8).2 else (mGr (wvN W A) 8).1))) ∧ ∃ σ2 F2, σ' = ms σ2 A F2 ∧ eqX σ σ2 ∧ fS F F2) := by
  refine sC_of rfl (Nat.le_of_ble_eq_true rfl) ?_
  show sE g_tt _ _ _ 0 [some (.ref 384), some (.int (iZ u)), none, none, none] [] (ms σ A F)
  refine z_iconst dX7_greatest_0 ?_
  refine q_istore_n dX7_greatest_1 rfl (by decide) ?_
  show sE g_tt _ _ _ 2 [some (.ref 384), some (.int (iZ u)), some (.int (iZ 0)), none, none] [] (ms σ A F)
  refine z_iconst dX7_greatest_2 ?_
  refine q_istore_n dX7_greatest_3 rfl (by decide) ?_
  show sE g_tt _ _ _ 4 [some (.ref 384), some (.int (iZ u)), some (.int (iZ 0)), some (.int (iZ (-1))), none] [] (ms σ A F)
  refine z_iconst dX7_greatest_4 ?_
  refine q_istore dX7_greatest_5 (by decide) ?_
  show sE g_tt _ _ _ 7 [some (.ref 384), some (.int (iZ u)), some (.int (iZ 0)), some (.int (iZ (-1))), some (.int (iZ 0))] [] (ms σ A F)
  exact lp_greatest hd hu σ A F h23 h26 hW g 9 0 σ F (by omega) (eqX_rf σ) (fS_rf h26) (by omega)
set_option maxHeartbeats 4000000 in
set_option maxRecDepth 100000 in
theorem lp_mover {d : Nat} (hd : 9 ≤ d) {u : Int} (hu : u = 0 ∨ u = 1) (σ : gS) (A F : Nat → Int) (h23 : F 23 = 1) (h26 : 0 ≤ F 26) {W : wF} {nt : Int} (hW : wOK (σ.2.1 387) 100000 nt W) (g : gd 100000 nt A) : ∀ (n : Nat) (k : Nat) (σ1 : gS) (F1 : Nat → Int), k ≤ 8 → eqX σ σ1 → fS F F1 → 8 - (k : Int) < (n : Int) → sE g_tt mX7_mover d (fun r σ' => r = some (.int (iZ (if u = 0 then (mGr (wvM W A) 8).2 else (mGr (wvM W A) 8).1))) ∧ ∃ σ2 F2, σ' = ms σ2 A F2 ∧ eqX σ σ2 ∧ fS F F2) 7 [some (.ref 384), some (.int (iZ u)), some (.int (iZ ((mGr (wvM W A) k).1))), some (.int (iZ ((mGr (wvM W A) k).2))), some (.int (iZ (k : Int)))] [] (ms σ1 A F1) := by
  intro n
  induction n with
  | zero =>
    intro k σ1 F1 hk hE1 hF1 hn
    exact absurd hn (by omega)
  | succ n ih =>
    intro k σ1 F1 hk hE1 hF1 hn
    have rn := mGr_ran (f := wvM W A) (fun n hn => ⟨by have q := wv_ran hW g hn; omega, by have q := wv_ran hW g hn; omega⟩) k (by omega)
    rcases Nat.lt_or_ge k 8 with hk8 | hk8
    · refine q_iload dX7_mover_7 rfl ?_
      refine z_bipush dX7_mover_9 (by decide +kernel) ?_
      refine z_icmp_ge (tgt := 46) dX7_mover_11 (by decide) (by unfold inR at *; omega) (by unfold inR at *; omega) (fun c_1 => ?_) (fun c_1 => ?_)
      · exfalso
        omega
      · refine q_aload_n dX7_mover_14 rfl rfl ?_
        refine q_iload dX7_mover_15 rfl ?_
        refine z_iconst dX7_mover_17 ?_
        refine s_callV (ci := 7) (a := 384) (As := [.int (iZ (k : Int)), .int (iZ (-1))]) (S := []) dX7_mover_18 okX7_layWave mlX7_400 rfl (by omega) rfl (Nat.le_of_ble_eq_true rfl) (show kd 384 = 7 from rfl) (by decide) rfl (m_layWave (d := d - 1) (h := k) (by omega) (by omega) σ1 A F1 ((fS_23 hF1).trans h23) hF1.2 (by rw [hE1.2.1 387 (by decide)]; exact hW) g) (fun v_ σ_ hq => ?_)
        obtain ⟨rfl, σ8, F8, e9, hE8, hF8, hN8, hT8, hM8⟩ := hq
        subst e9
        have hE9 := eqX_tr hE1 hE8
        have hF9 := fS_tr hF1 hF8
        have hN8 : F8 29 = wvN W A k := hN8
        have hM8 : F8 31 = wvM W A k := hM8
        show sE g_tt _ _ _ 21 [some (.ref 384), some (.int (iZ u)), some (.int (iZ ((mGr (wvM W A) k).1))), some (.int (iZ ((mGr (wvM W A) k).2))), some (.int (iZ (k : Int)))] [] (ms σ8 A F8)
        refine q_aload_n dX7_mover_21 rfl rfl ?_
        refine sg7 (kf := 31) (v := .int (iZ (F8 31))) dX7_mover_22 flX7_397 (show kd 384 = 7 from rfl) (by decide) rfl ?_
        refine q_iload_n dX7_mover_25 rfl rfl ?_
        refine z_icmp_gt (tgt := 32) dX7_mover_26 (by decide) (by have q := wv_ran hW g hk8; rw [hM8]; unfold inR; omega) (by unfold inR at *; omega) (fun c_2 => ?_) (fun c_2 => ?_)
        · refine q_aload_n dX7_mover_32 rfl rfl ?_
          refine sg7 (kf := 31) (v := .int (iZ (F8 31))) dX7_mover_33 flX7_397 (show kd 384 = 7 from rfl) (by decide) rfl ?_
          refine q_istore_n dX7_mover_36 rfl (by decide) ?_
          show sE g_tt _ _ _ 37 [some (.ref 384), some (.int (iZ u)), some (.int (iZ ((mGr (wvM W A) k).1))), some (.int (iZ (F8 31))), some (.int (iZ (k : Int)))] [] (ms σ8 A F8)
          refine q_iload dX7_mover_37 rfl ?_
          refine q_istore_n dX7_mover_39 rfl (by decide) ?_
          show sE g_tt _ _ _ 40 [some (.ref 384), some (.int (iZ u)), some (.int (iZ (k : Int))), some (.int (iZ (F8 31))), some (.int (iZ (k : Int)))] [] (ms σ8 A F8)
          refine z_iinc dX7_mover_40 rfl (by decide) ?_
          show sE g_tt _ _ _ 43 [some (.ref 384), some (.int (iZ u)), some (.int (iZ (k : Int))), some (.int (iZ (F8 31))), some (.int (iZ ((k : Int) + 1)))] [] (ms σ8 A F8)
          refine q_goto (tgt := 7) dX7_mover_43 (by decide) ?_
          have e : mGr (wvM W A) (k + 1) = ((k : Int), F8 31) := by rw [mGr, if_neg (by rw [hM8] at c_2; omega), hM8]
          have k9 := ih (k + 1) σ8 F8 (by omega) hE9 hF9 (by omega)
          rw [e] at k9
          exact k9
        · refine q_goto (tgt := 40) dX7_mover_29 (by decide) ?_
          refine z_iinc dX7_mover_40 rfl (by decide) ?_
          show sE g_tt _ _ _ 43 [some (.ref 384), some (.int (iZ u)), some (.int (iZ ((mGr (wvM W A) k).1))), some (.int (iZ ((mGr (wvM W A) k).2))), some (.int (iZ ((k : Int) + 1)))] [] (ms σ8 A F8)
          refine q_goto (tgt := 7) dX7_mover_43 (by decide) ?_
          have e : mGr (wvM W A) (k + 1) = mGr (wvM W A) k := by rw [mGr, if_pos (by rw [hM8] at c_2; omega)]
          have k9 := ih (k + 1) σ8 F8 (by omega) hE9 hF9 (by omega)
          rw [e] at k9
          exact k9
    · refine q_iload dX7_mover_7 rfl ?_
      refine z_bipush dX7_mover_9 (by decide +kernel) ?_
      refine z_icmp_ge (tgt := 46) dX7_mover_11 (by decide) (by unfold inR at *; omega) (by unfold inR at *; omega) (fun c_1 => ?_) (fun c_1 => ?_)
      · refine q_iload_n dX7_mover_46 rfl rfl ?_
        refine z_if_eq (tgt := 54) dX7_mover_47 (by decide) (by unfold inR at *; omega) (fun c_2 => ?_) (fun c_2 => ?_)
        · refine q_iload_n dX7_mover_54 rfl rfl ?_
          exact s_iretZ dX7_mover_55 rfl ⟨by rw [show (8 : Nat) = k by omega]; (repeat (first | rw [if_pos (by omega)] | rw [if_neg (by omega)])), σ1, F1, rfl, hE1, hF1⟩
        · refine q_iload_n dX7_mover_50 rfl rfl ?_
          refine q_goto (tgt := 55) dX7_mover_51 (by decide) ?_
          exact s_iretZ dX7_mover_55 rfl ⟨by rw [show (8 : Nat) = k by omega]; (repeat (first | rw [if_pos (by omega)] | rw [if_neg (by omega)])), σ1, F1, rfl, hE1, hF1⟩
      · exfalso
        omega
set_option maxHeartbeats 4000000 in
set_option maxRecDepth 100000 in
theorem m_mover {d : Nat} (hd : 9 ≤ d) {u : Int} (hu : u = 0 ∨ u = 1) (σ : gS) (A F : Nat → Int) (h23 : F 23 = 1) (h26 : 0 ≤ F 26) {W : wF} {nt : Int} (hW : wOK (σ.2.1 387) 100000 nt W) (g : gd 100000 nt A) : sC mX7_mover d [.ref 384, .int (iZ u)] (ms σ A F) (fun r σ' => r = some (.int (iZ (if u = 0 then (mGr (wvM W A) 8).2 else (mGr (wvM W A) 8).1))) ∧ ∃ σ2 F2, σ' = ms σ2 A F2 ∧ eqX σ σ2 ∧ fS F F2) := by
  refine sC_of rfl (Nat.le_of_ble_eq_true rfl) ?_
  show sE g_tt _ _ _ 0 [some (.ref 384), some (.int (iZ u)), none, none, none] [] (ms σ A F)
  refine z_iconst dX7_mover_0 ?_
  refine q_istore_n dX7_mover_1 rfl (by decide) ?_
  show sE g_tt _ _ _ 2 [some (.ref 384), some (.int (iZ u)), some (.int (iZ 0)), none, none] [] (ms σ A F)
  refine z_iconst dX7_mover_2 ?_
  refine q_istore_n dX7_mover_3 rfl (by decide) ?_
  show sE g_tt _ _ _ 4 [some (.ref 384), some (.int (iZ u)), some (.int (iZ 0)), some (.int (iZ (-1))), none] [] (ms σ A F)
  refine z_iconst dX7_mover_4 ?_
  refine q_istore dX7_mover_5 (by decide) ?_
  show sE g_tt _ _ _ 7 [some (.ref 384), some (.int (iZ u)), some (.int (iZ 0)), some (.int (iZ (-1))), some (.int (iZ 0))] [] (ms σ A F)
  exact lp_mover hd hu σ A F h23 h26 hW g 9 0 σ F (by omega) (eqX_rf σ) (fS_rf h26) (by omega)
theorem cnt_cons (h j : Nat) (l : List Nat) : (((h :: l).count j : Nat) : Int) = ((l.count j : Nat) : Int) + (if j = h then 1 else 0) := by
  rw [List.count_cons]
  by_cases e : j = h
  · subst e; simp
  · rw [if_neg e, if_neg (by simpa using fun q => e q.symm)]; simp
set_option maxHeartbeats 4000000 in
set_option maxRecDepth 100000 in
theorem lp_rest {d q : Nat} (hd : 7 ≤ d) (hq8 : q < 8) {u : Int} (hu : u = 0 ∨ u = 1) (σ : gS) (A F : Nat → Int) (h23 : F 23 = 1) (h26 : 0 ≤ F 26) {W : wF} {nt : Int} (hW : wOK (σ.2.1 387) 100000 nt W) (R : Nat → Int) (tot : Nat → Int) : ∀ (f : Nat) (B F1 : Nat → Int) (σ1 : gS), gd 100000 nt B → F1 23 = 0 → 0 ≤ F1 26 → fS (va_up F 23 0) F1 → asd σ A σ1 → agr A B → mPhi B < 2 * (f : Int) → (∀ j, j < 8 → σ1.2.1 394 j + (((sett W f B F1).1.count j : Nat) : Int) = tot j) → (sett W f B F1).2.1 = R → sE g_tt mX7_rest d (fun r σ' => r = some (.int (iZ (if u = 0 then R (11 + q) else tot q))) ∧ ∃ σ2 F2, σ' = ms σ2 A F2 ∧ eqX σ σ2 ∧ fS F F2) 48 [some (.ref 384), some (.int (iZ (q : Int))), some (.int (iZ u)), some (.int (iZ (rdI W B))), none] [] (ms σ1 B F1) := by
  intro f
  induction f with
  | zero =>
    intro B F1 σ1 g hz1 h261 hF1 hA1 ha hf hto hR
    have := (mPhi_ge g).1
    omega
  | succ f ih =>
    intro B F1 σ1 g hz1 h261 hF1 hA1 ha hf hto hR
    rcases rdI_spec (W := W) (A := B) with er | ⟨j, hj, ej, hw⟩
    · rw [er]
      refine q_iload_n dX7_rest_48 rfl rfl ?_
      refine z_iconst dX7_rest_49 ?_
      refine z_icmp_eq (tgt := 76) dX7_rest_50 (by decide) (by unfold inR at *; omega) (by unfold inR at *; omega) (fun c_1 => ?_) (fun c_1 => ?_)
      · refine q_iload_n dX7_rest_76 rfl rfl ?_
        refine z_if_ne (tgt := 92) dX7_rest_77 (by decide) (by unfold inR at *; omega) (fun c_2 => ?_) (fun c_2 => ?_)
        · refine q_aload_n dX7_rest_92 rfl rfl ?_
          refine sg7 (kf := 28) (v := .ref 394) dX7_rest_93 flX7_50 (show kd 384 = 7 from rfl) (by decide) rfl ?_
          refine q_iload_n dX7_rest_96 rfl rfl ?_
          refine s_iald (n := 8) (x := σ1.2.1 394 q) dX7_rest_97 (show kd 394 = 100 + 8 from rfl) (by omega) (by omega) (by decide) rfl ?_
          refine q_istore dX7_rest_98 (by decide) ?_
          show sE g_tt _ _ _ 100 [some (.ref 384), some (.int (iZ (q : Int))), some (.int (iZ u)), some (.int (iZ (-1))), some (.int (iZ (σ1.2.1 394 q)))] [] (ms σ1 B F1)
          refine q_aload_n dX7_rest_100 rfl rfl ?_
          refine s_callV (ci := 7) (a := 384) (As := []) (S := []) dX7_rest_101 okX7_putBack mlX7_388 rfl (by omega) rfl (Nat.le_of_ble_eq_true rfl) (show kd 384 = 7 from rfl) (by decide) rfl (m_putB (d := d - 1) (σ := σ) (A := A) σ1 B F1 hA1 ha) (fun v_ σ_ hq => ?_)
          obtain ⟨rfl, e9⟩ := hq
          have e9 := e9.symm
          subst e9
          show sE g_tt _ _ _ 104 [some (.ref 384), some (.int (iZ (q : Int))), some (.int (iZ u)), some (.int (iZ (-1))), some (.int (iZ (σ1.2.1 394 q)))] [] (ms σ1 A (va_up F1 23 1))
          refine q_iload dX7_rest_104 rfl ?_
          exact s_iretZ dX7_rest_106 rfl ⟨(by rw [if_neg (by omega)]; have t9 := hto q hq8; simp only [sett] at t9; rw [if_pos er] at t9; congr 3; simpa using t9), σ1, _, rfl, hA1.1, fS_fin h23 hF1⟩
        · refine q_aload_n dX7_rest_80 rfl rfl ?_
          refine sg7 (kf := 0) (v := .ref 385) dX7_rest_81 flX7_7 (show kd 384 = 7 from rfl) (by decide) rfl ?_
          refine z_bipush dX7_rest_84 (by decide +kernel) ?_
          refine q_iload_n dX7_rest_86 rfl rfl ?_
          refine z_iadd dX7_rest_87 ?_
          refine s_iald (n := 1583) (x := B (11 + q)) dX7_rest_88 (show kd 385 = 100 + 1583 from rfl) (by omega) (by omega) (by decide) rfl ?_
          refine q_goto (tgt := 98) dX7_rest_89 (by decide) ?_
          refine q_istore dX7_rest_98 (by decide) ?_
          show sE g_tt _ _ _ 100 [some (.ref 384), some (.int (iZ (q : Int))), some (.int (iZ u)), some (.int (iZ (-1))), some (.int (iZ (B (11 + q))))] [] (ms σ1 B F1)
          refine q_aload_n dX7_rest_100 rfl rfl ?_
          refine s_callV (ci := 7) (a := 384) (As := []) (S := []) dX7_rest_101 okX7_putBack mlX7_388 rfl (by omega) rfl (Nat.le_of_ble_eq_true rfl) (show kd 384 = 7 from rfl) (by decide) rfl (m_putB (d := d - 1) (σ := σ) (A := A) σ1 B F1 hA1 ha) (fun v_ σ_ hq => ?_)
          obtain ⟨rfl, e9⟩ := hq
          have e9 := e9.symm
          subst e9
          show sE g_tt _ _ _ 104 [some (.ref 384), some (.int (iZ (q : Int))), some (.int (iZ u)), some (.int (iZ (-1))), some (.int (iZ (B (11 + q))))] [] (ms σ1 A (va_up F1 23 1))
          refine q_iload dX7_rest_104 rfl ?_
          exact s_iretZ dX7_rest_106 rfl ⟨(by rw [if_pos (by omega), ← hR]; simp only [sett]; rw [if_pos er]) , σ1, _, rfl, hA1.1, fS_fin h23 hF1⟩
      · exfalso
        revert c_1
        decide
    · rw [ej]
      have w0 := wOK_0 hW B g j hj
      have g5 : gd 100000 nt (mThank B F1 j).1 := gd_thank g F1 hj (by omega)
      have hz5 : (mThank B F1 j).2 23 = 0 := by rw [mThank_F B F1 j (by decide) (by decide) (by decide)]; exact hz1
      have h265 : 0 ≤ (mThank B F1 j).2 26 := by rw [mThank_26]; omega
      have hF5 : fS (va_up F 23 0) (mThank B F1 j).2 := fS_tr hF1 ⟨fun k a b c _ _ _ _ => mThank_F B F1 j a b c, h265⟩
      have hA5 : asd σ A (sR σ1 394 j (σ1.2.1 394 j + 1)) := asd_R hA1 (by decide) _ _
      have ag5 : agr A (mThank B F1 j).1 := agr_tr ha (fun i hi => by
        by_cases q1 : i < 5
        · exact mThank_lo B F1 hj g.2.2.2.2.1.1 g.2.2.2.2.1.2 (by omega) (by omega) (by omega)
        · exact mThank_z B F1 hj hz1 g.1.2 (Or.inr (by omega)))
      refine q_iload_n dX7_rest_48 rfl rfl ?_
      refine z_iconst dX7_rest_49 ?_
      refine z_icmp_eq (tgt := 76) dX7_rest_50 (by decide) (by unfold inR at *; omega) (by unfold inR at *; omega) (fun c_1 => ?_) (fun c_1 => ?_)
      · exfalso
        omega
      · refine q_aload_n dX7_rest_53 rfl rfl ?_
        refine q_iload_n dX7_rest_54 rfl rfl ?_
        refine s_callV (ci := 7) (a := 384) (As := [.int (iZ (j : Int))]) (S := []) dX7_rest_55 okX7_thankNow mlX7_322 rfl (by omega) rfl (Nat.le_of_ble_eq_true rfl) (show kd 384 = 7 from rfl) (by decide) rfl (m_thankNow (d := d - 1) (h := j) (by omega) hj σ1 B F1 g.1.1 g.1.2 (gdh g) g.2.2.2.2.1.1 g.2.2.2.2.1.2 (by rw [hz1]; unfold inR; decide) h261) (fun v_ σ_ hq => ?_)
        obtain ⟨rfl, e9⟩ := hq
        have e9 := e9.symm
        subst e9
        show sE g_tt _ _ _ 58 [some (.ref 384), some (.int (iZ (q : Int))), some (.int (iZ u)), some (.int (iZ (j : Int))), none] [] (ms σ1 ((mThank B F1 j).1) ((mThank B F1 j).2))
        refine q_aload_n dX7_rest_58 rfl rfl ?_
        refine sg7 (kf := 28) (v := .ref 394) dX7_rest_59 flX7_50 (show kd 384 = 7 from rfl) (by decide) rfl ?_
        refine q_iload_n dX7_rest_62 rfl rfl ?_
        refine q_dup2 dX7_rest_63 rfl rfl ?_
        refine s_iald (n := 8) (x := σ1.2.1 394 j) dX7_rest_64 (show kd 394 = 100 + 8 from rfl) (by omega) (by omega) (by decide) rfl ?_
        refine z_iconst dX7_rest_65 ?_
        refine z_iadd dX7_rest_66 ?_
        refine mo_ist (n := 8) dX7_rest_67 (show kd 394 = 100 + 8 from rfl) (by decide) (by omega) (by omega) (by decide) ?_
        refine q_aload_n dX7_rest_68 rfl rfl ?_
        refine s_callV (ci := 7) (a := 384) (As := []) (S := []) dX7_rest_69 okX7_readyHouse mlX7_319 rfl (by omega) rfl (Nat.le_of_ble_eq_true rfl) (show kd 384 = 7 from rfl) (by decide) rfl (m_readyHouse (d := d - 1) (by omega) (sR σ1 394 j (σ1.2.1 394 j + 1)) (mThank B F1 j).1 (mThank B F1 j).2 g5.1.1 g5.1.2 (gdh g5) (gdk g5) (wA W (mThank B F1 j).1) (fun h hh => by rw [asd_T hA5]; exact hW (mThank B F1 j).1 ((mThank B F1 j).1 2) g5 g5.2.2.2.2.2.2.2.2.2.1 g5.2.2.2.2.2.2.2.2.2.2 h hh)) (fun v_ σ_ hq => ?_)
        obtain ⟨rfl, σ5, e9, hE5⟩ := hq
        subst e9
        show sE g_tt _ _ _ 72 [some (.ref 384), some (.int (iZ (q : Int))), some (.int (iZ u)), some (.int (iZ (j : Int))), none] [.int (iZ (rdI W (mThank B F1 j).1))] (ms σ5 ((mThank B F1 j).1) ((mThank B F1 j).2))
        refine q_istore_n dX7_rest_72 rfl (by decide) ?_
        show sE g_tt _ _ _ 73 [some (.ref 384), some (.int (iZ (q : Int))), some (.int (iZ u)), some (.int (iZ (rdI W (mThank B F1 j).1))), none] [] (ms σ5 ((mThank B F1 j).1) ((mThank B F1 j).2))
        refine q_goto (tgt := 48) dX7_rest_73 (by decide) ?_
        refine ih (mThank B F1 j).1 (mThank B F1 j).2 σ5 g5 hz5 h265 hF5 (asd_S hA5 hE5) ag5 (by have := (mThank_sum B F1 hj g.2.2.2.2.1.1 g.2.2.2.2.1.2).2; omega) (fun i hi => ?_) (by rw [← hR]; simp only [sett]; rw [if_neg (by omega), ej, Int.toNat_natCast])
        have t9 := hto i hi
        simp only [sett] at t9
        rw [if_neg (by omega), ej, Int.toNat_natCast, cnt_cons] at t9
        rw [hE5.2.1 394 (by decide) (by decide)]
        show up2 σ1.2.1 394 j (σ1.2.1 394 j + 1) 394 i + _ = _
        by_cases e : i = j
        · subst e; rw [up2_at]; rw [if_pos rfl] at t9; omega
        · rw [up2_k _ _ e]; rw [if_neg e] at t9; omega
/-- the row of often, the first k places cleared -/
def mCl (f : Nat → Int) (k : Nat) : Nat → Int := fun i => if i < k then 0 else f i
theorem mCl_0 (f : Nat → Int) : mCl f 0 = f := by
  funext i; unfold mCl; rw [if_neg (by omega)]
theorem mCl_step (f : Nat → Int) (k : Nat) : mCl f (k + 1) = va_up (mCl f k) k 0 := by
  funext i
  by_cases e : i = k
  · subst e; rw [va_up_self]; unfold mCl; rw [if_pos (by omega)]
  · rw [va_up_ne _ _ e]; unfold mCl
    by_cases q : i < k
    · rw [if_pos q, if_pos (by omega)]
    · rw [if_neg q, if_neg (by omega)]
set_option maxHeartbeats 4000000 in
set_option maxRecDepth 100000 in
theorem lp_rest0 {d q : Nat} (hd : 7 ≤ d) (hq8 : q < 8) {u : Int} (hu : u = 0 ∨ u = 1) (σ : gS) (A F : Nat → Int) (h23 : F 23 = 1) (h26 : 0 ≤ F 26) {W : wF} {nt : Int} (hW : wOK (σ.2.1 387) 100000 nt W) (g : gd 100000 nt A) : ∀ (n : Nat) (k : Nat), k ≤ 8 → 8 - (k : Int) < (n : Int) → sE g_tt mX7_rest d (fun r σ' => r = some (.int (iZ (if u = 0 then rA W A (11 + q) else (((rL W A).count q : Nat) : Int)))) ∧ ∃ σ2 F2, σ' = ms σ2 A F2 ∧ eqX σ σ2 ∧ fS F F2) 20 [some (.ref 384), some (.int (iZ (q : Int))), some (.int (iZ u)), some (.int (iZ (k : Int))), none] [] (ms (sRw σ 394 (mCl (σ.2.1 394) k)) A F) := by
  intro n
  induction n with
  | zero =>
    intro k hk hn
    exact absurd hn (by omega)
  | succ n ih =>
    intro k hk hn
    refine q_iload_n dX7_rest_20 rfl rfl ?_
    refine z_bipush dX7_rest_21 (by decide +kernel) ?_
    refine z_icmp_ge (tgt := 39) dX7_rest_23 (by decide) (by unfold inR at *; omega) (by unfold inR at *; omega) (fun c_1 => ?_) (fun c_1 => ?_)
    · refine q_aload_n dX7_rest_39 rfl rfl ?_
      refine s_callV (ci := 7) (a := 384) (As := []) (S := []) dX7_rest_40 okX7_setAside mlX7_385 rfl (by omega) rfl (Nat.le_of_ble_eq_true rfl) (show kd 384 = 7 from rfl) (by decide) rfl (m_setAside (d := d - 1) (sRw σ 394 (mCl (σ.2.1 394) k)) A F) (fun v_ σ_ hq => ?_)
      obtain ⟨rfl, e9⟩ := hq
      have e9 := e9.symm
      subst e9
      have hA1 : asd σ A (sRw (sRw σ 394 (mCl (σ.2.1 394) k)) 393 (mAs A ((sRw σ 394 (mCl (σ.2.1 394) k)).2.1 393) 24)) := asd_mk (eqX_Rw σ (by decide) _)
      have h394 : ∀ i, i < 8 → (sRw (sRw σ 394 (mCl (σ.2.1 394) k)) 393 (mAs A ((sRw σ 394 (mCl (σ.2.1 394) k)).2.1 393) 24)).2.1 394 i = 0 := fun i hi => by
        show va_up (va_up σ.2.1 394 (mCl (σ.2.1 394) k)) 393 (mAs A ((sRw σ 394 (mCl (σ.2.1 394) k)).2.1 393) 24) 394 i = 0
        rw [va_up_ne _ _ (by decide), va_up_self]
        unfold mCl
        rw [if_pos (by omega)]
      generalize sRw (sRw σ 394 (mCl (σ.2.1 394) k)) 393 (mAs A ((sRw σ 394 (mCl (σ.2.1 394) k)).2.1 393) 24) = σ1 at hA1 h394 ⊢
      show sE g_tt _ _ _ 43 [some (.ref 384), some (.int (iZ (q : Int))), some (.int (iZ u)), some (.int (iZ (k : Int))), none] [] (ms σ1 A (va_up F 23 0))
      refine q_aload_n dX7_rest_43 rfl rfl ?_
      refine s_callV (ci := 7) (a := 384) (As := []) (S := []) dX7_rest_44 okX7_readyHouse mlX7_319 rfl (by omega) rfl (Nat.le_of_ble_eq_true rfl) (show kd 384 = 7 from rfl) (by decide) rfl (m_readyHouse (d := d - 1) (by omega) σ1 A (va_up F 23 0) g.1.1 g.1.2 (gdh g) (gdk g) (wA W A) (fun h hh => by rw [asd_T hA1]; exact hW A (A 2) g g.2.2.2.2.2.2.2.2.2.1 g.2.2.2.2.2.2.2.2.2.2 h hh)) (fun v_ σ_ hq => ?_)
      obtain ⟨rfl, σ5, e9, hE5⟩ := hq
      subst e9
      show sE g_tt _ _ _ 47 [some (.ref 384), some (.int (iZ (q : Int))), some (.int (iZ u)), some (.int (iZ (k : Int))), none] [.int (iZ (rdI W A))] (ms σ5 A (va_up F 23 0))
      refine q_istore_n dX7_rest_47 rfl (by decide) ?_
      show sE g_tt _ _ _ 48 [some (.ref 384), some (.int (iZ (q : Int))), some (.int (iZ u)), some (.int (iZ (rdI W A))), none] [] (ms σ5 A (va_up F 23 0))
      refine sE_eq rfl (lp_rest hd hq8 hu σ A F h23 h26 hW (rA W A) (fun j => (((rL W A).count j : Nat) : Int)) fuS A (va_up F 23 0) σ5 g rfl (by show 0 ≤ F 26; exact h26) (fS_rf (by show 0 ≤ F 26; exact h26)) (asd_S hA1 hE5) (agr_rf A) (by have a := (mPhi_ge g).2; have b := fuS_ge; omega) (fun j hj => ?_) (sett_r (W := W) fuS A (va_up F 23 0) (va_up (va_up zF 26 0) 25 0) rfl).2)
      rw [hE5.2.1 394 (by decide) (by decide), h394 j hj, (sett_r fuS A (va_up F 23 0) (va_up (va_up zF 26 0) 25 0) rfl).1, Int.zero_add]
      rfl
    · refine q_aload_n dX7_rest_26 rfl rfl ?_
      refine sg7 (kf := 28) (v := .ref 394) dX7_rest_27 flX7_50 (show kd 384 = 7 from rfl) (by decide) rfl ?_
      refine q_iload_n dX7_rest_30 rfl rfl ?_
      refine z_iconst dX7_rest_31 ?_
      refine mr_st (b := 394) (n := 8) (k := k) dX7_rest_32 (show kd 394 = 100 + 8 from rfl) (by decide) (by omega) (by omega) (by decide) (by omega) ?_
      refine z_iinc dX7_rest_33 rfl (by decide) ?_
      show sE g_tt _ _ _ 36 [some (.ref 384), some (.int (iZ (q : Int))), some (.int (iZ u)), some (.int (iZ ((k : Int) + 1))), none] [] (ms (sRw σ 394 (va_up (mCl (σ.2.1 394) k) k 0)) A F)
      refine q_goto (tgt := 20) dX7_rest_36 (by decide) ?_
      rw [← mCl_step]
      exact ih (k + 1) (by omega) (by omega)
set_option maxHeartbeats 4000000 in
set_option maxRecDepth 100000 in
theorem m_rest {d q : Nat} (hd : 7 ≤ d) (hq8 : q < 8) {u : Int} (hu : u = 0 ∨ u = 1) (σ : gS) (A F : Nat → Int) (h23 : F 23 = 1) (h26 : 0 ≤ F 26) {W : wF} {nt : Int} (hW : wOK (σ.2.1 387) 100000 nt W) (g : gd 100000 nt A) : sC mX7_rest d [.ref 384, .int (iZ (q : Int)), .int (iZ u)] (ms σ A F) (fun r σ' => r = some (.int (iZ (if u = 0 then rA W A (11 + q) else (((rL W A).count q : Nat) : Int)))) ∧ ∃ σ2 F2, σ' = ms σ2 A F2 ∧ eqX σ σ2 ∧ fS F F2) := by
  refine sC_of rfl (Nat.le_of_ble_eq_true rfl) ?_
  show sE g_tt _ _ _ 0 [some (.ref 384), some (.int (iZ (q : Int))), some (.int (iZ u)), none, none] [] (ms σ A F)
  refine q_iload_n dX7_rest_0 rfl rfl ?_
  refine s_callS (As := [.int (iZ (q : Int))]) (S := []) dX7_rest_1 okX7_isHouse mlX7_70 rfl (by omega) rfl (Nat.le_of_ble_eq_true rfl) (m_isHouse (d := d - 1) (by omega) (h := (q : Int)) (by unfold inR at *; omega) (ms σ A F)) (fun v_ σ_ hq => ?_)
  obtain ⟨rfl, e9⟩ := hq
  have e9 := e9.symm
  subst e9
  show sE g_tt _ _ _ 4 [some (.ref 384), some (.int (iZ (q : Int))), some (.int (iZ u)), none, none] [.int (iZ (if 0 ≤ (q : Int) ∧ (q : Int) < 8 then 1 else 0))] (ms σ A F)
  refine z_if_eq (tgt := 16) dX7_rest_4 (by decide) inR_01 (fun c_1 => ?_) (fun c_1 => ?_)
  · have c_1 := if01_0 c_1
    exfalso
    omega
  · have c_1 := if01_1 c_1
    refine q_iload_n dX7_rest_7 rfl rfl ?_
    refine z_iconst dX7_rest_8 ?_
    refine z_iconst dX7_rest_9 ?_
    refine s_callS (As := [.int (iZ u), .int (iZ 0), .int (iZ 1)]) (S := []) dX7_rest_10 okX7_isIn mlX7_66 rfl (by omega) rfl (Nat.le_of_ble_eq_true rfl) (m_isIn (d := d - 1) (v := u) (a := 0) (b := 1) (by unfold inR at *; omega) (by unfold inR at *; omega) (by unfold inR at *; omega) (ms σ A F)) (fun v_ σ_ hq => ?_)
    obtain ⟨rfl, e9⟩ := hq
    have e9 := e9.symm
    subst e9
    show sE g_tt _ _ _ 13 [some (.ref 384), some (.int (iZ (q : Int))), some (.int (iZ u)), none, none] [.int (iZ (if 0 ≤ u ∧ u ≤ 1 then 1 else 0))] (ms σ A F)
    refine z_if_ne (tgt := 18) dX7_rest_13 (by decide) inR_01 (fun c_2 => ?_) (fun c_2 => ?_)
    · have c_2 := if01_1 c_2
      refine z_iconst dX7_rest_18 ?_
      refine q_istore_n dX7_rest_19 rfl (by decide) ?_
      show sE g_tt _ _ _ 20 [some (.ref 384), some (.int (iZ (q : Int))), some (.int (iZ u)), some (.int (iZ 0)), none] [] (ms σ A F)
      refine sE_eq (show ms (sRw σ 394 (mCl (σ.2.1 394) 0)) A F = ms σ A F by rw [mCl_0, sRw_id]) ?_
      exact lp_rest0 hd hq8 hu σ A F h23 h26 hW g 9 0 (by omega) (by omega)
    · have c_2 := if01_0 c_2
      exfalso
      omega
set_option maxHeartbeats 4000000 in
set_option maxRecDepth 100000 in
theorem m_rest0 {d : Nat} (hd : 2 ≤ d) {h k : Int} (hh : inR h) (hk : inR k) (hno : ¬ ((0 ≤ h ∧ h < 8) ∧ (0 ≤ k ∧ k ≤ 1))) (σ : gS) (A F : Nat → Int) : sC mX7_rest d [.ref 384, .int (iZ h), .int (iZ k)] (ms σ A F) (fun r σ' => r = some (.int (iZ (-1))) ∧ σ' = ms σ A F) := by
  refine sC_of rfl (Nat.le_of_ble_eq_true rfl) ?_
  show sE g_tt _ _ _ 0 [some (.ref 384), some (.int (iZ h)), some (.int (iZ k)), none, none] [] (ms σ A F)
  refine q_iload_n dX7_rest_0 rfl rfl ?_
  refine s_callS (As := [.int (iZ h)]) (S := []) dX7_rest_1 okX7_isHouse mlX7_70 rfl (by omega) rfl (Nat.le_of_ble_eq_true rfl) (m_isHouse (d := d - 1) (by omega) (h := h) (by unfold inR at *; omega) (ms σ A F)) (fun v_ σ_ hq => ?_)
  obtain ⟨rfl, e9⟩ := hq
  have e9 := e9.symm
  subst e9
  show sE g_tt _ _ _ 4 [some (.ref 384), some (.int (iZ h)), some (.int (iZ k)), none, none] [.int (iZ (if 0 ≤ h ∧ h < 8 then 1 else 0))] (ms σ A F)
  refine z_if_eq (tgt := 16) dX7_rest_4 (by decide) inR_01 (fun c_1 => ?_) (fun c_1 => ?_)
  · have c_1 := if01_0 c_1
    refine z_iconst dX7_rest_16 ?_
    exact s_iretZ dX7_rest_17 rfl ⟨rfl, rfl⟩
  · have c_1 := if01_1 c_1
    refine q_iload_n dX7_rest_7 rfl rfl ?_
    refine z_iconst dX7_rest_8 ?_
    refine z_iconst dX7_rest_9 ?_
    refine s_callS (As := [.int (iZ k), .int (iZ 0), .int (iZ 1)]) (S := []) dX7_rest_10 okX7_isIn mlX7_66 rfl (by omega) rfl (Nat.le_of_ble_eq_true rfl) (m_isIn (d := d - 1) (v := k) (a := 0) (b := 1) (by unfold inR at *; omega) (by unfold inR at *; omega) (by unfold inR at *; omega) (ms σ A F)) (fun v_ σ_ hq => ?_)
    obtain ⟨rfl, e9⟩ := hq
    have e9 := e9.symm
    subst e9
    show sE g_tt _ _ _ 13 [some (.ref 384), some (.int (iZ h)), some (.int (iZ k)), none, none] [.int (iZ (if 0 ≤ k ∧ k ≤ 1 then 1 else 0))] (ms σ A F)
    refine z_if_ne (tgt := 18) dX7_rest_13 (by decide) inR_01 (fun c_2 => ?_) (fun c_2 => ?_)
    · have c_2 := if01_1 c_2
      exfalso
      omega
    · have c_2 := if01_0 c_2
      refine z_iconst dX7_rest_16 ?_
      exact s_iretZ dX7_rest_17 rfl ⟨rfl, rfl⟩
/-- how many times good is done in house h till house o is thanked: from the n-th on (f of them) -/
noncomputable def mUn (W : wF) (h o : Nat) : Nat → Nat → (Nat → Int) → Int
  | 0, _, _ => -1
  | f + 1, n, B => if (rT W (inc B h)).toNat.testBit o then (n : Int) else mUn W h o f (n + 1) (rA W (inc B h))
set_option maxHeartbeats 4000000 in
set_option maxRecDepth 100000 in
theorem tl_until {d h k : Nat} (hd : 1 ≤ d) {v m : Int} (σ : gS) (A F : Nat → Int) (h23 : F 23 = 1) (h26 : 0 ≤ F 26) (σ1 : gS) (B F1 : Nat → Int) (hA1 : asd σ A σ1) (hF1 : fS (va_up F 23 0) F1) (ha : agr A B) : sE g_tt mX7_until d (fun r σ' => r = some (.int (iZ (v))) ∧ ∃ σ2 F2, σ' = ms σ2 A F2 ∧ eqX σ σ2 ∧ fS F F2) 73 [some (.ref 384), some (.int (iZ (h : Int))), some (.int (iZ (k : Int))), some (.int (iZ v)), some (.int (iZ m))] [] (ms σ1 B F1) := by
  refine q_aload_n dX7_until_73 rfl rfl ?_
  refine s_callV (ci := 7) (a := 384) (As := []) (S := []) dX7_until_74 okX7_putBack mlX7_388 rfl (by omega) rfl (Nat.le_of_ble_eq_true rfl) (show kd 384 = 7 from rfl) (by decide) rfl (m_putB (d := d - 1) (σ := σ) (A := A) σ1 B F1 hA1 ha) (fun v_ σ_ hq => ?_)
  obtain ⟨rfl, e9⟩ := hq
  have e9 := e9.symm
  subst e9
  show sE g_tt _ _ _ 77 [some (.ref 384), some (.int (iZ (h : Int))), some (.int (iZ (k : Int))), some (.int (iZ v)), some (.int (iZ m))] [] (ms σ1 A (va_up F1 23 1))
  refine q_iload_n dX7_until_77 rfl rfl ?_
  exact s_iretZ dX7_until_78 rfl ⟨rfl, σ1, _, rfl, hA1.1, fS_fin h23 hF1⟩
set_option maxHeartbeats 4000000 in
set_option maxRecDepth 100000 in
theorem tl_until2 {d h k : Nat} (hd : 1 ≤ d) {v m : Int} (σ : gS) (A F : Nat → Int) (h23 : F 23 = 1) (h26 : 0 ≤ F 26) (σ1 : gS) (B F1 : Nat → Int) (hA1 : asd σ A σ1) (hF1 : fS (va_up F 23 0) F1) (ha : agr A B) (hv : inR v) (hv1 : v ≠ -1) (hm : inR m) : sE g_tt mX7_until d (fun r σ' => r = some (.int (iZ (v))) ∧ ∃ σ2 F2, σ' = ms σ2 A F2 ∧ eqX σ σ2 ∧ fS F F2) 36 [some (.ref 384), some (.int (iZ (h : Int))), some (.int (iZ (k : Int))), some (.int (iZ v)), some (.int (iZ m))] [] (ms σ1 B F1) := by
  refine q_iload dX7_until_36 rfl ?_
  refine z_bipush dX7_until_38 (by decide +kernel) ?_
  refine z_icmp_gt (tgt := 73) dX7_until_40 (by decide) (by unfold inR at *; omega) (by unfold inR at *; omega) (fun c_1 => ?_) (fun c_1 => ?_)
  · exact tl_until hd σ A F h23 h26 σ1 B F1 hA1 hF1 ha
  · refine q_iload_n dX7_until_43 rfl rfl ?_
    refine z_iconst dX7_until_44 ?_
    refine z_icmp_ne (tgt := 73) dX7_until_45 (by decide) (by unfold inR at *; omega) (by unfold inR at *; omega) (fun c_2 => ?_) (fun c_2 => ?_)
    · exact tl_until hd σ A F h23 h26 σ1 B F1 hA1 hF1 ha
    · exfalso
      omega
set_option maxHeartbeats 4000000 in
set_option maxRecDepth 100000 in
theorem lp_until {d h k : Nat} (hd : 9 ≤ d) (hh : h < 8) (hk : k < 8) (σ : gS) (A F : Nat → Int) (h23 : F 23 = 1) (h26 : 0 ≤ F 26) {W : wF} {nt : Int} (hW : wOK (σ.2.1 387) 100000 nt W) : ∀ (f : Nat) (B : Nat → Int) (n : Nat) (σ1 : gS) (F1 : Nat → Int), gd 98000 nt B → asd σ A σ1 → fS (va_up F 23 0) F1 → F1 23 = 0 → agr A B → n ≤ 101 → 101 - (n : Int) < (f : Int) → sE g_tt mX7_until d (fun r σ' => r = some (.int (iZ (mUn W h k (101 - n) n B))) ∧ ∃ σ2 F2, σ' = ms σ2 A F2 ∧ eqX σ σ2 ∧ fS F F2) 36 [some (.ref 384), some (.int (iZ (h : Int))), some (.int (iZ (k : Int))), some (.int (iZ (-1))), some (.int (iZ (n : Int)))] [] (ms σ1 B F1) := by
  intro f
  induction f with
  | zero =>
    intro B n σ1 F1 g hA1 hF1 hz1 ha hn1 hn
    exact absurd hn (by omega)
  | succ f ih =>
    intro B n σ1 F1 g hA1 hF1 hz1 ha hn1 hn
    have t0 := rT_0 (W := W) (A := inc B h)
    have t1 := rT_lt (W := W) (A := inc B h)
    refine q_iload dX7_until_36 rfl ?_
    refine z_bipush dX7_until_38 (by decide +kernel) ?_
    refine z_icmp_gt (tgt := 73) dX7_until_40 (by decide) (by unfold inR at *; omega) (by unfold inR at *; omega) (fun c_1 => ?_) (fun c_1 => ?_)
    · rw [show 101 - n = 0 by omega, mUn]
      exact tl_until (by omega) σ A F h23 h26 σ1 B F1 hA1 hF1 ha
    · refine q_iload_n dX7_until_43 rfl rfl ?_
      refine z_iconst dX7_until_44 ?_
      refine z_icmp_ne (tgt := 73) dX7_until_45 (by decide) (by unfold inR at *; omega) (by unfold inR at *; omega) (fun c_2 => ?_) (fun c_2 => ?_)
      · exfalso
        revert c_2
        decide
      · refine q_aload_n dX7_until_48 rfl rfl ?_
        refine q_iload_n dX7_until_49 rfl rfl ?_
        refine s_callV (ci := 7) (a := 384) (As := [.int (iZ (h : Int))]) (S := []) dX7_until_50 okX7_goOne mlX7_403 rfl (by omega) rfl (Nat.le_of_ble_eq_true rfl) (show kd 384 = 7 from rfl) (by decide) rfl (m_goA (d := d - 1) (h := h) (by omega) hh σ1 B F1 (W := W) (nt := nt) (by rw [asd_T hA1]; exact hW) (gd_mono g (by decide)) hz1) (fun v_ σ_ hq => ?_)
        obtain ⟨rfl, σ2, F2, e9, hE2, hf2, hT2, hM2⟩ := hq
        subst e9
        have hA2 := asd_S hA1 hE2
        have hF2 := fS_tr hF1 hf2
        have hz2 : F2 23 = 0 := (fS_23 hf2).trans hz1
        show sE g_tt _ _ _ 53 [some (.ref 384), some (.int (iZ (h : Int))), some (.int (iZ (k : Int))), some (.int (iZ (-1))), some (.int (iZ (n : Int)))] [] (ms σ2 (rA W (inc B h)) F2)
        refine q_aload_n dX7_until_53 rfl rfl ?_
        refine sg7 (kf := 26) (v := .int (iZ (F2 26))) dX7_until_54 flX7_304 (show kd 384 = 7 from rfl) (by decide) rfl ?_
        refine z_top (y := (((rT W (inc B h)).toNat : Nat) : Int)) (by rw [hT2]; exact (Int.toNat_of_nonneg rT_0).symm) ?_
        refine q_iload_n dX7_until_57 rfl rfl ?_
        refine s_callS (As := [.int (iZ (((rT W (inc B h)).toNat : Nat) : Int)), .int (iZ (k : Int))]) (S := []) dX7_until_58 okX7_has mlX7_228 rfl (by omega) rfl (Nat.le_of_ble_eq_true rfl) (m_has (d := d - 1) (m := (rT W (inc B h)).toNat) (k := k) (by unfold inR; omega) (by omega) (ms σ2 (rA W (inc B h)) F2)) (fun v_ σ_ hq => ?_)
        obtain ⟨rfl, e9⟩ := hq
        have e9 := e9.symm
        subst e9
        show sE g_tt _ _ _ 61 [some (.ref 384), some (.int (iZ (h : Int))), some (.int (iZ (k : Int))), some (.int (iZ (-1))), some (.int (iZ (n : Int)))] [.int (iZ (if (rT W (inc B h)).toNat.testBit k then 1 else 0))] (ms σ2 (rA W (inc B h)) F2)
        refine z_if_eq (tgt := 67) dX7_until_61 (by decide) inR_01 (fun c_3 => ?_) (fun c_3 => ?_)
        · have c_3 := if01_0 c_3
          refine z_iinc dX7_until_67 rfl (by decide) ?_
          show sE g_tt _ _ _ 70 [some (.ref 384), some (.int (iZ (h : Int))), some (.int (iZ (k : Int))), some (.int (iZ (-1))), some (.int (iZ ((n : Int) + 1)))] [] (ms σ2 (rA W (inc B h)) F2)
          refine q_goto (tgt := 36) dX7_until_70 (by decide) ?_
          rw [show 101 - n = (101 - (n + 1)) + 1 by omega, mUn, if_neg c_3]
          exact ih _ (n + 1) σ2 F2 (gd_mono (gd_rA hW (gd_mono (gd_inc g hh) (by decide))) (by decide)) hA2 hF2 hz2 (agr_tr ha (agr_tr (agr_inc _ hh) (agr_rA hW (gd_mono (gd_inc g hh) (by decide))))) (by omega) (by omega)
        · have c_3 := if01_1 c_3
          refine q_iload dX7_until_64 rfl ?_
          refine q_istore_n dX7_until_66 rfl (by decide) ?_
          show sE g_tt _ _ _ 67 [some (.ref 384), some (.int (iZ (h : Int))), some (.int (iZ (k : Int))), some (.int (iZ (n : Int))), some (.int (iZ (n : Int)))] [] (ms σ2 (rA W (inc B h)) F2)
          refine z_iinc dX7_until_67 rfl (by decide) ?_
          show sE g_tt _ _ _ 70 [some (.ref 384), some (.int (iZ (h : Int))), some (.int (iZ (k : Int))), some (.int (iZ (n : Int))), some (.int (iZ ((n : Int) + 1)))] [] (ms σ2 (rA W (inc B h)) F2)
          refine q_goto (tgt := 36) dX7_until_70 (by decide) ?_
          rw [show 101 - n = (101 - (n + 1)) + 1 by omega, mUn, if_pos c_3]
          exact tl_until2 (by omega) σ A F h23 h26 σ2 _ F2 hA2 hF2 (agr_tr ha (agr_tr (agr_inc _ hh) (agr_rA hW (gd_mono (gd_inc g hh) (by decide))))) (by unfold inR; omega) (by omega) (by unfold inR; omega)
set_option maxHeartbeats 4000000 in
set_option maxRecDepth 100000 in
theorem m_until {d h k : Nat} (hd : 9 ≤ d) (hh : h < 8) (hk : k < 8) (σ : gS) (A F : Nat → Int) (h23 : F 23 = 1) (h26 : 0 ≤ F 26) {W : wF} {nt : Int} (hW : wOK (σ.2.1 387) 100000 nt W) (g : gd 100000 nt A) : sC mX7_until d [.ref 384, .int (iZ (h : Int)), .int (iZ (k : Int))] (ms σ A F) (fun r σ' => r = some (.int (iZ (mUn W h k 100 1 (rA W A)))) ∧ ∃ σ2 F2, σ' = ms σ2 A F2 ∧ eqX σ σ2 ∧ fS F F2) := by
  refine sC_of rfl (Nat.le_of_ble_eq_true rfl) ?_
  show sE g_tt _ _ _ 0 [some (.ref 384), some (.int (iZ (h : Int))), some (.int (iZ (k : Int))), none, none] [] (ms σ A F)
  refine q_iload_n dX7_until_0 rfl rfl ?_
  refine s_callS (As := [.int (iZ (h : Int))]) (S := []) dX7_until_1 okX7_isHouse mlX7_70 rfl (by omega) rfl (Nat.le_of_ble_eq_true rfl) (m_isHouse (d := d - 1) (by omega) (h := (h : Int)) (by unfold inR at *; omega) (ms σ A F)) (fun v_ σ_ hq => ?_)
  obtain ⟨rfl, e9⟩ := hq
  have e9 := e9.symm
  subst e9
  show sE g_tt _ _ _ 4 [some (.ref 384), some (.int (iZ (h : Int))), some (.int (iZ (k : Int))), none, none] [.int (iZ (if 0 ≤ (h : Int) ∧ (h : Int) < 8 then 1 else 0))] (ms σ A F)
  refine z_if_eq (tgt := 14) dX7_until_4 (by decide) inR_01 (fun c_1 => ?_) (fun c_1 => ?_)
  · have c_1 := if01_0 c_1
    exfalso
    omega
  · have c_1 := if01_1 c_1
    refine q_iload_n dX7_until_7 rfl rfl ?_
    refine s_callS (As := [.int (iZ (k : Int))]) (S := []) dX7_until_8 okX7_isHouse mlX7_70 rfl (by omega) rfl (Nat.le_of_ble_eq_true rfl) (m_isHouse (d := d - 1) (by omega) (h := (k : Int)) (by unfold inR at *; omega) (ms σ A F)) (fun v_ σ_ hq => ?_)
    obtain ⟨rfl, e9⟩ := hq
    have e9 := e9.symm
    subst e9
    show sE g_tt _ _ _ 11 [some (.ref 384), some (.int (iZ (h : Int))), some (.int (iZ (k : Int))), none, none] [.int (iZ (if 0 ≤ (k : Int) ∧ (k : Int) < 8 then 1 else 0))] (ms σ A F)
    refine z_if_ne (tgt := 16) dX7_until_11 (by decide) inR_01 (fun c_2 => ?_) (fun c_2 => ?_)
    · have c_2 := if01_1 c_2
      refine q_aload_n dX7_until_16 rfl rfl ?_
      refine s_callV (ci := 7) (a := 384) (As := []) (S := []) dX7_until_17 okX7_setAside mlX7_385 rfl (by omega) rfl (Nat.le_of_ble_eq_true rfl) (show kd 384 = 7 from rfl) (by decide) rfl (m_aside (d := d - 1) σ A F) (fun v_ σ_ hq => ?_)
      obtain ⟨rfl, σ1, e9, hA1⟩ := hq
      subst e9
      have hF1 : fS (va_up F 23 0) (va_up F 23 0) := fS_rf (by show 0 ≤ F 26; exact h26)
      have hz1 : va_up F 23 0 23 = 0 := rfl
      show sE g_tt _ _ _ 20 [some (.ref 384), some (.int (iZ (h : Int))), some (.int (iZ (k : Int))), none, none] [] (ms σ1 A (va_up F 23 0))
      refine z_iconst dX7_until_20 ?_
      refine q_istore_n dX7_until_21 rfl (by decide) ?_
      show sE g_tt _ _ _ 22 [some (.ref 384), some (.int (iZ (h : Int))), some (.int (iZ (k : Int))), some (.int (iZ (-1))), none] [] (ms σ1 A (va_up F 23 0))
      refine q_aload_n dX7_until_22 rfl rfl ?_
      refine s_callV (ci := 7) (a := 384) (As := []) (S := []) dX7_until_23 okX7_settleNow mlX7_331 rfl (by omega) rfl (Nat.le_of_ble_eq_true rfl) (show kd 384 = 7 from rfl) (by decide) rfl (m_stlB (d := d - 1) (by omega) σ1 A (va_up F 23 0) (W := W) (nt := nt) (by rw [asd_T hA1]; exact hW) g hz1) (fun v_ σ_ hq => ?_)
      obtain ⟨rfl, σ2, F2, e9, hE2, hf2, hT2, hM2⟩ := hq
      subst e9
      have hA2 := asd_S hA1 hE2
      have hF2 := fS_tr hF1 hf2
      have hz2 : F2 23 = 0 := (fS_23 hf2).trans hz1
      have hl2 := rL_len hW (A := A) g
      show sE g_tt _ _ _ 26 [some (.ref 384), some (.int (iZ (h : Int))), some (.int (iZ (k : Int))), some (.int (iZ (-1))), none] [.int (iZ ((rL W A).length : Int))] (ms σ2 (rA W A) F2)
      refine z_if_ge (tgt := 33) dX7_until_26 (by decide) (by unfold inR at *; omega) (fun c_3 => ?_) (fun c_3 => ?_)
      · refine z_iconst dX7_until_33 ?_
        refine q_istore dX7_until_34 (by decide) ?_
        show sE g_tt _ _ _ 36 [some (.ref 384), some (.int (iZ (h : Int))), some (.int (iZ (k : Int))), some (.int (iZ (-1))), some (.int (iZ 1))] [] (ms σ2 (rA W A) F2)
        exact lp_until hd hh hk σ A F h23 h26 hW 101 (rA W A) 1 σ2 F2 (gd_mono (gd_rA hW g) (by decide)) hA2 hF2 hz2 (agr_rA hW g) (by omega) (by omega)
      · exfalso
        omega
    · have c_2 := if01_0 c_2
      exfalso
      omega
set_option maxHeartbeats 4000000 in
set_option maxRecDepth 100000 in
theorem m_until0 {d : Nat} (hd : 2 ≤ d) {h k : Int} (hh : inR h) (hk : inR k) (hno : ¬ ((0 ≤ h ∧ h < 8) ∧ (0 ≤ k ∧ k < 8))) (σ : gS) (A F : Nat → Int) : sC mX7_until d [.ref 384, .int (iZ h), .int (iZ k)] (ms σ A F) (fun r σ' => r = some (.int (iZ (-1))) ∧ σ' = ms σ A F) := by
  refine sC_of rfl (Nat.le_of_ble_eq_true rfl) ?_
  show sE g_tt _ _ _ 0 [some (.ref 384), some (.int (iZ h)), some (.int (iZ k)), none, none] [] (ms σ A F)
  refine q_iload_n dX7_until_0 rfl rfl ?_
  refine s_callS (As := [.int (iZ h)]) (S := []) dX7_until_1 okX7_isHouse mlX7_70 rfl (by omega) rfl (Nat.le_of_ble_eq_true rfl) (m_isHouse (d := d - 1) (by omega) (h := h) (by unfold inR at *; omega) (ms σ A F)) (fun v_ σ_ hq => ?_)
  obtain ⟨rfl, e9⟩ := hq
  have e9 := e9.symm
  subst e9
  show sE g_tt _ _ _ 4 [some (.ref 384), some (.int (iZ h)), some (.int (iZ k)), none, none] [.int (iZ (if 0 ≤ h ∧ h < 8 then 1 else 0))] (ms σ A F)
  refine z_if_eq (tgt := 14) dX7_until_4 (by decide) inR_01 (fun c_1 => ?_) (fun c_1 => ?_)
  · have c_1 := if01_0 c_1
    refine z_iconst dX7_until_14 ?_
    exact s_iretZ dX7_until_15 rfl ⟨rfl, rfl⟩
  · have c_1 := if01_1 c_1
    refine q_iload_n dX7_until_7 rfl rfl ?_
    refine s_callS (As := [.int (iZ k)]) (S := []) dX7_until_8 okX7_isHouse mlX7_70 rfl (by omega) rfl (Nat.le_of_ble_eq_true rfl) (m_isHouse (d := d - 1) (by omega) (h := k) (by unfold inR at *; omega) (ms σ A F)) (fun v_ σ_ hq => ?_)
    obtain ⟨rfl, e9⟩ := hq
    have e9 := e9.symm
    subst e9
    show sE g_tt _ _ _ 11 [some (.ref 384), some (.int (iZ h)), some (.int (iZ k)), none, none] [.int (iZ (if 0 ≤ k ∧ k < 8 then 1 else 0))] (ms σ A F)
    refine z_if_ne (tgt := 16) dX7_until_11 (by decide) inR_01 (fun c_2 => ?_) (fun c_2 => ?_)
    · have c_2 := if01_1 c_2
      exfalso
      omega
    · have c_2 := if01_0 c_2
      refine z_iconst dX7_until_14 ?_
      exact s_iretZ dX7_until_15 rfl ⟨rfl, rfl⟩
