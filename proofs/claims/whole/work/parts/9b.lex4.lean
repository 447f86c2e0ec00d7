/-! ===== the model's nextToken ===== -/
theorem tokR_mk {f9 f10 wd t v : Int} (h1 : (0 ≤ f9 ∧ f9 < 128) ∧ (0 ≤ f10 ∧ f10 ≤ 1000000) ∧ (0 ≤ wd ∧ wd ≤ 1152921504606846976) ∧ (0 ≤ t ∧ t ≤ 40) ∧ (f9 = 0 ↔ t = 39) ∧ (f9 = 1 ↔ t = 38) ∧ (t = 38 → v = min f10 10000) ∧ (f9 = 2 ↔ (t ≤ 24 ∨ (t = 40 ∧ f9 = 2)))) (h2 : f9 = 2 → ∀ j : Nat, j < 25 → (wd = pkW j ↔ t = (j : Int))) (h3 : (f9 = 4 ↔ t = 36) ∧ (f9 = 5 ↔ t = 37) ∧ (f9 = 60 ↔ t = 25) ∧ (f9 = 62 ↔ t = 26) ∧ (f9 = 61 ↔ t = 27) ∧ (f9 = 35 ↔ t = 28) ∧ (f9 = 43 ↔ t = 29) ∧ (f9 = 45 ↔ t = 30) ∧ (f9 = 42 ↔ t = 31) ∧ (f9 = 47 ↔ t = 32) ∧ (f9 = 40 ↔ t = 33) ∧ (f9 = 41 ↔ t = 34) ∧ (f9 = 59 ↔ t = 35)) : tokR f9 f10 wd t v :=
  ⟨h1.1, h1.2.1, h1.2.2.1, h1.2.2.2.1, h1.2.2.2.2.1, h1.2.2.2.2.2.1, h1.2.2.2.2.2.2.1, h1.2.2.2.2.2.2.2, h2, h3⟩
def kpT (F F1 : Nat → Int) : Prop := ∀ k, k ≠ 7 → k ≠ 8 → k ≠ 9 → k ≠ 10 → F1 k = F k
theorem kpT_rf (F : Nat → Int) : kpT F F := fun _ _ _ _ _ => rfl
theorem kpT_up {F F1 : Nat → Int} (h : kpT F F1) {j : Nat} (hj : j = 7 ∨ j = 8 ∨ j = 9 ∨ j = 10) (v : Int) : kpT F (va_up F1 j v) := fun k a b c e => by rw [va_up_ne _ _ (by omega)]; exact h k a b c e
theorem sIx_lin (c : Int) : (c = 60 → sIx c 11 0 = 0) ∧ (c = 62 → sIx c 11 0 = 1) ∧ (c = 61 → sIx c 11 0 = 2) ∧ (c = 35 → sIx c 11 0 = 3) ∧ (c = 43 → sIx c 11 0 = 4) ∧ (c = 45 → sIx c 11 0 = 5) ∧ (c = 42 → sIx c 11 0 = 6) ∧ (c = 47 → sIx c 11 0 = 7) ∧ (c = 40 → sIx c 11 0 = 8) ∧ (c = 41 → sIx c 11 0 = 9) ∧ (c = 59 → sIx c 11 0 = 10) ∧ (¬ c = 60 → ¬ c = 62 → ¬ c = 61 → ¬ c = 35 → ¬ c = 43 → ¬ c = 45 → ¬ c = 42 → ¬ c = 47 → ¬ c = 40 → ¬ c = 41 → ¬ c = 59 → sIx c 11 0 = -1) := by
  rw [sIx_un]
  refine ⟨fun h => by rw [h]; rfl, fun h => by rw [h]; rfl, fun h => by rw [h]; rfl, fun h => by rw [h]; rfl, fun h => by rw [h]; rfl, fun h => by rw [h]; rfl, fun h => by rw [h]; rfl, fun h => by rw [h]; rfl, fun h => by rw [h]; rfl, fun h => by rw [h]; rfl, fun h => by rw [h]; rfl, ?_⟩
  intros
  repeat (rw [if_neg (by omega)])
set_option maxHeartbeats 4000000 in
set_option maxRecDepth 100000 in
theorem m_byteAt {d p : Nat} (σ : gS) (w0 : Int) (A F : Nat → Int) {b : Nat → Int} {n : Nat} (h4 : F 4 = (n : Int)) (hn3 : n ≤ 300) (hb : σ.2.1 388 = b) (hp : p ≤ 301) : sC mX7_byteAt d [.ref 384, .int (iZ (p : Int))] (ms (sW σ w0) A F) (fun r σ' => r = some (.int (iZ (if p < n then b p else -1))) ∧ σ' = (ms (sW σ w0) A F)) := by
  refine sC_of rfl (Nat.le_of_ble_eq_true rfl) ?_
  show sE g_tt _ _ _ 0 [some (.ref 384), some (.int (iZ (p : Int)))] [] (ms (sW σ w0) A F)
  refine q_iload_n dX7_byteAt_0 rfl rfl ?_
  refine q_aload_n dX7_byteAt_1 rfl rfl ?_
  refine sg7 (kf := 4) (v := .int (iZ (n : Int))) dX7_byteAt_2 flX7_74 (show kd 384 = 7 from rfl) (by decide) (by show some (Value.int (iZ (F 4))) = _; rw [h4]) ?_
  refine z_icmp_ge (tgt := 17) dX7_byteAt_5 (by decide) (by unfold inR at *; omega) (by unfold inR at *; omega) (fun c_1 => ?_) (fun c_1 => ?_)
  · refine z_iconst dX7_byteAt_17 ?_
    exact s_iretZ dX7_byteAt_18 rfl ⟨by first | (rw [if_pos (by omega)]; done) | (rw [if_neg (by omega)]; done), rfl⟩
  · refine q_aload_n dX7_byteAt_8 rfl rfl ?_
    refine sg7 (kf := 3) (v := .ref 388) dX7_byteAt_9 flX7_19 (show kd 384 = 7 from rfl) (by decide) rfl ?_
    refine q_iload_n dX7_byteAt_12 rfl rfl ?_
    refine s_iald (n := 300) (x := b p) dX7_byteAt_13 (show kd 388 = 100 + 300 from rfl) (by omega) (by omega) (by decide) (by show (sW σ w0).2.1 388 _ = _; rw [show (sW σ w0).2.1 388 = b from hb]) ?_
    refine q_goto (tgt := 18) dX7_byteAt_14 (by decide) ?_
    exact s_iretZ dX7_byteAt_18 rfl ⟨by first | (rw [if_pos (by omega)]; done) | (rw [if_neg (by omega)]; done), rfl⟩
set_option maxHeartbeats 4000000 in
set_option maxRecDepth 100000 in
theorem m_isLetterByte {d : Nat} {c : Int} (hc : inR c) (σ : gS) : sC mX7_isLetterByte d [.int (iZ c)] σ (fun r σ' => r = some (.int (iZ (if isLt c then 1 else 0))) ∧ σ' = σ) := by
  refine sC_of rfl (Nat.le_of_ble_eq_true rfl) ?_
  show sE g_tt _ _ _ 0 [some (.int (iZ c))] [] σ
  refine q_iload_n dX7_isLetterByte_0 rfl rfl ?_
  refine z_bipush dX7_isLetterByte_1 (by decide +kernel) ?_
  refine z_icmp_lt (tgt := 12) dX7_isLetterByte_3 (by decide) (by unfold inR at *; omega) (by unfold inR at *; omega) (fun c_1 => ?_) (fun c_1 => ?_)
  · refine q_iload_n dX7_isLetterByte_12 rfl rfl ?_
    refine z_bipush dX7_isLetterByte_13 (by decide +kernel) ?_
    refine z_icmp_lt (tgt := 28) dX7_isLetterByte_15 (by decide) (by unfold inR at *; omega) (by unfold inR at *; omega) (fun c_2 => ?_) (fun c_2 => ?_)
    · refine z_iconst dX7_isLetterByte_28 ?_
      exact s_zret dX7_isLetterByte_29 rfl (by omega) ⟨by first | (rw [if_pos (by omega)]; done) | (rw [if_neg (by omega)]; done), rfl⟩
    · refine q_iload_n dX7_isLetterByte_18 rfl rfl ?_
      refine z_bipush dX7_isLetterByte_19 (by decide +kernel) ?_
      refine z_icmp_gt (tgt := 28) dX7_isLetterByte_21 (by decide) (by unfold inR at *; omega) (by unfold inR at *; omega) (fun c_3 => ?_) (fun c_3 => ?_)
      · refine z_iconst dX7_isLetterByte_28 ?_
        exact s_zret dX7_isLetterByte_29 rfl (by omega) ⟨by first | (rw [if_pos (by omega)]; done) | (rw [if_neg (by omega)]; done), rfl⟩
      · refine z_iconst dX7_isLetterByte_24 ?_
        refine q_goto (tgt := 29) dX7_isLetterByte_25 (by decide) ?_
        exact s_zret dX7_isLetterByte_29 rfl (by omega) ⟨by first | (rw [if_pos (by omega)]; done) | (rw [if_neg (by omega)]; done), rfl⟩
  · refine q_iload_n dX7_isLetterByte_6 rfl rfl ?_
    refine z_bipush dX7_isLetterByte_7 (by decide +kernel) ?_
    refine z_icmp_le (tgt := 24) dX7_isLetterByte_9 (by decide) (by unfold inR at *; omega) (by unfold inR at *; omega) (fun c_4 => ?_) (fun c_4 => ?_)
    · refine z_iconst dX7_isLetterByte_24 ?_
      refine q_goto (tgt := 29) dX7_isLetterByte_25 (by decide) ?_
      exact s_zret dX7_isLetterByte_29 rfl (by omega) ⟨by first | (rw [if_pos (by omega)]; done) | (rw [if_neg (by omega)]; done), rfl⟩
    · refine q_iload_n dX7_isLetterByte_12 rfl rfl ?_
      refine z_bipush dX7_isLetterByte_13 (by decide +kernel) ?_
      refine z_icmp_lt (tgt := 28) dX7_isLetterByte_15 (by decide) (by unfold inR at *; omega) (by unfold inR at *; omega) (fun c_5 => ?_) (fun c_5 => ?_)
      · refine z_iconst dX7_isLetterByte_28 ?_
        exact s_zret dX7_isLetterByte_29 rfl (by omega) ⟨by first | (rw [if_pos (by omega)]; done) | (rw [if_neg (by omega)]; done), rfl⟩
      · refine q_iload_n dX7_isLetterByte_18 rfl rfl ?_
        refine z_bipush dX7_isLetterByte_19 (by decide +kernel) ?_
        refine z_icmp_gt (tgt := 28) dX7_isLetterByte_21 (by decide) (by unfold inR at *; omega) (by unfold inR at *; omega) (fun c_6 => ?_) (fun c_6 => ?_)
        · refine z_iconst dX7_isLetterByte_28 ?_
          exact s_zret dX7_isLetterByte_29 rfl (by omega) ⟨by first | (rw [if_pos (by omega)]; done) | (rw [if_neg (by omega)]; done), rfl⟩
        · refine z_iconst dX7_isLetterByte_24 ?_
          refine q_goto (tgt := 29) dX7_isLetterByte_25 (by decide) ?_
          exact s_zret dX7_isLetterByte_29 rfl (by omega) ⟨by first | (rw [if_pos (by omega)]; done) | (rw [if_neg (by omega)]; done), rfl⟩
set_option maxHeartbeats 4000000 in
set_option maxRecDepth 100000 in
theorem m_isFigure {d : Nat} {c : Int} (hc : inR c) (σ : gS) : sC mX7_isFigure d [.int (iZ c)] σ (fun r σ' => r = some (.int (iZ (if isDg c then 1 else 0))) ∧ σ' = σ) := by
  refine sC_of rfl (Nat.le_of_ble_eq_true rfl) ?_
  show sE g_tt _ _ _ 0 [some (.int (iZ c))] [] σ
  refine q_iload_n dX7_isFigure_0 rfl rfl ?_
  refine z_bipush dX7_isFigure_1 (by decide +kernel) ?_
  refine z_icmp_lt (tgt := 16) dX7_isFigure_3 (by decide) (by unfold inR at *; omega) (by unfold inR at *; omega) (fun c_1 => ?_) (fun c_1 => ?_)
  · refine z_iconst dX7_isFigure_16 ?_
    exact s_zret dX7_isFigure_17 rfl (by omega) ⟨by first | (rw [if_pos (by omega)]; done) | (rw [if_neg (by omega)]; done), rfl⟩
  · refine q_iload_n dX7_isFigure_6 rfl rfl ?_
    refine z_bipush dX7_isFigure_7 (by decide +kernel) ?_
    refine z_icmp_gt (tgt := 16) dX7_isFigure_9 (by decide) (by unfold inR at *; omega) (by unfold inR at *; omega) (fun c_2 => ?_) (fun c_2 => ?_)
    · refine z_iconst dX7_isFigure_16 ?_
      exact s_zret dX7_isFigure_17 rfl (by omega) ⟨by first | (rw [if_pos (by omega)]; done) | (rw [if_neg (by omega)]; done), rfl⟩
    · refine z_iconst dX7_isFigure_12 ?_
      refine q_goto (tgt := 17) dX7_isFigure_13 (by decide) ?_
      exact s_zret dX7_isFigure_17 rfl (by omega) ⟨by first | (rw [if_pos (by omega)]; done) | (rw [if_neg (by omega)]; done), rfl⟩
set_option maxHeartbeats 4000000 in
set_option maxRecDepth 100000 in
theorem m_isSign {d : Nat} {c : Int} (hc : inR c) (σ : gS) : sC mX7_isSign d [.int (iZ c)] σ (fun r σ' => r = some (.int (iZ (if c = 35 ∨ (40 ≤ c ∧ c ≤ 43) ∨ c = 45 ∨ c = 47 ∨ (58 ≤ c ∧ c ≤ 62) then 1 else 0))) ∧ σ' = σ) := by
  refine sC_of rfl (Nat.le_of_ble_eq_true rfl) ?_
  show sE g_tt _ _ _ 0 [some (.int (iZ c))] [] σ
  refine q_iload_n dX7_isSign_0 rfl rfl ?_
  by_cases s_1 : (c : Int) = 35
  · refine z_top s_1 ?_
    refine q_tableIn (tgt := 128) (off := 127) dX7_isSign_1 (by decide +kernel) (by decide +kernel) (by decide +kernel) (by decide) ?_
    refine z_iconst dX7_isSign_128 ?_
    exact s_zret dX7_isSign_129 rfl (by omega) ⟨by first | (rw [if_pos (by omega)]; done) | (rw [if_neg (by omega)]; done), rfl⟩
  by_cases s_2 : (c : Int) = 36
  · refine z_top s_2 ?_
    refine q_tableIn (tgt := 130) (off := 129) dX7_isSign_1 (by decide +kernel) (by decide +kernel) (by decide +kernel) (by decide) ?_
    refine z_iconst dX7_isSign_130 ?_
    exact s_zret dX7_isSign_131 rfl (by omega) ⟨by first | (rw [if_pos (by omega)]; done) | (rw [if_neg (by omega)]; done), rfl⟩
  by_cases s_3 : (c : Int) = 37
  · refine z_top s_3 ?_
    refine q_tableIn (tgt := 130) (off := 129) dX7_isSign_1 (by decide +kernel) (by decide +kernel) (by decide +kernel) (by decide) ?_
    refine z_iconst dX7_isSign_130 ?_
    exact s_zret dX7_isSign_131 rfl (by omega) ⟨by first | (rw [if_pos (by omega)]; done) | (rw [if_neg (by omega)]; done), rfl⟩
  by_cases s_4 : (c : Int) = 38
  · refine z_top s_4 ?_
    refine q_tableIn (tgt := 130) (off := 129) dX7_isSign_1 (by decide +kernel) (by decide +kernel) (by decide +kernel) (by decide) ?_
    refine z_iconst dX7_isSign_130 ?_
    exact s_zret dX7_isSign_131 rfl (by omega) ⟨by first | (rw [if_pos (by omega)]; done) | (rw [if_neg (by omega)]; done), rfl⟩
  by_cases s_5 : (c : Int) = 39
  · refine z_top s_5 ?_
    refine q_tableIn (tgt := 130) (off := 129) dX7_isSign_1 (by decide +kernel) (by decide +kernel) (by decide +kernel) (by decide) ?_
    refine z_iconst dX7_isSign_130 ?_
    exact s_zret dX7_isSign_131 rfl (by omega) ⟨by first | (rw [if_pos (by omega)]; done) | (rw [if_neg (by omega)]; done), rfl⟩
  by_cases s_6 : (c : Int) = 40
  · refine z_top s_6 ?_
    refine q_tableIn (tgt := 128) (off := 127) dX7_isSign_1 (by decide +kernel) (by decide +kernel) (by decide +kernel) (by decide) ?_
    refine z_iconst dX7_isSign_128 ?_
    exact s_zret dX7_isSign_129 rfl (by omega) ⟨by first | (rw [if_pos (by omega)]; done) | (rw [if_neg (by omega)]; done), rfl⟩
  by_cases s_7 : (c : Int) = 41
  · refine z_top s_7 ?_
    refine q_tableIn (tgt := 128) (off := 127) dX7_isSign_1 (by decide +kernel) (by decide +kernel) (by decide +kernel) (by decide) ?_
    refine z_iconst dX7_isSign_128 ?_
    exact s_zret dX7_isSign_129 rfl (by omega) ⟨by first | (rw [if_pos (by omega)]; done) | (rw [if_neg (by omega)]; done), rfl⟩
  by_cases s_8 : (c : Int) = 42
  · refine z_top s_8 ?_
    refine q_tableIn (tgt := 128) (off := 127) dX7_isSign_1 (by decide +kernel) (by decide +kernel) (by decide +kernel) (by decide) ?_
    refine z_iconst dX7_isSign_128 ?_
    exact s_zret dX7_isSign_129 rfl (by omega) ⟨by first | (rw [if_pos (by omega)]; done) | (rw [if_neg (by omega)]; done), rfl⟩
  by_cases s_9 : (c : Int) = 43
  · refine z_top s_9 ?_
    refine q_tableIn (tgt := 128) (off := 127) dX7_isSign_1 (by decide +kernel) (by decide +kernel) (by decide +kernel) (by decide) ?_
    refine z_iconst dX7_isSign_128 ?_
    exact s_zret dX7_isSign_129 rfl (by omega) ⟨by first | (rw [if_pos (by omega)]; done) | (rw [if_neg (by omega)]; done), rfl⟩
  by_cases s_10 : (c : Int) = 44
  · refine z_top s_10 ?_
    refine q_tableIn (tgt := 130) (off := 129) dX7_isSign_1 (by decide +kernel) (by decide +kernel) (by decide +kernel) (by decide) ?_
    refine z_iconst dX7_isSign_130 ?_
    exact s_zret dX7_isSign_131 rfl (by omega) ⟨by first | (rw [if_pos (by omega)]; done) | (rw [if_neg (by omega)]; done), rfl⟩
  by_cases s_11 : (c : Int) = 45
  · refine z_top s_11 ?_
    refine q_tableIn (tgt := 128) (off := 127) dX7_isSign_1 (by decide +kernel) (by decide +kernel) (by decide +kernel) (by decide) ?_
    refine z_iconst dX7_isSign_128 ?_
    exact s_zret dX7_isSign_129 rfl (by omega) ⟨by first | (rw [if_pos (by omega)]; done) | (rw [if_neg (by omega)]; done), rfl⟩
  by_cases s_12 : (c : Int) = 46
  · refine z_top s_12 ?_
    refine q_tableIn (tgt := 130) (off := 129) dX7_isSign_1 (by decide +kernel) (by decide +kernel) (by decide +kernel) (by decide) ?_
    refine z_iconst dX7_isSign_130 ?_
    exact s_zret dX7_isSign_131 rfl (by omega) ⟨by first | (rw [if_pos (by omega)]; done) | (rw [if_neg (by omega)]; done), rfl⟩
  by_cases s_13 : (c : Int) = 47
  · refine z_top s_13 ?_
    refine q_tableIn (tgt := 128) (off := 127) dX7_isSign_1 (by decide +kernel) (by decide +kernel) (by decide +kernel) (by decide) ?_
    refine z_iconst dX7_isSign_128 ?_
    exact s_zret dX7_isSign_129 rfl (by omega) ⟨by first | (rw [if_pos (by omega)]; done) | (rw [if_neg (by omega)]; done), rfl⟩
  by_cases s_14 : (c : Int) = 48
  · refine z_top s_14 ?_
    refine q_tableIn (tgt := 130) (off := 129) dX7_isSign_1 (by decide +kernel) (by decide +kernel) (by decide +kernel) (by decide) ?_
    refine z_iconst dX7_isSign_130 ?_
    exact s_zret dX7_isSign_131 rfl (by omega) ⟨by first | (rw [if_pos (by omega)]; done) | (rw [if_neg (by omega)]; done), rfl⟩
  by_cases s_15 : (c : Int) = 49
  · refine z_top s_15 ?_
    refine q_tableIn (tgt := 130) (off := 129) dX7_isSign_1 (by decide +kernel) (by decide +kernel) (by decide +kernel) (by decide) ?_
    refine z_iconst dX7_isSign_130 ?_
    exact s_zret dX7_isSign_131 rfl (by omega) ⟨by first | (rw [if_pos (by omega)]; done) | (rw [if_neg (by omega)]; done), rfl⟩
  by_cases s_16 : (c : Int) = 50
  · refine z_top s_16 ?_
    refine q_tableIn (tgt := 130) (off := 129) dX7_isSign_1 (by decide +kernel) (by decide +kernel) (by decide +kernel) (by decide) ?_
    refine z_iconst dX7_isSign_130 ?_
    exact s_zret dX7_isSign_131 rfl (by omega) ⟨by first | (rw [if_pos (by omega)]; done) | (rw [if_neg (by omega)]; done), rfl⟩
  by_cases s_17 : (c : Int) = 51
  · refine z_top s_17 ?_
    refine q_tableIn (tgt := 130) (off := 129) dX7_isSign_1 (by decide +kernel) (by decide +kernel) (by decide +kernel) (by decide) ?_
    refine z_iconst dX7_isSign_130 ?_
    exact s_zret dX7_isSign_131 rfl (by omega) ⟨by first | (rw [if_pos (by omega)]; done) | (rw [if_neg (by omega)]; done), rfl⟩
  by_cases s_18 : (c : Int) = 52
  · refine z_top s_18 ?_
    refine q_tableIn (tgt := 130) (off := 129) dX7_isSign_1 (by decide +kernel) (by decide +kernel) (by decide +kernel) (by decide) ?_
    refine z_iconst dX7_isSign_130 ?_
    exact s_zret dX7_isSign_131 rfl (by omega) ⟨by first | (rw [if_pos (by omega)]; done) | (rw [if_neg (by omega)]; done), rfl⟩
  by_cases s_19 : (c : Int) = 53
  · refine z_top s_19 ?_
    refine q_tableIn (tgt := 130) (off := 129) dX7_isSign_1 (by decide +kernel) (by decide +kernel) (by decide +kernel) (by decide) ?_
    refine z_iconst dX7_isSign_130 ?_
    exact s_zret dX7_isSign_131 rfl (by omega) ⟨by first | (rw [if_pos (by omega)]; done) | (rw [if_neg (by omega)]; done), rfl⟩
  by_cases s_20 : (c : Int) = 54
  · refine z_top s_20 ?_
    refine q_tableIn (tgt := 130) (off := 129) dX7_isSign_1 (by decide +kernel) (by decide +kernel) (by decide +kernel) (by decide) ?_
    refine z_iconst dX7_isSign_130 ?_
    exact s_zret dX7_isSign_131 rfl (by omega) ⟨by first | (rw [if_pos (by omega)]; done) | (rw [if_neg (by omega)]; done), rfl⟩
  by_cases s_21 : (c : Int) = 55
  · refine z_top s_21 ?_
    refine q_tableIn (tgt := 130) (off := 129) dX7_isSign_1 (by decide +kernel) (by decide +kernel) (by decide +kernel) (by decide) ?_
    refine z_iconst dX7_isSign_130 ?_
    exact s_zret dX7_isSign_131 rfl (by omega) ⟨by first | (rw [if_pos (by omega)]; done) | (rw [if_neg (by omega)]; done), rfl⟩
  by_cases s_22 : (c : Int) = 56
  · refine z_top s_22 ?_
    refine q_tableIn (tgt := 130) (off := 129) dX7_isSign_1 (by decide +kernel) (by decide +kernel) (by decide +kernel) (by decide) ?_
    refine z_iconst dX7_isSign_130 ?_
    exact s_zret dX7_isSign_131 rfl (by omega) ⟨by first | (rw [if_pos (by omega)]; done) | (rw [if_neg (by omega)]; done), rfl⟩
  by_cases s_23 : (c : Int) = 57
  · refine z_top s_23 ?_
    refine q_tableIn (tgt := 130) (off := 129) dX7_isSign_1 (by decide +kernel) (by decide +kernel) (by decide +kernel) (by decide) ?_
    refine z_iconst dX7_isSign_130 ?_
    exact s_zret dX7_isSign_131 rfl (by omega) ⟨by first | (rw [if_pos (by omega)]; done) | (rw [if_neg (by omega)]; done), rfl⟩
  by_cases s_24 : (c : Int) = 58
  · refine z_top s_24 ?_
    refine q_tableIn (tgt := 128) (off := 127) dX7_isSign_1 (by decide +kernel) (by decide +kernel) (by decide +kernel) (by decide) ?_
    refine z_iconst dX7_isSign_128 ?_
    exact s_zret dX7_isSign_129 rfl (by omega) ⟨by first | (rw [if_pos (by omega)]; done) | (rw [if_neg (by omega)]; done), rfl⟩
  by_cases s_25 : (c : Int) = 59
  · refine z_top s_25 ?_
    refine q_tableIn (tgt := 128) (off := 127) dX7_isSign_1 (by decide +kernel) (by decide +kernel) (by decide +kernel) (by decide) ?_
    refine z_iconst dX7_isSign_128 ?_
    exact s_zret dX7_isSign_129 rfl (by omega) ⟨by first | (rw [if_pos (by omega)]; done) | (rw [if_neg (by omega)]; done), rfl⟩
  by_cases s_26 : (c : Int) = 60
  · refine z_top s_26 ?_
    refine q_tableIn (tgt := 128) (off := 127) dX7_isSign_1 (by decide +kernel) (by decide +kernel) (by decide +kernel) (by decide) ?_
    refine z_iconst dX7_isSign_128 ?_
    exact s_zret dX7_isSign_129 rfl (by omega) ⟨by first | (rw [if_pos (by omega)]; done) | (rw [if_neg (by omega)]; done), rfl⟩
  by_cases s_27 : (c : Int) = 61
  · refine z_top s_27 ?_
    refine q_tableIn (tgt := 128) (off := 127) dX7_isSign_1 (by decide +kernel) (by decide +kernel) (by decide +kernel) (by decide) ?_
    refine z_iconst dX7_isSign_128 ?_
    exact s_zret dX7_isSign_129 rfl (by omega) ⟨by first | (rw [if_pos (by omega)]; done) | (rw [if_neg (by omega)]; done), rfl⟩
  by_cases s_28 : (c : Int) = 62
  · refine z_top s_28 ?_
    refine q_tableIn (tgt := 128) (off := 127) dX7_isSign_1 (by decide +kernel) (by decide +kernel) (by decide +kernel) (by decide) ?_
    refine z_iconst dX7_isSign_128 ?_
    exact s_zret dX7_isSign_129 rfl (by omega) ⟨by first | (rw [if_pos (by omega)]; done) | (rw [if_neg (by omega)]; done), rfl⟩
  refine q_tableOut (tgt := 130) dX7_isSign_1 (by rw [iZ_toInt (by unfold inR at *; omega)]; omega) (by decide) ?_
  refine z_iconst dX7_isSign_130 ?_
  exact s_zret dX7_isSign_131 rfl (by omega) ⟨by first | (rw [if_pos (by omega)]; done) | (rw [if_neg (by omega)]; done), rfl⟩
