/-! ===== the model's nextToken ===== -/
theorem tokR_mk {f9 f10 wd t v : Int} (h1 : (0 ≤ f9 ∧ f9 < 128) ∧ (0 ≤ f10 ∧ f10 ≤ 1000000) ∧ (0 ≤ wd ∧ wd ≤ 1152921504606846976) ∧ (0 ≤ t ∧ t ≤ 40) ∧ (f9 = 0 ↔ t = 39) ∧ (f9 = 1 ↔ t = 38) ∧ (t = 38 → v = min f10 10000) ∧ (f9 = 2 ↔ (t ≤ 24 ∨ (t = 40 ∧ f9 = 2)))) (h2 : f9 = 2 → ∀ j : Nat, j < 25 → (wd = pkW j ↔ t = (j : Int))) (h3 : (f9 = 4 ↔ t = 36) ∧ (f9 = 5 ↔ t = 37) ∧ (f9 = 60 ↔ t = 25) ∧ (f9 = 62 ↔ t = 26) ∧ (f9 = 61 ↔ t = 27) ∧ (f9 = 35 ↔ t = 28) ∧ (f9 = 43 ↔ t = 29) ∧ (f9 = 45 ↔ t = 30) ∧ (f9 = 42 ↔ t = 31) ∧ (f9 = 47 ↔ t = 32) ∧ (f9 = 40 ↔ t = 33) ∧ (f9 = 41 ↔ t = 34) ∧ (f9 = 59 ↔ t = 35)) : tokR f9 f10 wd t v :=
  ⟨h1.1, h1.2.1, h1.2.2.1, h1.2.2.2.1, h1.2.2.2.2.1, h1.2.2.2.2.2.1, h1.2.2.2.2.2.2.1, h1.2.2.2.2.2.2.2, h2, h3⟩
def kpT (F F1 : Nat → Int) : Prop := ∀ k, k ≠ 7 → k ≠ 8 → k ≠ 9 → k ≠ 10 → F1 k = F k
theorem kpT_rf (F : Nat → Int) : kpT F F := fun _ _ _ _ _ => rfl
theorem kpT_up {F F1 : Nat → Int} (h : kpT F F1) {j : Nat} (hj : j = 7 ∨ j = 8 ∨ j = 9 ∨ j = 10) (v : Int) : kpT F (va_up F1 j v) := fun k a b c e => by rw [va_up_ne _ _ (by omega)]; exact h k a b c e
def sgI (c : Int) : Int := if 60 = c then 0 else if 62 = c then 1 else if 61 = c then 2 else if 35 = c then 3 else if 43 = c then 4 else if 45 = c then 5 else if 42 = c then 6 else if 47 = c then 7 else if 40 = c then 8 else if 41 = c then 9 else if 59 = c then 10 else -1
abbrev sgP (f9 t : Int) : Prop := (0 ≤ f9 ∧ f9 < 128) ∧ (0 ≤ t ∧ t ≤ 40) ∧ ¬ f9 = 0 ∧ ¬ f9 = 1 ∧ ¬ f9 = 2 ∧ 24 < t ∧ ¬ t = 38 ∧ ¬ t = 39 ∧ (f9 = 4 ↔ t = 36) ∧ (f9 = 5 ↔ t = 37) ∧ (f9 = 60 ↔ t = 25) ∧ (f9 = 62 ↔ t = 26) ∧ (f9 = 61 ↔ t = 27) ∧ (f9 = 35 ↔ t = 28) ∧ (f9 = 43 ↔ t = 29) ∧ (f9 = 45 ↔ t = 30) ∧ (f9 = 42 ↔ t = 31) ∧ (f9 = 47 ↔ t = 32) ∧ (f9 = 40 ↔ t = 33) ∧ (f9 = 41 ↔ t = 34) ∧ (f9 = 59 ↔ t = 35)
abbrev sgS (c : Int) : Prop := c = 35 ∨ (40 ≤ c ∧ c ≤ 43) ∨ c = 45 ∨ c = 47 ∨ (58 ≤ c ∧ c ≤ 62)
def sgB (f9 t : Int) : Bool := decide (0 ≤ f9) && decide (f9 < 128) && decide (0 ≤ t) && decide (t ≤ 40) && !decide (f9 = 0) && !decide (f9 = 1) && !decide (f9 = 2) && decide (24 < t) && !decide (t = 38) && !decide (t = 39) && (decide (f9 = 4) == decide (t = 36)) && (decide (f9 = 5) == decide (t = 37)) && (decide (f9 = 60) == decide (t = 25)) && (decide (f9 = 62) == decide (t = 26)) && (decide (f9 = 61) == decide (t = 27)) && (decide (f9 = 35) == decide (t = 28)) && (decide (f9 = 43) == decide (t = 29)) && (decide (f9 = 45) == decide (t = 30)) && (decide (f9 = 42) == decide (t = 31)) && (decide (f9 = 47) == decide (t = 32)) && (decide (f9 = 40) == decide (t = 33)) && (decide (f9 = 41) == decide (t = 34)) && (decide (f9 = 59) == decide (t = 35))
theorem sgB_P {f9 t : Int} (h : sgB f9 t = true) : sgP f9 t := by
  simp only [sgB, Bool.and_eq_true, decide_eq_true_eq, beq_iff_eq, decide_eq_decide, Bool.not_eq_true', decide_eq_false_iff_not] at h
  obtain ⟨⟨⟨⟨⟨⟨⟨⟨⟨⟨⟨⟨⟨⟨⟨⟨⟨⟨⟨⟨⟨⟨a1, a2⟩, a3⟩, a4⟩, a5⟩, a6⟩, a7⟩, a8⟩, a9⟩, b1⟩, b2⟩, b3⟩, b4⟩, b5⟩, b6⟩, b7⟩, b8⟩, b9⟩, c1⟩, c2⟩, c3⟩, c4⟩, c5⟩ := h
  exact ⟨⟨a1, a2⟩, ⟨a3, a4⟩, a5, a6, a7, a8, a9, b1, b2, b3, b4, b5, b6, b7, b8, b9, c1, c2, c3, c4, c5⟩
theorem sg_bl : ∀ c : Nat, c < 256 → isLt (c : Int) ∨ isDg (c : Int) ∨ sgB (if sgS (c : Int) then (c : Int) else 3) (if sgI (c : Int) < 0 then 40 else 25 + sgI (c : Int)) = true := by decide +kernel
theorem sg_all (c : Nat) (h : c < 256) (h1 : ¬ isLt (c : Int)) (h2 : ¬ isDg (c : Int)) : sgP (if sgS (c : Int) then (c : Int) else 3) (if sgI (c : Int) < 0 then 40 else 25 + sgI (c : Int)) := sgB_P (((sg_bl c h).resolve_left h1).resolve_left h2)
theorem sg_f {c f : Int} (h : 0 ≤ c ∧ c < 256) (h1 : ¬ isLt c) (h2 : ¬ isDg c) (hf : (if sgS c then c else 3) = f) : sgP f (if sIx c 11 0 < 0 then 40 else 25 + sIx c 11 0) := by
  obtain ⟨n, rfl⟩ : ∃ n : Nat, c = (n : Int) := ⟨c.toNat, by omega⟩
  rw [← hf, sIx_un]
  exact sg_all n (by omega) h1 h2
theorem sgP_4 : sgP 4 36 := sgB_P (by decide)
theorem sgP_5 : sgP 5 37 := sgB_P (by decide)
theorem tokR_sg {f9 t f10 wd v : Int} (h : sgP f9 t) (h10 : 0 ≤ f10 ∧ f10 ≤ 1000000) (hw : 0 ≤ wd ∧ wd ≤ 1152921504606846976) : tokR f9 f10 wd t v := by
  obtain ⟨a1, a2, a3, a4, a5, a6, a7, a8, a9⟩ := h
  exact tokR_mk ⟨a1, h10, hw, a2, ⟨fun z => absurd z a3, fun z => absurd z a8⟩, ⟨fun z => absurd z a4, fun z => absurd z a7⟩, fun z => absurd z a7, ⟨fun z => absurd z a5, fun z => by omega⟩⟩ (fun z => absurd z a5) a9
theorem byt (b : Nat → Int) (n p : Nat) (hb8 : ∀ i, i < n → 0 ≤ b i ∧ b i < 256) : ∃ y, (if p < n then b p else -1) = y ∧ ((p < n ∧ y = b p) ∨ (n ≤ p ∧ y = -1)) ∧ (-1 ≤ y ∧ y < 256) := by
  by_cases q : p < n
  · exact ⟨b p, by rw [if_pos q], Or.inl ⟨q, rfl⟩, by have := hb8 p q; omega⟩
  · exact ⟨-1, by rw [if_neg q], Or.inr ⟨by omega, rfl⟩, by omega⟩
set_option maxHeartbeats 4000000 in
set_option maxRecDepth 100000 in
theorem m2_byteAt {d p : Nat} (σ : gS) (w0 : Int) (A F : Nat → Int) {b : Nat → Int} {n : Nat} (h4 : F 4 = (n : Int)) (hn3 : n ≤ 300) (hb : σ.2.1 388 = b) (hp : p ≤ 301) : sC mX7_byteAt d [.ref 384, .int (iZ (p : Int))] (ms (sW σ w0) A F) (fun r σ' => r = some (.int (iZ (if p < n then b p else -1))) ∧ σ' = (ms (sW σ w0) A F)) := by
  refine sC_of rfl (Nat.le_of_ble_eq_true rfl) ?_
  show sE g_tt _ _ _ 0 [some (.ref 384), some (.int (iZ (p : Int)))] [] (ms (sW σ w0) A F)
  refine q_iload_n dX7_byteAt_0 rfl rfl ?_
  refine q_aload_n dX7_byteAt_1 rfl rfl ?_
  refine sg7 (kf := 4) (v := .int (iZ (n : Int))) dX7_byteAt_2 flX7_74 (show kd 384 = 7 from rfl) (by decide) (by show some (Value.int (iZ (F 4))) = _; rw [h4]) ?_
  refine z_icmp_ge (tgt := 17) dX7_byteAt_5 (by decide) (by unfold inR at *; omega) (by unfold inR at *; omega) (fun c_1 => ?_) (fun c_1 => ?_)
  · refine z_iconst dX7_byteAt_17 ?_
    exact s_iretZ dX7_byteAt_18 rfl ⟨by first | (rw [if_pos (by omega)]; done) | (rw [if_neg (by omega)]; done), rfl⟩
  · refine q_aload_n dX7_byteAt_8 rfl rfl ?_
    refine sg7 (kf := 3) (v := .ref 388) dX7_byteAt_9 flX7_19 (show kd 384 = 7 from rfl) (by decide) rfl ?_
    refine q_iload_n dX7_byteAt_12 rfl rfl ?_
    refine s_iald (n := 300) (x := b p) dX7_byteAt_13 (show kd 388 = 100 + 300 from rfl) (by omega) (by omega) (by decide) (by show (sW σ w0).2.1 388 _ = _; rw [show (sW σ w0).2.1 388 = b from hb]; first | rfl | skip) ?_
    refine q_goto (tgt := 18) dX7_byteAt_14 (by decide) ?_
    exact s_iretZ dX7_byteAt_18 rfl ⟨by first | (rw [if_pos (by omega)]; done) | (rw [if_neg (by omega)]; done), rfl⟩
set_option maxHeartbeats 4000000 in
set_option maxRecDepth 100000 in
theorem m2_isLetterByte {d : Nat} {c : Int} (hc : inR c) (σ : gS) : sC mX7_isLetterByte d [.int (iZ c)] σ (fun r σ' => r = some (.int (iZ (if isLt c then 1 else 0))) ∧ σ' = σ) := by
  refine sC_of rfl (Nat.le_of_ble_eq_true rfl) ?_
  show sE g_tt _ _ _ 0 [some (.int (iZ c))] [] σ
  refine q_iload_n dX7_isLetterByte_0 rfl rfl ?_
  refine z_bipush dX7_isLetterByte_1 (by decide +kernel) ?_
  refine z_icmp_lt (tgt := 12) dX7_isLetterByte_3 (by decide) (by unfold inR at *; omega) (by unfold inR at *; omega) (fun c_1 => ?_) (fun c_1 => ?_)
  · refine q_iload_n dX7_isLetterByte_12 rfl rfl ?_
    refine z_bipush dX7_isLetterByte_13 (by decide +kernel) ?_
    refine z_icmp_lt (tgt := 28) dX7_isLetterByte_15 (by decide) (by unfold inR at *; omega) (by unfold inR at *; omega) (fun c_2 => ?_) (fun c_2 => ?_)
    · refine z_iconst dX7_isLetterByte_28 ?_
      exact s_zret dX7_isLetterByte_29 rfl (by omega) ⟨by first | (rw [if_pos (by omega)]; done) | (rw [if_neg (by omega)]; done), rfl⟩
    · refine q_iload_n dX7_isLetterByte_18 rfl rfl ?_
      refine z_bipush dX7_isLetterByte_19 (by decide +kernel) ?_
      refine z_icmp_gt (tgt := 28) dX7_isLetterByte_21 (by decide) (by unfold inR at *; omega) (by unfold inR at *; omega) (fun c_3 => ?_) (fun c_3 => ?_)
      · refine z_iconst dX7_isLetterByte_28 ?_
        exact s_zret dX7_isLetterByte_29 rfl (by omega) ⟨by first | (rw [if_pos (by omega)]; done) | (rw [if_neg (by omega)]; done), rfl⟩
      · refine z_iconst dX7_isLetterByte_24 ?_
        refine q_goto (tgt := 29) dX7_isLetterByte_25 (by decide) ?_
        exact s_zret dX7_isLetterByte_29 rfl (by omega) ⟨by first | (rw [if_pos (by omega)]; done) | (rw [if_neg (by omega)]; done), rfl⟩
  · refine q_iload_n dX7_isLetterByte_6 rfl rfl ?_
    refine z_bipush dX7_isLetterByte_7 (by decide +kernel) ?_
    refine z_icmp_le (tgt := 24) dX7_isLetterByte_9 (by decide) (by unfold inR at *; omega) (by unfold inR at *; omega) (fun c_4 => ?_) (fun c_4 => ?_)
    · refine z_iconst dX7_isLetterByte_24 ?_
      refine q_goto (tgt := 29) dX7_isLetterByte_25 (by decide) ?_
      exact s_zret dX7_isLetterByte_29 rfl (by omega) ⟨by first | (rw [if_pos (by omega)]; done) | (rw [if_neg (by omega)]; done), rfl⟩
    · refine q_iload_n dX7_isLetterByte_12 rfl rfl ?_
      refine z_bipush dX7_isLetterByte_13 (by decide +kernel) ?_
      refine z_icmp_lt (tgt := 28) dX7_isLetterByte_15 (by decide) (by unfold inR at *; omega) (by unfold inR at *; omega) (fun c_5 => ?_) (fun c_5 => ?_)
      · refine z_iconst dX7_isLetterByte_28 ?_
        exact s_zret dX7_isLetterByte_29 rfl (by omega) ⟨by first | (rw [if_pos (by omega)]; done) | (rw [if_neg (by omega)]; done), rfl⟩
      · refine q_iload_n dX7_isLetterByte_18 rfl rfl ?_
        refine z_bipush dX7_isLetterByte_19 (by decide +kernel) ?_
        refine z_icmp_gt (tgt := 28) dX7_isLetterByte_21 (by decide) (by unfold inR at *; omega) (by unfold inR at *; omega) (fun c_6 => ?_) (fun c_6 => ?_)
        · refine z_iconst dX7_isLetterByte_28 ?_
          exact s_zret dX7_isLetterByte_29 rfl (by omega) ⟨by first | (rw [if_pos (by omega)]; done) | (rw [if_neg (by omega)]; done), rfl⟩
        · refine z_iconst dX7_isLetterByte_24 ?_
          refine q_goto (tgt := 29) dX7_isLetterByte_25 (by decide) ?_
          exact s_zret dX7_isLetterByte_29 rfl (by omega) ⟨by first | (rw [if_pos (by omega)]; done) | (rw [if_neg (by omega)]; done), rfl⟩
set_option maxHeartbeats 4000000 in
set_option maxRecDepth 100000 in
theorem m2_isFigure {d : Nat} {c : Int} (hc : inR c) (σ : gS) : sC mX7_isFigure d [.int (iZ c)] σ (fun r σ' => r = some (.int (iZ (if isDg c then 1 else 0))) ∧ σ' = σ) := by
  refine sC_of rfl (Nat.le_of_ble_eq_true rfl) ?_
  show sE g_tt _ _ _ 0 [some (.int (iZ c))] [] σ
  refine q_iload_n dX7_isFigure_0 rfl rfl ?_
  refine z_bipush dX7_isFigure_1 (by decide +kernel) ?_
  refine z_icmp_lt (tgt := 16) dX7_isFigure_3 (by decide) (by unfold inR at *; omega) (by unfold inR at *; omega) (fun c_1 => ?_) (fun c_1 => ?_)
  · refine z_iconst dX7_isFigure_16 ?_
    exact s_zret dX7_isFigure_17 rfl (by omega) ⟨by first | (rw [if_pos (by omega)]; done) | (rw [if_neg (by omega)]; done), rfl⟩
  · refine q_iload_n dX7_isFigure_6 rfl rfl ?_
    refine z_bipush dX7_isFigure_7 (by decide +kernel) ?_
    refine z_icmp_gt (tgt := 16) dX7_isFigure_9 (by decide) (by unfold inR at *; omega) (by unfold inR at *; omega) (fun c_2 => ?_) (fun c_2 => ?_)
    · refine z_iconst dX7_isFigure_16 ?_
      exact s_zret dX7_isFigure_17 rfl (by omega) ⟨by first | (rw [if_pos (by omega)]; done) | (rw [if_neg (by omega)]; done), rfl⟩
    · refine z_iconst dX7_isFigure_12 ?_
      refine q_goto (tgt := 17) dX7_isFigure_13 (by decide) ?_
      exact s_zret dX7_isFigure_17 rfl (by omega) ⟨by first | (rw [if_pos (by omega)]; done) | (rw [if_neg (by omega)]; done), rfl⟩
set_option maxHeartbeats 4000000 in
set_option maxRecDepth 100000 in
theorem m2_isSign {d : Nat} {c : Int} (hc : inR c) (σ : gS) : sC mX7_isSign d [.int (iZ c)] σ (fun r σ' => r = some (.int (iZ (if c = 35 ∨ (40 ≤ c ∧ c ≤ 43) ∨ c = 45 ∨ c = 47 ∨ (58 ≤ c ∧ c ≤ 62) then 1 else 0))) ∧ σ' = σ) := by
  refine sC_of rfl (Nat.le_of_ble_eq_true rfl) ?_
  show sE g_tt _ _ _ 0 [some (.int (iZ c))] [] σ
  refine q_iload_n dX7_isSign_0 rfl rfl ?_
  by_cases s_1 : (c : Int) = 35
  · refine z_top s_1 ?_
    refine q_tableIn (tgt := 128) (off := 127) dX7_isSign_1 (by decide +kernel) (by decide +kernel) (by decide +kernel) (by decide) ?_
    refine z_iconst dX7_isSign_128 ?_
    exact s_zret dX7_isSign_129 rfl (by omega) ⟨by first | (rw [if_pos (by omega)]; done) | (rw [if_neg (by omega)]; done), rfl⟩
  by_cases s_2 : (c : Int) = 36
  · refine z_top s_2 ?_
    refine q_tableIn (tgt := 130) (off := 129) dX7_isSign_1 (by decide +kernel) (by decide +kernel) (by decide +kernel) (by decide) ?_
    refine z_iconst dX7_isSign_130 ?_
    exact s_zret dX7_isSign_131 rfl (by omega) ⟨by first | (rw [if_pos (by omega)]; done) | (rw [if_neg (by omega)]; done), rfl⟩
  by_cases s_3 : (c : Int) = 37
  · refine z_top s_3 ?_
    refine q_tableIn (tgt := 130) (off := 129) dX7_isSign_1 (by decide +kernel) (by decide +kernel) (by decide +kernel) (by decide) ?_
    refine z_iconst dX7_isSign_130 ?_
    exact s_zret dX7_isSign_131 rfl (by omega) ⟨by first | (rw [if_pos (by omega)]; done) | (rw [if_neg (by omega)]; done), rfl⟩
  by_cases s_4 : (c : Int) = 38
  · refine z_top s_4 ?_
    refine q_tableIn (tgt := 130) (off := 129) dX7_isSign_1 (by decide +kernel) (by decide +kernel) (by decide +kernel) (by decide) ?_
    refine z_iconst dX7_isSign_130 ?_
    exact s_zret dX7_isSign_131 rfl (by omega) ⟨by first | (rw [if_pos (by omega)]; done) | (rw [if_neg (by omega)]; done), rfl⟩
  by_cases s_5 : (c : Int) = 39
  · refine z_top s_5 ?_
    refine q_tableIn (tgt := 130) (off := 129) dX7_isSign_1 (by decide +kernel) (by decide +kernel) (by decide +kernel) (by decide) ?_
    refine z_iconst dX7_isSign_130 ?_
    exact s_zret dX7_isSign_131 rfl (by omega) ⟨by first | (rw [if_pos (by omega)]; done) | (rw [if_neg (by omega)]; done), rfl⟩
  by_cases s_6 : (c : Int) = 40
  · refine z_top s_6 ?_
    refine q_tableIn (tgt := 128) (off := 127) dX7_isSign_1 (by decide +kernel) (by decide +kernel) (by decide +kernel) (by decide) ?_
    refine z_iconst dX7_isSign_128 ?_
    exact s_zret dX7_isSign_129 rfl (by omega) ⟨by first | (rw [if_pos (by omega)]; done) | (rw [if_neg (by omega)]; done), rfl⟩
  by_cases s_7 : (c : Int) = 41
  · refine z_top s_7 ?_
    refine q_tableIn (tgt := 128) (off := 127) dX7_isSign_1 (by decide +kernel) (by decide +kernel) (by decide +kernel) (by decide) ?_
    refine z_iconst dX7_isSign_128 ?_
    exact s_zret dX7_isSign_129 rfl (by omega) ⟨by first | (rw [if_pos (by omega)]; done) | (rw [if_neg (by omega)]; done), rfl⟩
  by_cases s_8 : (c : Int) = 42
  · refine z_top s_8 ?_
    refine q_tableIn (tgt := 128) (off := 127) dX7_isSign_1 (by decide +kernel) (by decide +kernel) (by decide +kernel) (by decide) ?_
    refine z_iconst dX7_isSign_128 ?_
    exact s_zret dX7_isSign_129 rfl (by omega) ⟨by first | (rw [if_pos (by omega)]; done) | (rw [if_neg (by omega)]; done), rfl⟩
  by_cases s_9 : (c : Int) = 43
  · refine z_top s_9 ?_
    refine q_tableIn (tgt := 128) (off := 127) dX7_isSign_1 (by decide +kernel) (by decide +kernel) (by decide +kernel) (by decide) ?_
    refine z_iconst dX7_isSign_128 ?_
    exact s_zret dX7_isSign_129 rfl (by omega) ⟨by first | (rw [if_pos (by omega)]; done) | (rw [if_neg (by omega)]; done), rfl⟩
  by_cases s_10 : (c : Int) = 44
  · refine z_top s_10 ?_
    refine q_tableIn (tgt := 130) (off := 129) dX7_isSign_1 (by decide +kernel) (by decide +kernel) (by decide +kernel) (by decide) ?_
    refine z_iconst dX7_isSign_130 ?_
    exact s_zret dX7_isSign_131 rfl (by omega) ⟨by first | (rw [if_pos (by omega)]; done) | (rw [if_neg (by omega)]; done), rfl⟩
  by_cases s_11 : (c : Int) = 45
  · refine z_top s_11 ?_
    refine q_tableIn (tgt := 128) (off := 127) dX7_isSign_1 (by decide +kernel) (by decide +kernel) (by decide +kernel) (by decide) ?_
    refine z_iconst dX7_isSign_128 ?_
    exact s_zret dX7_isSign_129 rfl (by omega) ⟨by first | (rw [if_pos (by omega)]; done) | (rw [if_neg (by omega)]; done), rfl⟩
  by_cases s_12 : (c : Int) = 46
  · refine z_top s_12 ?_
    refine q_tableIn (tgt := 130) (off := 129) dX7_isSign_1 (by decide +kernel) (by decide +kernel) (by decide +kernel) (by decide) ?_
    refine z_iconst dX7_isSign_130 ?_
    exact s_zret dX7_isSign_131 rfl (by omega) ⟨by first | (rw [if_pos (by omega)]; done) | (rw [if_neg (by omega)]; done), rfl⟩
  by_cases s_13 : (c : Int) = 47
  · refine z_top s_13 ?_
    refine q_tableIn (tgt := 128) (off := 127) dX7_isSign_1 (by decide +kernel) (by decide +kernel) (by decide +kernel) (by decide) ?_
    refine z_iconst dX7_isSign_128 ?_
    exact s_zret dX7_isSign_129 rfl (by omega) ⟨by first | (rw [if_pos (by omega)]; done) | (rw [if_neg (by omega)]; done), rfl⟩
  by_cases s_14 : (c : Int) = 48
  · refine z_top s_14 ?_
    refine q_tableIn (tgt := 130) (off := 129) dX7_isSign_1 (by decide +kernel) (by decide +kernel) (by decide +kernel) (by decide) ?_
    refine z_iconst dX7_isSign_130 ?_
    exact s_zret dX7_isSign_131 rfl (by omega) ⟨by first | (rw [if_pos (by omega)]; done) | (rw [if_neg (by omega)]; done), rfl⟩
  by_cases s_15 : (c : Int) = 49
  · refine z_top s_15 ?_
    refine q_tableIn (tgt := 130) (off := 129) dX7_isSign_1 (by decide +kernel) (by decide +kernel) (by decide +kernel) (by decide) ?_
    refine z_iconst dX7_isSign_130 ?_
    exact s_zret dX7_isSign_131 rfl (by omega) ⟨by first | (rw [if_pos (by omega)]; done) | (rw [if_neg (by omega)]; done), rfl⟩
  by_cases s_16 : (c : Int) = 50
  · refine z_top s_16 ?_
    refine q_tableIn (tgt := 130) (off := 129) dX7_isSign_1 (by decide +kernel) (by decide +kernel) (by decide +kernel) (by decide) ?_
    refine z_iconst dX7_isSign_130 ?_
    exact s_zret dX7_isSign_131 rfl (by omega) ⟨by first | (rw [if_pos (by omega)]; done) | (rw [if_neg (by omega)]; done), rfl⟩
  by_cases s_17 : (c : Int) = 51
  · refine z_top s_17 ?_
    refine q_tableIn (tgt := 130) (off := 129) dX7_isSign_1 (by decide +kernel) (by decide +kernel) (by decide +kernel) (by decide) ?_
    refine z_iconst dX7_isSign_130 ?_
    exact s_zret dX7_isSign_131 rfl (by omega) ⟨by first | (rw [if_pos (by omega)]; done) | (rw [if_neg (by omega)]; done), rfl⟩
  by_cases s_18 : (c : Int) = 52
  · refine z_top s_18 ?_
    refine q_tableIn (tgt := 130) (off := 129) dX7_isSign_1 (by decide +kernel) (by decide +kernel) (by decide +kernel) (by decide) ?_
    refine z_iconst dX7_isSign_130 ?_
    exact s_zret dX7_isSign_131 rfl (by omega) ⟨by first | (rw [if_pos (by omega)]; done) | (rw [if_neg (by omega)]; done), rfl⟩
  by_cases s_19 : (c : Int) = 53
  · refine z_top s_19 ?_
    refine q_tableIn (tgt := 130) (off := 129) dX7_isSign_1 (by decide +kernel) (by decide +kernel) (by decide +kernel) (by decide) ?_
    refine z_iconst dX7_isSign_130 ?_
    exact s_zret dX7_isSign_131 rfl (by omega) ⟨by first | (rw [if_pos (by omega)]; done) | (rw [if_neg (by omega)]; done), rfl⟩
  by_cases s_20 : (c : Int) = 54
  · refine z_top s_20 ?_
    refine q_tableIn (tgt := 130) (off := 129) dX7_isSign_1 (by decide +kernel) (by decide +kernel) (by decide +kernel) (by decide) ?_
    refine z_iconst dX7_isSign_130 ?_
    exact s_zret dX7_isSign_131 rfl (by omega) ⟨by first | (rw [if_pos (by omega)]; done) | (rw [if_neg (by omega)]; done), rfl⟩
  by_cases s_21 : (c : Int) = 55
  · refine z_top s_21 ?_
    refine q_tableIn (tgt := 130) (off := 129) dX7_isSign_1 (by decide +kernel) (by decide +kernel) (by decide +kernel) (by decide) ?_
    refine z_iconst dX7_isSign_130 ?_
    exact s_zret dX7_isSign_131 rfl (by omega) ⟨by first | (rw [if_pos (by omega)]; done) | (rw [if_neg (by omega)]; done), rfl⟩
  by_cases s_22 : (c : Int) = 56
  · refine z_top s_22 ?_
    refine q_tableIn (tgt := 130) (off := 129) dX7_isSign_1 (by decide +kernel) (by decide +kernel) (by decide +kernel) (by decide) ?_
    refine z_iconst dX7_isSign_130 ?_
    exact s_zret dX7_isSign_131 rfl (by omega) ⟨by first | (rw [if_pos (by omega)]; done) | (rw [if_neg (by omega)]; done), rfl⟩
  by_cases s_23 : (c : Int) = 57
  · refine z_top s_23 ?_
    refine q_tableIn (tgt := 130) (off := 129) dX7_isSign_1 (by decide +kernel) (by decide +kernel) (by decide +kernel) (by decide) ?_
    refine z_iconst dX7_isSign_130 ?_
    exact s_zret dX7_isSign_131 rfl (by omega) ⟨by first | (rw [if_pos (by omega)]; done) | (rw [if_neg (by omega)]; done), rfl⟩
  by_cases s_24 : (c : Int) = 58
  · refine z_top s_24 ?_
    refine q_tableIn (tgt := 128) (off := 127) dX7_isSign_1 (by decide +kernel) (by decide +kernel) (by decide +kernel) (by decide) ?_
    refine z_iconst dX7_isSign_128 ?_
    exact s_zret dX7_isSign_129 rfl (by omega) ⟨by first | (rw [if_pos (by omega)]; done) | (rw [if_neg (by omega)]; done), rfl⟩
  by_cases s_25 : (c : Int) = 59
  · refine z_top s_25 ?_
    refine q_tableIn (tgt := 128) (off := 127) dX7_isSign_1 (by decide +kernel) (by decide +kernel) (by decide +kernel) (by decide) ?_
    refine z_iconst dX7_isSign_128 ?_
    exact s_zret dX7_isSign_129 rfl (by omega) ⟨by first | (rw [if_pos (by omega)]; done) | (rw [if_neg (by omega)]; done), rfl⟩
  by_cases s_26 : (c : Int) = 60
  · refine z_top s_26 ?_
    refine q_tableIn (tgt := 128) (off := 127) dX7_isSign_1 (by decide +kernel) (by decide +kernel) (by decide +kernel) (by decide) ?_
    refine z_iconst dX7_isSign_128 ?_
    exact s_zret dX7_isSign_129 rfl (by omega) ⟨by first | (rw [if_pos (by omega)]; done) | (rw [if_neg (by omega)]; done), rfl⟩
  by_cases s_27 : (c : Int) = 61
  · refine z_top s_27 ?_
    refine q_tableIn (tgt := 128) (off := 127) dX7_isSign_1 (by decide +kernel) (by decide +kernel) (by decide +kernel) (by decide) ?_
    refine z_iconst dX7_isSign_128 ?_
    exact s_zret dX7_isSign_129 rfl (by omega) ⟨by first | (rw [if_pos (by omega)]; done) | (rw [if_neg (by omega)]; done), rfl⟩
  by_cases s_28 : (c : Int) = 62
  · refine z_top s_28 ?_
    refine q_tableIn (tgt := 128) (off := 127) dX7_isSign_1 (by decide +kernel) (by decide +kernel) (by decide +kernel) (by decide) ?_
    refine z_iconst dX7_isSign_128 ?_
    exact s_zret dX7_isSign_129 rfl (by omega) ⟨by first | (rw [if_pos (by omega)]; done) | (rw [if_neg (by omega)]; done), rfl⟩
  refine q_tableOut (tgt := 130) dX7_isSign_1 (by rw [iZ_toInt (by unfold inR at *; omega)]; omega) (by decide) ?_
  refine z_iconst dX7_isSign_130 ?_
  exact s_zret dX7_isSign_131 rfl (by omega) ⟨by first | (rw [if_pos (by omega)]; done) | (rw [if_neg (by omega)]; done), rfl⟩
set_option maxHeartbeats 4000000 in
set_option maxRecDepth 100000 in
theorem lm_dig {d s e : Nat} {v w0 : Int} {l1 : Option Value} (hd : 1 ≤ d) (σ : gS) (A F : Nat → Int) {b : Nat → Int} {n : Nat} (h4 : F 4 = (n : Int)) (hn3 : n ≤ 300) (hb : σ.2.1 388 = b) (hb8 : ∀ i, i < n → 0 ≤ b i ∧ b i < 256) {Q : Option Value → gS → Prop} (kc : ∀ (F1 : Nat → Int) (a9 : Int), F1 7 = (e : Int) → F1 8 = (s : Int) → F1 9 = 1 → F1 10 = a9 → (0 ≤ a9 ∧ a9 ≤ 999999) → min a9 10000 = v → kpT F F1 → Q none (ms (sW σ w0) A F1)) : ∀ (g : Nat) (p : Nat) (a : Int) (F1 : Nat → Int), p ≤ n → F1 7 = (p : Int) → F1 8 = (s : Int) → F1 9 = 1 → F1 10 = a → kpT F F1 → dEnd b n (n - p) p = e → dNum b n (n - p) p (min a 10000) = v → (0 ≤ a ∧ a ≤ 999999) → (n : Int) - (p : Int) < (g : Int) → sE g_tt mX7_nextToken d Q 85 [some (.ref 384), l1] [] (ms (sW σ w0) A F1) := by
  intro g
  induction g with
  | zero =>
    intro p a F1 hp h7 h8 h9 h10 kp he hv ha hg
    exact absurd hg (by omega)
  | succ g ih =>
    intro p a F1 hp h7 h8 h9 h10 kp he hv ha hg
    refine q_aload_n dX7_nextToken_85 rfl rfl ?_
    refine q_aload_n dX7_nextToken_86 rfl rfl ?_
    refine sg7 (kf := 7) (v := .int (iZ (p : Int))) dX7_nextToken_87 flX7_81 (show kd 384 = 7 from rfl) (by decide) (by show some (Value.int (iZ (F1 7))) = _; rw [h7]) ?_
    refine s_callV (ci := 7) (a := 384) (As := [.int (iZ (p : Int))]) (S := []) dX7_nextToken_90 okX7_byteAt mlX7_84 rfl (by omega) rfl (Nat.le_of_ble_eq_true rfl) (show kd 384 = 7 from rfl) (by decide) rfl (m2_byteAt (d := d - 1) (p := p) σ w0 A F1 (n := n) (b := b) ((kp 4 (by decide) (by decide) (by decide) (by decide)).trans h4) hn3 hb (by omega)) (fun v_ σ_ hq => ?_)
    obtain ⟨rfl, e9⟩ := hq
    have e9 := e9.symm
    subst e9
    obtain ⟨y1, ey1, dy1, ry1⟩ := byt b n p hb8
    refine z_top (y := y1) ey1 ?_
    show sE g_tt _ _ _ 93 [some (.ref 384), l1] [.int (iZ y1)] (ms (sW σ w0) A F1)
    refine s_callS (As := [.int (iZ y1)]) (S := []) dX7_nextToken_93 okX7_isFigure mlX7_94 rfl (by omega) rfl (Nat.le_of_ble_eq_true rfl) (m2_isFigure (d := d - 1) (c := y1) (by unfold inR; omega) (ms (sW σ w0) A F1)) (fun v_ σ_ hq => ?_)
    obtain ⟨rfl, e9⟩ := hq
    have e9 := e9.symm
    subst e9
    show sE g_tt _ _ _ 96 [some (.ref 384), l1] [.int (iZ (if isDg (y1) then 1 else 0))] (ms (sW σ w0) A F1)
    refine z_if_eq (tgt := 310) dX7_nextToken_96 (by decide) inR_01 (fun c_1 => ?_) (fun c_1 => ?_)
    · have c_1 := if01_0 c_1
      have hno : ¬ (p < n ∧ isDg (b p)) := fun z => c_1 (by rw [show y1 = b p by omega]; exact z.2)
      have e9 : p = e := by rw [← he]; cases hm : n - p with | zero => rfl | succ m => rw [dEnd, if_neg hno]
      have e8 : min a 10000 = v := by rw [← hv]; cases hm : n - p with | zero => rfl | succ m => rw [dNum, if_neg hno]
      exact s_vret dX7_nextToken_310 rfl (kc F1 a (h7.trans (by rw [e9])) h8 h9 h10 ha e8 kp)
    · have c_1 := if01_1 c_1
      have hpn : p < n := by unfold isDg at c_1; omega
      have ey : y1 = b p := by omega
      rw [ey] at c_1
      have q8 := hb8 p hpn
      refine q_aload_n dX7_nextToken_99 rfl rfl ?_
      refine q_aload_n dX7_nextToken_100 rfl rfl ?_
      refine sg7 (kf := 10) (v := .int (iZ a)) dX7_nextToken_101 flX7_97 (show kd 384 = 7 from rfl) (by decide) (by show some (Value.int (iZ (F1 10))) = _; rw [h10]) ?_
      refine z_ldc (z := 99999) dX7_nextToken_104 kcX7_100 ?_
      refine z_icmp_le (tgt := 116) dX7_nextToken_106 (by decide) (by unfold inR; omega) (by unfold inR; omega) (fun c_31 => ?_) (fun c_31 => ?_)
      · refine z_bipush dX7_nextToken_116 (by decide +kernel) ?_
        refine q_aload_n dX7_nextToken_118 rfl rfl ?_
        refine sg7 (kf := 10) (v := .int (iZ a)) dX7_nextToken_119 flX7_97 (show kd 384 = 7 from rfl) (by decide) (by show some (Value.int (iZ (F1 10))) = _; rw [h10]) ?_
        refine z_imul dX7_nextToken_122 ?_
        refine q_aload_n dX7_nextToken_123 rfl rfl ?_
        refine q_aload_n dX7_nextToken_124 rfl rfl ?_
        refine sg7 (kf := 7) (v := .int (iZ (p : Int))) dX7_nextToken_125 flX7_81 (show kd 384 = 7 from rfl) (by decide) (by show some (Value.int (iZ (F1 7))) = _; rw [h7]) ?_
        refine s_callV (ci := 7) (a := 384) (As := [.int (iZ (p : Int))]) (S := [.int (iZ (10 * a)), .ref 384]) dX7_nextToken_128 okX7_byteAt mlX7_84 rfl (by omega) rfl (Nat.le_of_ble_eq_true rfl) (show kd 384 = 7 from rfl) (by decide) rfl (m2_byteAt (d := d - 1) (p := p) σ w0 A F1 (n := n) (b := b) ((kp 4 (by decide) (by decide) (by decide) (by decide)).trans h4) hn3 hb (by omega)) (fun v_ σ_ hq => ?_)
        obtain ⟨rfl, e9⟩ := hq
        have e9 := e9.symm
        subst e9
        refine z_top (y := b p) (by rw [if_pos hpn]) ?_
        show sE g_tt _ _ _ 131 [some (.ref 384), l1] [.int (iZ (b p)), .int (iZ (10 * a)), .ref 384] (ms (sW σ w0) A F1)
        refine z_iadd dX7_nextToken_131 ?_
        refine z_bipush dX7_nextToken_132 (by decide +kernel) ?_
        refine z_isub dX7_nextToken_134 ?_
        refine mp (kf := 10) dX7_nextToken_135 flX7_97 (by decide) ?_
        refine q_aload_n dX7_nextToken_138 rfl rfl ?_
        refine q_dup dX7_nextToken_139 rfl ?_
        refine sg7 (kf := 7) (v := .int (iZ (p : Int))) dX7_nextToken_140 flX7_81 (show kd 384 = 7 from rfl) (by decide) (by show some (Value.int (iZ (F1 7))) = _; rw [h7]) ?_
        refine z_iconst dX7_nextToken_143 ?_
        refine z_iadd dX7_nextToken_144 ?_
        refine mp (kf := 7) dX7_nextToken_145 flX7_81 (by decide) ?_
        refine q_goto (tgt := 85) dX7_nextToken_148 (by decide) ?_
        exact ih (p + 1) (((10 * a) + (b p)) - 48) _ (by omega) ((va_up_self _ _ _).trans (by omega)) h8 h9 rfl (kpT_up (kpT_up kp (Or.inr (Or.inr (Or.inr rfl))) _) (Or.inl rfl) _) (by rw [← he, show n - p = (n - (p + 1)) + 1 by omega, dEnd, if_pos ⟨hpn, c_1⟩]) (by rw [← hv, show n - p = (n - (p + 1)) + 1 by omega, dNum, if_pos ⟨hpn, c_1⟩]; congr 1; omega) (by omega) (by omega)
      · refine q_aload_n dX7_nextToken_109 rfl rfl ?_
        refine sg7 (kf := 10) (v := .int (iZ a)) dX7_nextToken_110 flX7_97 (show kd 384 = 7 from rfl) (by decide) (by show some (Value.int (iZ (F1 10))) = _; rw [h10]) ?_
        refine q_goto (tgt := 135) dX7_nextToken_113 (by decide) ?_
        refine mp (kf := 10) dX7_nextToken_135 flX7_97 (by decide) ?_
        refine q_aload_n dX7_nextToken_138 rfl rfl ?_
        refine q_dup dX7_nextToken_139 rfl ?_
        refine sg7 (kf := 7) (v := .int (iZ (p : Int))) dX7_nextToken_140 flX7_81 (show kd 384 = 7 from rfl) (by decide) (by show some (Value.int (iZ (F1 7))) = _; rw [h7]) ?_
        refine z_iconst dX7_nextToken_143 ?_
        refine z_iadd dX7_nextToken_144 ?_
        refine mp (kf := 7) dX7_nextToken_145 flX7_81 (by decide) ?_
        refine q_goto (tgt := 85) dX7_nextToken_148 (by decide) ?_
        exact ih (p + 1) (a) _ (by omega) ((va_up_self _ _ _).trans (by omega)) h8 h9 rfl (kpT_up (kpT_up kp (Or.inr (Or.inr (Or.inr rfl))) _) (Or.inl rfl) _) (by rw [← he, show n - p = (n - (p + 1)) + 1 by omega, dEnd, if_pos ⟨hpn, c_1⟩]) (by rw [← hv, show n - p = (n - (p + 1)) + 1 by omega, dNum, if_pos ⟨hpn, c_1⟩]; congr 1; omega) (by omega) (by omega)
set_option maxHeartbeats 4000000 in
set_option maxRecDepth 100000 in
theorem lm_let {d s e : Nat} {a : Int} {l1 : Option Value} (hd : 1 ≤ d) (σ : gS) (A F : Nat → Int) {b : Nat → Int} {n : Nat} (h4 : F 4 = (n : Int)) (hn3 : n ≤ 300) (hb : σ.2.1 388 = b) (hb8 : ∀ i, i < n → 0 ≤ b i ∧ b i < 256) {Q : Option Value → gS → Prop} (kc : ∀ (F1 : Nat → Int), F1 7 = (e : Int) → F1 8 = (s : Int) → F1 9 = 2 → F1 10 = a → kpT F F1 → (∀ i, i < e - s → isLt (b (s + i))) → Q none (ms (sW σ (pkL (rl b s (e - s)))) A F1)) : ∀ (g : Nat) (p m : Nat) (F1 : Nat → Int), p ≤ n → p = s + m → F1 7 = (p : Int) → F1 8 = (s : Int) → F1 9 = 2 → F1 10 = a → kpT F F1 → (∀ i, i < m → isLt (b (s + i))) → lEnd b n (n - p) p = e → (n : Int) - (p : Int) < (g : Int) → sE g_tt mX7_nextToken d Q 168 [some (.ref 384), l1] [] (ms (sW σ (pkL (rl b s m))) A F1) := by
  intro g
  induction g with
  | zero =>
    intro p m F1 hp hm h7 h8 h9 h10 kp hL he hg
    exact absurd hg (by omega)
  | succ g ih =>
    intro p m F1 hp hm h7 h8 h9 h10 kp hL he hg
    refine q_aload_n dX7_nextToken_168 rfl rfl ?_
    refine q_aload_n dX7_nextToken_169 rfl rfl ?_
    refine sg7 (kf := 7) (v := .int (iZ (p : Int))) dX7_nextToken_170 flX7_81 (show kd 384 = 7 from rfl) (by decide) (by show some (Value.int (iZ (F1 7))) = _; rw [h7]) ?_
    refine s_callV (ci := 7) (a := 384) (As := [.int (iZ (p : Int))]) (S := []) dX7_nextToken_173 okX7_byteAt mlX7_84 rfl (by omega) rfl (Nat.le_of_ble_eq_true rfl) (show kd 384 = 7 from rfl) (by decide) rfl (m2_byteAt (d := d - 1) (p := p) σ (pkL (rl b s m)) A F1 (n := n) (b := b) ((kp 4 (by decide) (by decide) (by decide) (by decide)).trans h4) hn3 hb (by omega)) (fun v_ σ_ hq => ?_)
    obtain ⟨rfl, e9⟩ := hq
    have e9 := e9.symm
    subst e9
    obtain ⟨y2, ey2, dy2, ry2⟩ := byt b n p hb8
    refine z_top (y := y2) ey2 ?_
    show sE g_tt _ _ _ 176 [some (.ref 384), l1] [.int (iZ y2)] (ms (sW σ (pkL (rl b s m))) A F1)
    refine s_callS (As := [.int (iZ y2)]) (S := []) dX7_nextToken_176 okX7_isLetterByte mlX7_101 rfl (by omega) rfl (Nat.le_of_ble_eq_true rfl) (m2_isLetterByte (d := d - 1) (c := y2) (by unfold inR; omega) (ms (sW σ (pkL (rl b s m))) A F1)) (fun v_ σ_ hq => ?_)
    obtain ⟨rfl, e9⟩ := hq
    have e9 := e9.symm
    subst e9
    show sE g_tt _ _ _ 179 [some (.ref 384), l1] [.int (iZ (if isLt (y2) then 1 else 0))] (ms (sW σ (pkL (rl b s m))) A F1)
    refine z_if_eq (tgt := 310) dX7_nextToken_179 (by decide) inR_01 (fun c_1 => ?_) (fun c_1 => ?_)
    · have c_1 := if01_0 c_1
      have hno : ¬ (p < n ∧ isLt (b p)) := fun z => c_1 (by rw [show y2 = b p by omega]; exact z.2)
      have e9 : p = e := by rw [← he]; cases hm : n - p with | zero => rfl | succ m => rw [lEnd, if_neg hno]
      have k9 := kc F1 (h7.trans (by rw [e9])) h8 h9 h10 kp (fun i hi => hL i (by omega))
      rw [show e - s = m by omega] at k9
      exact s_vret dX7_nextToken_310 rfl k9
    · have c_1 := if01_1 c_1
      have hpn : p < n := by unfold isLt at c_1; omega
      have ey : y2 = b p := by omega
      rw [ey] at c_1
      have q8 := hb8 p hpn
      have hps : s + m = p := by omega
      have pr := pkL_ran (rl b s m) (rl_mem m (fun i hi => by have := hL i hi; unfold isLt at this; omega))
      refine q_aload_n dX7_nextToken_182 rfl rfl ?_
      refine q_aload_n dX7_nextToken_183 rfl rfl ?_
      refine sg7 (kf := 11) (v := .long (lZ (pkL (rl b s m)))) dX7_nextToken_184 flX7_104 (show kd 384 = 7 from rfl) (by decide) rfl ?_
      refine z_bipush dX7_nextToken_187 (by decide +kernel) ?_
      refine z_lshr48 dX7_nextToken_189 (by omega) ?_
      refine z_lconst (z := 0) dX7_nextToken_190 (by decide +kernel) ?_
      refine z_lif_eq (tgt := 201) dX7_nextToken_191 dX7_nextToken_192 (by decide) (by unfold inL; omega) (by unfold inL; omega) (fun c_31 => ?_) (fun c_31 => ?_)
      · refine q_aload_n dX7_nextToken_201 rfl rfl ?_
        refine sg7 (kf := 11) (v := .long (lZ (pkL (rl b s m)))) dX7_nextToken_202 flX7_104 (show kd 384 = 7 from rfl) (by decide) rfl ?_
        refine z_bipush dX7_nextToken_205 (by decide +kernel) ?_
        refine z_lshl8 dX7_nextToken_207 (by omega) ?_
        refine q_aload_n dX7_nextToken_208 rfl rfl ?_
        refine q_aload_n dX7_nextToken_209 rfl rfl ?_
        refine sg7 (kf := 7) (v := .int (iZ (p : Int))) dX7_nextToken_210 flX7_81 (show kd 384 = 7 from rfl) (by decide) (by show some (Value.int (iZ (F1 7))) = _; rw [h7]) ?_
        refine s_callV (ci := 7) (a := 384) (As := [.int (iZ (p : Int))]) (S := [.long (lZ ((pkL (rl b s m)) * 256)), .ref 384]) dX7_nextToken_213 okX7_byteAt mlX7_84 rfl (by omega) rfl (Nat.le_of_ble_eq_true rfl) (show kd 384 = 7 from rfl) (by decide) rfl (m2_byteAt (d := d - 1) (p := p) σ (pkL (rl b s m)) A F1 (n := n) (b := b) ((kp 4 (by decide) (by decide) (by decide) (by decide)).trans h4) hn3 hb (by omega)) (fun v_ σ_ hq => ?_)
        obtain ⟨rfl, e9⟩ := hq
        have e9 := e9.symm
        subst e9
        refine z_top (y := b p) (by rw [if_pos hpn]) ?_
        show sE g_tt _ _ _ 216 [some (.ref 384), l1] [.int (iZ (b p)), .long (lZ ((pkL (rl b s m)) * 256)), .ref 384] (ms (sW σ (pkL (rl b s m))) A F1)
        refine z_i2l dX7_nextToken_216 (by have q9 := hb8 p hpn; unfold inR; omega) ?_
        refine z_lorP (x := (pkL (rl b s m))) dX7_nextToken_217 (by omega) (by omega) ?_
        refine spw dX7_nextToken_218 flX7_104 ?_
        show sE g_tt _ _ _ 221 [some (.ref 384), l1] [] (ms (sW σ ((pkL (rl b s m)) * 256 + (b p))) A F1)
        refine q_aload_n dX7_nextToken_221 rfl rfl ?_
        refine q_dup dX7_nextToken_222 rfl ?_
        refine sg7 (kf := 7) (v := .int (iZ (p : Int))) dX7_nextToken_223 flX7_81 (show kd 384 = 7 from rfl) (by decide) (by show some (Value.int (iZ (F1 7))) = _; rw [h7]) ?_
        refine z_iconst dX7_nextToken_226 ?_
        refine z_iadd dX7_nextToken_227 ?_
        refine mp (kf := 7) dX7_nextToken_228 flX7_81 (by decide) ?_
        refine q_goto (tgt := 168) dX7_nextToken_231 (by decide) ?_
        have eW : pkL (rl b s (m + 1)) = (pkL (rl b s m)) * 256 + (b p) := by rw [rl, pkL, hps, if_pos (by omega)]
        have k9 := ih (p + 1) (m + 1) (va_up F1 7 ((p : Int) + 1)) (by omega) (by omega) ((va_up_self _ _ _).trans (by omega)) h8 h9 h10 (kpT_up kp (Or.inl rfl) _) (fun i hi => (if z : i = m then (by rw [z, hps]; exact c_1) else hL i (by omega))) (by rw [← he, show n - p = (n - (p + 1)) + 1 by omega, lEnd, if_pos ⟨hpn, c_1⟩]) (by omega)
        rw [eW] at k9
        exact k9
      · refine z_ldc2 (z := 1152921504606846976) dX7_nextToken_195 klX7_108 ?_
        refine q_goto (tgt := 218) dX7_nextToken_198 (by decide) ?_
        refine spw dX7_nextToken_218 flX7_104 ?_
        show sE g_tt _ _ _ 221 [some (.ref 384), l1] [] (ms (sW σ 1152921504606846976) A F1)
        refine q_aload_n dX7_nextToken_221 rfl rfl ?_
        refine q_dup dX7_nextToken_222 rfl ?_
        refine sg7 (kf := 7) (v := .int (iZ (p : Int))) dX7_nextToken_223 flX7_81 (show kd 384 = 7 from rfl) (by decide) (by show some (Value.int (iZ (F1 7))) = _; rw [h7]) ?_
        refine z_iconst dX7_nextToken_226 ?_
        refine z_iadd dX7_nextToken_227 ?_
        refine mp (kf := 7) dX7_nextToken_228 flX7_81 (by decide) ?_
        refine q_goto (tgt := 168) dX7_nextToken_231 (by decide) ?_
        have eW : pkL (rl b s (m + 1)) = 1152921504606846976 := by rw [rl, pkL, hps, if_neg (by omega)]
        have k9 := ih (p + 1) (m + 1) (va_up F1 7 ((p : Int) + 1)) (by omega) (by omega) ((va_up_self _ _ _).trans (by omega)) h8 h9 h10 (kpT_up kp (Or.inl rfl) _) (fun i hi => (if z : i = m then (by rw [z, hps]; exact c_1) else hL i (by omega))) (by rw [← he, show n - p = (n - (p + 1)) + 1 by omega, lEnd, if_pos ⟨hpn, c_1⟩]) (by omega)
        rw [eW] at k9
        exact k9
set_option maxHeartbeats 4000000 in
set_option maxRecDepth 100000 in
theorem lm_tok {d p : Nat} {w0 : Int} {l1 : Option Value} (hd : 1 ≤ d) (σ : gS) (A F : Nat → Int) {b : Nat → Int} {n : Nat} (h4 : F 4 = (n : Int)) (hn3 : n ≤ 300) (hb : σ.2.1 388 = b) (hb8 : ∀ i, i < n → 0 ≤ b i ∧ b i < 256) (F1 : Nat → Int) (hp : p ≤ n) (h7 : F1 7 = (p : Int)) (h10' : 0 ≤ F1 10 ∧ F1 10 ≤ 1000000) (hw0 : 0 ≤ w0 ∧ w0 ≤ 1152921504606846976) (kp : kpT F F1) : sE g_tt mX7_nextToken d (fun r σ' => r = none ∧ ∃ w1 F1, σ' = ms (sW σ w1) A F1 ∧ F1 7 = ((tkE b n p : Nat) : Int) ∧ F1 8 = ((p : Nat) : Int) ∧ tokR (F1 9) (F1 10) w1 (tkT b n p) (tkN b n p) ∧ kpT F F1) 39 [some (.ref 384), l1] [] (ms (sW σ w0) A F1) := by
  refine q_aload_n dX7_nextToken_39 rfl rfl ?_
  refine q_aload_n dX7_nextToken_40 rfl rfl ?_
  refine sg7 (kf := 7) (v := .int (iZ (p : Int))) dX7_nextToken_41 flX7_81 (show kd 384 = 7 from rfl) (by decide) (by show some (Value.int (iZ (F1 7))) = _; rw [h7]) ?_
  refine mp (kf := 8) dX7_nextToken_44 flX7_88 (by decide) ?_
  refine q_aload_n dX7_nextToken_47 rfl rfl ?_
  refine q_aload_n dX7_nextToken_48 rfl rfl ?_
  refine sg7 (kf := 7) (v := .int (iZ (p : Int))) dX7_nextToken_49 flX7_81 (show kd 384 = 7 from rfl) (by decide) (by show some (Value.int (iZ (F1 7))) = _; rw [h7]) ?_
  refine s_callV (ci := 7) (a := 384) (As := [.int (iZ (p : Int))]) (S := []) dX7_nextToken_52 okX7_byteAt mlX7_84 rfl (by omega) rfl (Nat.le_of_ble_eq_true rfl) (show kd 384 = 7 from rfl) (by decide) rfl (m2_byteAt (d := d - 1) (p := p) σ w0 A (va_up F1 8 (p : Int)) (n := n) (b := b) ((kp 4 (by decide) (by decide) (by decide) (by decide)).trans h4) hn3 hb (by omega)) (fun v_ σ_ hq => ?_)
  obtain ⟨rfl, e9⟩ := hq
  have e9 := e9.symm
  subst e9
  obtain ⟨y3, ey3, dy3, ry3⟩ := byt b n p hb8
  refine z_top (y := y3) ey3 ?_
  show sE g_tt _ _ _ 55 [some (.ref 384), l1] [.int (iZ y3)] (ms (sW σ w0) A (va_up F1 8 (p : Int)))
  refine q_istore_n dX7_nextToken_55 rfl (by decide) ?_
  show sE g_tt _ _ _ 56 [some (.ref 384), some (.int (iZ y3))] [] (ms (sW σ w0) A (va_up F1 8 (p : Int)))
  refine q_iload_n dX7_nextToken_56 rfl rfl ?_
  refine z_if_ge (tgt := 68) dX7_nextToken_57 (by decide) (by unfold inR; omega) (fun c_1 => ?_) (fun c_1 => ?_)
  · refine q_iload_n dX7_nextToken_68 rfl rfl ?_
    refine s_callS (As := [.int (iZ y3)]) (S := []) dX7_nextToken_69 okX7_isFigure mlX7_94 rfl (by omega) rfl (Nat.le_of_ble_eq_true rfl) (m2_isFigure (d := d - 1) (c := y3) (by unfold inR; omega) (ms (sW σ w0) A (va_up F1 8 (p : Int)))) (fun v_ σ_ hq => ?_)
    obtain ⟨rfl, e9⟩ := hq
    have e9 := e9.symm
    subst e9
    show sE g_tt _ _ _ 72 [some (.ref 384), some (.int (iZ y3))] [.int (iZ (if isDg (y3) then 1 else 0))] (ms (sW σ w0) A (va_up F1 8 (p : Int)))
    refine z_if_eq (tgt := 151) dX7_nextToken_72 (by decide) inR_01 (fun c_2 => ?_) (fun c_2 => ?_)
    · have c_2 := if01_0 c_2
      refine q_iload_n dX7_nextToken_151 rfl rfl ?_
      refine s_callS (As := [.int (iZ y3)]) (S := []) dX7_nextToken_152 okX7_isLetterByte mlX7_101 rfl (by omega) rfl (Nat.le_of_ble_eq_true rfl) (m2_isLetterByte (d := d - 1) (c := y3) (by unfold inR; omega) (ms (sW σ w0) A (va_up F1 8 (p : Int)))) (fun v_ σ_ hq => ?_)
      obtain ⟨rfl, e9⟩ := hq
      have e9 := e9.symm
      subst e9
      show sE g_tt _ _ _ 155 [some (.ref 384), some (.int (iZ y3))] [.int (iZ (if isLt (y3) then 1 else 0))] (ms (sW σ w0) A (va_up F1 8 (p : Int)))
      refine z_if_eq (tgt := 234) dX7_nextToken_155 (by decide) inR_01 (fun c_3 => ?_) (fun c_3 => ?_)
      · have c_3 := if01_0 c_3
        have hpn : p < n := by omega
        have ey : y3 = b p := by omega
        rw [ey] at c_3 c_2
        rw [ey]
        have nl : ¬ isLt (b p) := c_3
        have nd : ¬ isDg (b p) := c_2
        have q8 := hb8 p hpn
        refine q_aload_n dX7_nextToken_234 rfl rfl ?_
        refine q_iload_n dX7_nextToken_235 rfl rfl ?_
        refine s_callS (As := [.int (iZ (b p))]) (S := [.ref 384]) dX7_nextToken_236 okX7_isSign mlX7_110 rfl (by omega) rfl (Nat.le_of_ble_eq_true rfl) (m2_isSign (d := d - 1) (c := b p) (by have q9 := hb8 p hpn; unfold inR; omega) (ms (sW σ w0) A (va_up F1 8 (p : Int)))) (fun v_ σ_ hq => ?_)
        obtain ⟨rfl, e9⟩ := hq
        have e9 := e9.symm
        subst e9
        show sE g_tt _ _ _ 239 [some (.ref 384), some (.int (iZ (b p)))] [.int (iZ (if b p = 35 ∨ (40 ≤ b p ∧ b p ≤ 43) ∨ b p = 45 ∨ b p = 47 ∨ (58 ≤ b p ∧ b p ≤ 62) then 1 else 0)), .ref 384] (ms (sW σ w0) A (va_up F1 8 (p : Int)))
        refine z_if_eq (tgt := 246) dX7_nextToken_239 (by decide) inR_01 (fun c_41 => ?_) (fun c_41 => ?_)
        · have c_41 := if01_0 c_41
          refine z_iconst dX7_nextToken_246 ?_
          refine mp (kf := 9) dX7_nextToken_247 flX7_91 (by decide) ?_
          refine q_aload_n dX7_nextToken_250 rfl rfl ?_
          refine q_dup dX7_nextToken_251 rfl ?_
          refine sg7 (kf := 7) (v := .int (iZ (p : Int))) dX7_nextToken_252 flX7_81 (show kd 384 = 7 from rfl) (by decide) (by show some (Value.int (iZ (F1 7))) = _; rw [h7]) ?_
          refine z_iconst dX7_nextToken_255 ?_
          refine z_iadd dX7_nextToken_256 ?_
          refine mp (kf := 7) dX7_nextToken_257 flX7_81 (by decide) ?_
          refine q_iload_n dX7_nextToken_260 rfl rfl ?_
          refine z_bipush dX7_nextToken_261 (by decide +kernel) ?_
          refine z_icmp_eq (tgt := 272) dX7_nextToken_263 (by decide) (by unfold inR; omega) (by unfold inR; omega) (fun c_42 => ?_) (fun c_42 => ?_)
          · refine q_aload_n dX7_nextToken_272 rfl rfl ?_
            refine q_aload_n dX7_nextToken_273 rfl rfl ?_
            refine sg7 (kf := 7) (v := .int (iZ ((p : Int) + 1))) dX7_nextToken_274 flX7_81 (show kd 384 = 7 from rfl) (by decide) rfl ?_
            refine s_callV (ci := 7) (a := 384) (As := [.int (iZ ((p : Int) + 1))]) (S := []) dX7_nextToken_277 okX7_byteAt mlX7_84 rfl (by omega) rfl (Nat.le_of_ble_eq_true rfl) (show kd 384 = 7 from rfl) (by decide) rfl (m2_byteAt (d := d - 1) (p := p + 1) σ w0 A (va_up (va_up (va_up F1 8 (p : Int)) 9 3) 7 ((p : Int) + 1)) (n := n) (b := b) ((kp 4 (by decide) (by decide) (by decide) (by decide)).trans h4) hn3 hb (by omega)) (fun v_ σ_ hq => ?_)
            obtain ⟨rfl, e9⟩ := hq
            have e9 := e9.symm
            subst e9
            obtain ⟨y99, ey99, dy99, ry99⟩ := byt b n (p + 1) hb8
            refine z_top (y := y99) ey99 ?_
            show sE g_tt _ _ _ 280 [some (.ref 384), some (.int (iZ (b p)))] [.int (iZ y99)] (ms (sW σ w0) A (va_up (va_up (va_up F1 8 (p : Int)) 9 3) 7 ((p : Int) + 1)))
            refine z_bipush dX7_nextToken_280 (by decide +kernel) ?_
            refine z_icmp_ne (tgt := 310) dX7_nextToken_282 (by decide) (by unfold inR; omega) (by unfold inR; omega) (fun c_43 => ?_) (fun c_43 => ?_)
            · exact s_vret dX7_nextToken_310 rfl (by
                refine ⟨rfl, w0, _, rfl, ?_, rfl, ?_, (kpT_up (kpT_up (kpT_up kp (Or.inr (Or.inl rfl)) _) (Or.inr (Or.inr (Or.inl rfl))) _) (Or.inl rfl) _)⟩
                · show (p : Int) + 1 = _
                  unfold tkE; rw [if_neg (by omega), if_neg nl, if_neg nd]; rw [if_neg (fun z => by omega)]; omega
                · show tokR 3 (F1 10) w0 _ _
                  unfold tkT; rw [if_neg (by omega), if_neg nl, if_neg nd]; rw [if_neg (fun z => by omega), if_neg (fun z => by omega)]
                  exact tokR_sg (sg_f q8 nl nd (if_neg (by omega))) h10' hw0)
            · refine q_aload_n dX7_nextToken_285 rfl rfl ?_
              refine q_iload_n dX7_nextToken_286 rfl rfl ?_
              refine z_bipush dX7_nextToken_287 (by decide +kernel) ?_
              refine z_icmp_ne (tgt := 296) dX7_nextToken_289 (by decide) (by unfold inR; omega) (by unfold inR; omega) (fun c_44 => ?_) (fun c_44 => ?_)
              · refine z_iconst dX7_nextToken_296 ?_
                refine mp (kf := 9) dX7_nextToken_297 flX7_91 (by decide) ?_
                refine q_aload_n dX7_nextToken_300 rfl rfl ?_
                refine q_dup dX7_nextToken_301 rfl ?_
                refine sg7 (kf := 7) (v := .int (iZ ((p : Int) + 1))) dX7_nextToken_302 flX7_81 (show kd 384 = 7 from rfl) (by decide) rfl ?_
                refine z_iconst dX7_nextToken_305 ?_
                refine z_iadd dX7_nextToken_306 ?_
                refine mp (kf := 7) dX7_nextToken_307 flX7_81 (by decide) ?_
                exact s_vret dX7_nextToken_310 rfl (by
                  refine ⟨rfl, w0, _, rfl, ?_, rfl, ?_, (kpT_up (kpT_up (kpT_up (kpT_up (kpT_up kp (Or.inr (Or.inl rfl)) _) (Or.inr (Or.inr (Or.inl rfl))) _) (Or.inl rfl) _) (Or.inr (Or.inr (Or.inl rfl))) _) (Or.inl rfl) _)⟩
                  · show ((p : Int) + 1) + 1 = _
                    unfold tkE; rw [if_neg (by omega), if_neg nl, if_neg nd]; rw [if_pos ⟨by omega, by omega, by omega⟩]; omega
                  · show tokR 5 (F1 10) w0 _ _
                    unfold tkT; rw [if_neg (by omega), if_neg nl, if_neg nd]; rw [if_neg (fun z => by omega), if_pos ⟨by omega, by omega, by omega⟩]
                    exact tokR_sg sgP_5 h10' hw0)
              · refine z_iconst dX7_nextToken_292 ?_
                refine q_goto (tgt := 297) dX7_nextToken_293 (by decide) ?_
                refine mp (kf := 9) dX7_nextToken_297 flX7_91 (by decide) ?_
                refine q_aload_n dX7_nextToken_300 rfl rfl ?_
                refine q_dup dX7_nextToken_301 rfl ?_
                refine sg7 (kf := 7) (v := .int (iZ ((p : Int) + 1))) dX7_nextToken_302 flX7_81 (show kd 384 = 7 from rfl) (by decide) rfl ?_
                refine z_iconst dX7_nextToken_305 ?_
                refine z_iadd dX7_nextToken_306 ?_
                refine mp (kf := 7) dX7_nextToken_307 flX7_81 (by decide) ?_
                exact s_vret dX7_nextToken_310 rfl (by
                  refine ⟨rfl, w0, _, rfl, ?_, rfl, ?_, (kpT_up (kpT_up (kpT_up (kpT_up (kpT_up kp (Or.inr (Or.inl rfl)) _) (Or.inr (Or.inr (Or.inl rfl))) _) (Or.inl rfl) _) (Or.inr (Or.inr (Or.inl rfl))) _) (Or.inl rfl) _)⟩
                  · show ((p : Int) + 1) + 1 = _
                    unfold tkE; rw [if_neg (by omega), if_neg nl, if_neg nd]; rw [if_pos ⟨by omega, by omega, by omega⟩]; omega
                  · show tokR 4 (F1 10) w0 _ _
                    unfold tkT; rw [if_neg (by omega), if_neg nl, if_neg nd]; rw [if_pos ⟨by omega, by omega, by omega⟩]
                    exact tokR_sg sgP_4 h10' hw0)
          · refine q_iload_n dX7_nextToken_266 rfl rfl ?_
            refine z_bipush dX7_nextToken_267 (by decide +kernel) ?_
            refine z_icmp_ne (tgt := 310) dX7_nextToken_269 (by decide) (by unfold inR; omega) (by unfold inR; omega) (fun c_45 => ?_) (fun c_45 => ?_)
            · exact s_vret dX7_nextToken_310 rfl (by
                refine ⟨rfl, w0, _, rfl, ?_, rfl, ?_, (kpT_up (kpT_up (kpT_up kp (Or.inr (Or.inl rfl)) _) (Or.inr (Or.inr (Or.inl rfl))) _) (Or.inl rfl) _)⟩
                · show (p : Int) + 1 = _
                  unfold tkE; rw [if_neg (by omega), if_neg nl, if_neg nd]; rw [if_neg (fun z => by omega)]; omega
                · show tokR 3 (F1 10) w0 _ _
                  unfold tkT; rw [if_neg (by omega), if_neg nl, if_neg nd]; rw [if_neg (fun z => by omega), if_neg (fun z => by omega)]
                  exact tokR_sg (sg_f q8 nl nd (if_neg (by omega))) h10' hw0)
            · refine q_aload_n dX7_nextToken_272 rfl rfl ?_
              refine q_aload_n dX7_nextToken_273 rfl rfl ?_
              refine sg7 (kf := 7) (v := .int (iZ ((p : Int) + 1))) dX7_nextToken_274 flX7_81 (show kd 384 = 7 from rfl) (by decide) rfl ?_
              refine s_callV (ci := 7) (a := 384) (As := [.int (iZ ((p : Int) + 1))]) (S := []) dX7_nextToken_277 okX7_byteAt mlX7_84 rfl (by omega) rfl (Nat.le_of_ble_eq_true rfl) (show kd 384 = 7 from rfl) (by decide) rfl (m2_byteAt (d := d - 1) (p := p + 1) σ w0 A (va_up (va_up (va_up F1 8 (p : Int)) 9 3) 7 ((p : Int) + 1)) (n := n) (b := b) ((kp 4 (by decide) (by decide) (by decide) (by decide)).trans h4) hn3 hb (by omega)) (fun v_ σ_ hq => ?_)
              obtain ⟨rfl, e9⟩ := hq
              have e9 := e9.symm
              subst e9
              obtain ⟨y99, ey99, dy99, ry99⟩ := byt b n (p + 1) hb8
              refine z_top (y := y99) ey99 ?_
              show sE g_tt _ _ _ 280 [some (.ref 384), some (.int (iZ (b p)))] [.int (iZ y99)] (ms (sW σ w0) A (va_up (va_up (va_up F1 8 (p : Int)) 9 3) 7 ((p : Int) + 1)))
              refine z_bipush dX7_nextToken_280 (by decide +kernel) ?_
              refine z_icmp_ne (tgt := 310) dX7_nextToken_282 (by decide) (by unfold inR; omega) (by unfold inR; omega) (fun c_46 => ?_) (fun c_46 => ?_)
              · exact s_vret dX7_nextToken_310 rfl (by
                  refine ⟨rfl, w0, _, rfl, ?_, rfl, ?_, (kpT_up (kpT_up (kpT_up kp (Or.inr (Or.inl rfl)) _) (Or.inr (Or.inr (Or.inl rfl))) _) (Or.inl rfl) _)⟩
                  · show (p : Int) + 1 = _
                    unfold tkE; rw [if_neg (by omega), if_neg nl, if_neg nd]; rw [if_neg (fun z => by omega)]; omega
                  · show tokR 3 (F1 10) w0 _ _
                    unfold tkT; rw [if_neg (by omega), if_neg nl, if_neg nd]; rw [if_neg (fun z => by omega), if_neg (fun z => by omega)]
                    exact tokR_sg (sg_f q8 nl nd (if_neg (by omega))) h10' hw0)
              · refine q_aload_n dX7_nextToken_285 rfl rfl ?_
                refine q_iload_n dX7_nextToken_286 rfl rfl ?_
                refine z_bipush dX7_nextToken_287 (by decide +kernel) ?_
                refine z_icmp_ne (tgt := 296) dX7_nextToken_289 (by decide) (by unfold inR; omega) (by unfold inR; omega) (fun c_47 => ?_) (fun c_47 => ?_)
                · refine z_iconst dX7_nextToken_296 ?_
                  refine mp (kf := 9) dX7_nextToken_297 flX7_91 (by decide) ?_
                  refine q_aload_n dX7_nextToken_300 rfl rfl ?_
                  refine q_dup dX7_nextToken_301 rfl ?_
                  refine sg7 (kf := 7) (v := .int (iZ ((p : Int) + 1))) dX7_nextToken_302 flX7_81 (show kd 384 = 7 from rfl) (by decide) rfl ?_
                  refine z_iconst dX7_nextToken_305 ?_
                  refine z_iadd dX7_nextToken_306 ?_
                  refine mp (kf := 7) dX7_nextToken_307 flX7_81 (by decide) ?_
                  exact s_vret dX7_nextToken_310 rfl (by
                    refine ⟨rfl, w0, _, rfl, ?_, rfl, ?_, (kpT_up (kpT_up (kpT_up (kpT_up (kpT_up kp (Or.inr (Or.inl rfl)) _) (Or.inr (Or.inr (Or.inl rfl))) _) (Or.inl rfl) _) (Or.inr (Or.inr (Or.inl rfl))) _) (Or.inl rfl) _)⟩
                    · show ((p : Int) + 1) + 1 = _
                      unfold tkE; rw [if_neg (by omega), if_neg nl, if_neg nd]; rw [if_pos ⟨by omega, by omega, by omega⟩]; omega
                    · show tokR 5 (F1 10) w0 _ _
                      unfold tkT; rw [if_neg (by omega), if_neg nl, if_neg nd]; rw [if_neg (fun z => by omega), if_pos ⟨by omega, by omega, by omega⟩]
                      exact tokR_sg sgP_5 h10' hw0)
                · refine z_iconst dX7_nextToken_292 ?_
                  refine q_goto (tgt := 297) dX7_nextToken_293 (by decide) ?_
                  refine mp (kf := 9) dX7_nextToken_297 flX7_91 (by decide) ?_
                  refine q_aload_n dX7_nextToken_300 rfl rfl ?_
                  refine q_dup dX7_nextToken_301 rfl ?_
                  refine sg7 (kf := 7) (v := .int (iZ ((p : Int) + 1))) dX7_nextToken_302 flX7_81 (show kd 384 = 7 from rfl) (by decide) rfl ?_
                  refine z_iconst dX7_nextToken_305 ?_
                  refine z_iadd dX7_nextToken_306 ?_
                  refine mp (kf := 7) dX7_nextToken_307 flX7_81 (by decide) ?_
                  exact s_vret dX7_nextToken_310 rfl (by
                    refine ⟨rfl, w0, _, rfl, ?_, rfl, ?_, (kpT_up (kpT_up (kpT_up (kpT_up (kpT_up kp (Or.inr (Or.inl rfl)) _) (Or.inr (Or.inr (Or.inl rfl))) _) (Or.inl rfl) _) (Or.inr (Or.inr (Or.inl rfl))) _) (Or.inl rfl) _)⟩
                    · show ((p : Int) + 1) + 1 = _
                      unfold tkE; rw [if_neg (by omega), if_neg nl, if_neg nd]; rw [if_pos ⟨by omega, by omega, by omega⟩]; omega
                    · show tokR 4 (F1 10) w0 _ _
                      unfold tkT; rw [if_neg (by omega), if_neg nl, if_neg nd]; rw [if_pos ⟨by omega, by omega, by omega⟩]
                      exact tokR_sg sgP_4 h10' hw0)
        · have c_41 := if01_1 c_41
          refine q_iload_n dX7_nextToken_242 rfl rfl ?_
          refine q_goto (tgt := 247) dX7_nextToken_243 (by decide) ?_
          refine mp (kf := 9) dX7_nextToken_247 flX7_91 (by decide) ?_
          refine q_aload_n dX7_nextToken_250 rfl rfl ?_
          refine q_dup dX7_nextToken_251 rfl ?_
          refine sg7 (kf := 7) (v := .int (iZ (p : Int))) dX7_nextToken_252 flX7_81 (show kd 384 = 7 from rfl) (by decide) (by show some (Value.int (iZ (F1 7))) = _; rw [h7]) ?_
          refine z_iconst dX7_nextToken_255 ?_
          refine z_iadd dX7_nextToken_256 ?_
          refine mp (kf := 7) dX7_nextToken_257 flX7_81 (by decide) ?_
          refine q_iload_n dX7_nextToken_260 rfl rfl ?_
          refine z_bipush dX7_nextToken_261 (by decide +kernel) ?_
          refine z_icmp_eq (tgt := 272) dX7_nextToken_263 (by decide) (by unfold inR; omega) (by unfold inR; omega) (fun c_48 => ?_) (fun c_48 => ?_)
          · refine q_aload_n dX7_nextToken_272 rfl rfl ?_
            refine q_aload_n dX7_nextToken_273 rfl rfl ?_
            refine sg7 (kf := 7) (v := .int (iZ ((p : Int) + 1))) dX7_nextToken_274 flX7_81 (show kd 384 = 7 from rfl) (by decide) rfl ?_
            refine s_callV (ci := 7) (a := 384) (As := [.int (iZ ((p : Int) + 1))]) (S := []) dX7_nextToken_277 okX7_byteAt mlX7_84 rfl (by omega) rfl (Nat.le_of_ble_eq_true rfl) (show kd 384 = 7 from rfl) (by decide) rfl (m2_byteAt (d := d - 1) (p := p + 1) σ w0 A (va_up (va_up (va_up F1 8 (p : Int)) 9 (b p)) 7 ((p : Int) + 1)) (n := n) (b := b) ((kp 4 (by decide) (by decide) (by decide) (by decide)).trans h4) hn3 hb (by omega)) (fun v_ σ_ hq => ?_)
            obtain ⟨rfl, e9⟩ := hq
            have e9 := e9.symm
            subst e9
            obtain ⟨y99, ey99, dy99, ry99⟩ := byt b n (p + 1) hb8
            refine z_top (y := y99) ey99 ?_
            show sE g_tt _ _ _ 280 [some (.ref 384), some (.int (iZ (b p)))] [.int (iZ y99)] (ms (sW σ w0) A (va_up (va_up (va_up F1 8 (p : Int)) 9 (b p)) 7 ((p : Int) + 1)))
            refine z_bipush dX7_nextToken_280 (by decide +kernel) ?_
            refine z_icmp_ne (tgt := 310) dX7_nextToken_282 (by decide) (by unfold inR; omega) (by unfold inR; omega) (fun c_49 => ?_) (fun c_49 => ?_)
            · exact s_vret dX7_nextToken_310 rfl (by
                refine ⟨rfl, w0, _, rfl, ?_, rfl, ?_, (kpT_up (kpT_up (kpT_up kp (Or.inr (Or.inl rfl)) _) (Or.inr (Or.inr (Or.inl rfl))) _) (Or.inl rfl) _)⟩
                · show (p : Int) + 1 = _
                  unfold tkE; rw [if_neg (by omega), if_neg nl, if_neg nd]; rw [if_neg (fun z => by omega)]; omega
                · show tokR (b p) (F1 10) w0 _ _
                  unfold tkT; rw [if_neg (by omega), if_neg nl, if_neg nd]; rw [if_neg (fun z => by omega), if_neg (fun z => by omega)]
                  exact tokR_sg (sg_f q8 nl nd (if_pos (by omega))) h10' hw0)
            · refine q_aload_n dX7_nextToken_285 rfl rfl ?_
              refine q_iload_n dX7_nextToken_286 rfl rfl ?_
              refine z_bipush dX7_nextToken_287 (by decide +kernel) ?_
              refine z_icmp_ne (tgt := 296) dX7_nextToken_289 (by decide) (by unfold inR; omega) (by unfold inR; omega) (fun c_50 => ?_) (fun c_50 => ?_)
              · refine z_iconst dX7_nextToken_296 ?_
                refine mp (kf := 9) dX7_nextToken_297 flX7_91 (by decide) ?_
                refine q_aload_n dX7_nextToken_300 rfl rfl ?_
                refine q_dup dX7_nextToken_301 rfl ?_
                refine sg7 (kf := 7) (v := .int (iZ ((p : Int) + 1))) dX7_nextToken_302 flX7_81 (show kd 384 = 7 from rfl) (by decide) rfl ?_
                refine z_iconst dX7_nextToken_305 ?_
                refine z_iadd dX7_nextToken_306 ?_
                refine mp (kf := 7) dX7_nextToken_307 flX7_81 (by decide) ?_
                exact s_vret dX7_nextToken_310 rfl (by
                  refine ⟨rfl, w0, _, rfl, ?_, rfl, ?_, (kpT_up (kpT_up (kpT_up (kpT_up (kpT_up kp (Or.inr (Or.inl rfl)) _) (Or.inr (Or.inr (Or.inl rfl))) _) (Or.inl rfl) _) (Or.inr (Or.inr (Or.inl rfl))) _) (Or.inl rfl) _)⟩
                  · show ((p : Int) + 1) + 1 = _
                    unfold tkE; rw [if_neg (by omega), if_neg nl, if_neg nd]; rw [if_pos ⟨by omega, by omega, by omega⟩]; omega
                  · show tokR 5 (F1 10) w0 _ _
                    unfold tkT; rw [if_neg (by omega), if_neg nl, if_neg nd]; rw [if_neg (fun z => by omega), if_pos ⟨by omega, by omega, by omega⟩]
                    exact tokR_sg sgP_5 h10' hw0)
              · refine z_iconst dX7_nextToken_292 ?_
                refine q_goto (tgt := 297) dX7_nextToken_293 (by decide) ?_
                refine mp (kf := 9) dX7_nextToken_297 flX7_91 (by decide) ?_
                refine q_aload_n dX7_nextToken_300 rfl rfl ?_
                refine q_dup dX7_nextToken_301 rfl ?_
                refine sg7 (kf := 7) (v := .int (iZ ((p : Int) + 1))) dX7_nextToken_302 flX7_81 (show kd 384 = 7 from rfl) (by decide) rfl ?_
                refine z_iconst dX7_nextToken_305 ?_
                refine z_iadd dX7_nextToken_306 ?_
                refine mp (kf := 7) dX7_nextToken_307 flX7_81 (by decide) ?_
                exact s_vret dX7_nextToken_310 rfl (by
                  refine ⟨rfl, w0, _, rfl, ?_, rfl, ?_, (kpT_up (kpT_up (kpT_up (kpT_up (kpT_up kp (Or.inr (Or.inl rfl)) _) (Or.inr (Or.inr (Or.inl rfl))) _) (Or.inl rfl) _) (Or.inr (Or.inr (Or.inl rfl))) _) (Or.inl rfl) _)⟩
                  · show ((p : Int) + 1) + 1 = _
                    unfold tkE; rw [if_neg (by omega), if_neg nl, if_neg nd]; rw [if_pos ⟨by omega, by omega, by omega⟩]; omega
                  · show tokR 4 (F1 10) w0 _ _
                    unfold tkT; rw [if_neg (by omega), if_neg nl, if_neg nd]; rw [if_pos ⟨by omega, by omega, by omega⟩]
                    exact tokR_sg sgP_4 h10' hw0)
          · refine q_iload_n dX7_nextToken_266 rfl rfl ?_
            refine z_bipush dX7_nextToken_267 (by decide +kernel) ?_
            refine z_icmp_ne (tgt := 310) dX7_nextToken_269 (by decide) (by unfold inR; omega) (by unfold inR; omega) (fun c_51 => ?_) (fun c_51 => ?_)
            · exact s_vret dX7_nextToken_310 rfl (by
                refine ⟨rfl, w0, _, rfl, ?_, rfl, ?_, (kpT_up (kpT_up (kpT_up kp (Or.inr (Or.inl rfl)) _) (Or.inr (Or.inr (Or.inl rfl))) _) (Or.inl rfl) _)⟩
                · show (p : Int) + 1 = _
                  unfold tkE; rw [if_neg (by omega), if_neg nl, if_neg nd]; rw [if_neg (fun z => by omega)]; omega
                · show tokR (b p) (F1 10) w0 _ _
                  unfold tkT; rw [if_neg (by omega), if_neg nl, if_neg nd]; rw [if_neg (fun z => by omega), if_neg (fun z => by omega)]
                  exact tokR_sg (sg_f q8 nl nd (if_pos (by omega))) h10' hw0)
            · refine q_aload_n dX7_nextToken_272 rfl rfl ?_
              refine q_aload_n dX7_nextToken_273 rfl rfl ?_
              refine sg7 (kf := 7) (v := .int (iZ ((p : Int) + 1))) dX7_nextToken_274 flX7_81 (show kd 384 = 7 from rfl) (by decide) rfl ?_
              refine s_callV (ci := 7) (a := 384) (As := [.int (iZ ((p : Int) + 1))]) (S := []) dX7_nextToken_277 okX7_byteAt mlX7_84 rfl (by omega) rfl (Nat.le_of_ble_eq_true rfl) (show kd 384 = 7 from rfl) (by decide) rfl (m2_byteAt (d := d - 1) (p := p + 1) σ w0 A (va_up (va_up (va_up F1 8 (p : Int)) 9 (b p)) 7 ((p : Int) + 1)) (n := n) (b := b) ((kp 4 (by decide) (by decide) (by decide) (by decide)).trans h4) hn3 hb (by omega)) (fun v_ σ_ hq => ?_)
              obtain ⟨rfl, e9⟩ := hq
              have e9 := e9.symm
              subst e9
              obtain ⟨y99, ey99, dy99, ry99⟩ := byt b n (p + 1) hb8
              refine z_top (y := y99) ey99 ?_
              show sE g_tt _ _ _ 280 [some (.ref 384), some (.int (iZ (b p)))] [.int (iZ y99)] (ms (sW σ w0) A (va_up (va_up (va_up F1 8 (p : Int)) 9 (b p)) 7 ((p : Int) + 1)))
              refine z_bipush dX7_nextToken_280 (by decide +kernel) ?_
              refine z_icmp_ne (tgt := 310) dX7_nextToken_282 (by decide) (by unfold inR; omega) (by unfold inR; omega) (fun c_52 => ?_) (fun c_52 => ?_)
              · exact s_vret dX7_nextToken_310 rfl (by
                  refine ⟨rfl, w0, _, rfl, ?_, rfl, ?_, (kpT_up (kpT_up (kpT_up kp (Or.inr (Or.inl rfl)) _) (Or.inr (Or.inr (Or.inl rfl))) _) (Or.inl rfl) _)⟩
                  · show (p : Int) + 1 = _
                    unfold tkE; rw [if_neg (by omega), if_neg nl, if_neg nd]; rw [if_neg (fun z => by omega)]; omega
                  · show tokR (b p) (F1 10) w0 _ _
                    unfold tkT; rw [if_neg (by omega), if_neg nl, if_neg nd]; rw [if_neg (fun z => by omega), if_neg (fun z => by omega)]
                    exact tokR_sg (sg_f q8 nl nd (if_pos (by omega))) h10' hw0)
              · refine q_aload_n dX7_nextToken_285 rfl rfl ?_
                refine q_iload_n dX7_nextToken_286 rfl rfl ?_
                refine z_bipush dX7_nextToken_287 (by decide +kernel) ?_
                refine z_icmp_ne (tgt := 296) dX7_nextToken_289 (by decide) (by unfold inR; omega) (by unfold inR; omega) (fun c_53 => ?_) (fun c_53 => ?_)
                · refine z_iconst dX7_nextToken_296 ?_
                  refine mp (kf := 9) dX7_nextToken_297 flX7_91 (by decide) ?_
                  refine q_aload_n dX7_nextToken_300 rfl rfl ?_
                  refine q_dup dX7_nextToken_301 rfl ?_
                  refine sg7 (kf := 7) (v := .int (iZ ((p : Int) + 1))) dX7_nextToken_302 flX7_81 (show kd 384 = 7 from rfl) (by decide) rfl ?_
                  refine z_iconst dX7_nextToken_305 ?_
                  refine z_iadd dX7_nextToken_306 ?_
                  refine mp (kf := 7) dX7_nextToken_307 flX7_81 (by decide) ?_
                  exact s_vret dX7_nextToken_310 rfl (by
                    refine ⟨rfl, w0, _, rfl, ?_, rfl, ?_, (kpT_up (kpT_up (kpT_up (kpT_up (kpT_up kp (Or.inr (Or.inl rfl)) _) (Or.inr (Or.inr (Or.inl rfl))) _) (Or.inl rfl) _) (Or.inr (Or.inr (Or.inl rfl))) _) (Or.inl rfl) _)⟩
                    · show ((p : Int) + 1) + 1 = _
                      unfold tkE; rw [if_neg (by omega), if_neg nl, if_neg nd]; rw [if_pos ⟨by omega, by omega, by omega⟩]; omega
                    · show tokR 5 (F1 10) w0 _ _
                      unfold tkT; rw [if_neg (by omega), if_neg nl, if_neg nd]; rw [if_neg (fun z => by omega), if_pos ⟨by omega, by omega, by omega⟩]
                      exact tokR_sg sgP_5 h10' hw0)
                · refine z_iconst dX7_nextToken_292 ?_
                  refine q_goto (tgt := 297) dX7_nextToken_293 (by decide) ?_
                  refine mp (kf := 9) dX7_nextToken_297 flX7_91 (by decide) ?_
                  refine q_aload_n dX7_nextToken_300 rfl rfl ?_
                  refine q_dup dX7_nextToken_301 rfl ?_
                  refine sg7 (kf := 7) (v := .int (iZ ((p : Int) + 1))) dX7_nextToken_302 flX7_81 (show kd 384 = 7 from rfl) (by decide) rfl ?_
                  refine z_iconst dX7_nextToken_305 ?_
                  refine z_iadd dX7_nextToken_306 ?_
                  refine mp (kf := 7) dX7_nextToken_307 flX7_81 (by decide) ?_
                  exact s_vret dX7_nextToken_310 rfl (by
                    refine ⟨rfl, w0, _, rfl, ?_, rfl, ?_, (kpT_up (kpT_up (kpT_up (kpT_up (kpT_up kp (Or.inr (Or.inl rfl)) _) (Or.inr (Or.inr (Or.inl rfl))) _) (Or.inl rfl) _) (Or.inr (Or.inr (Or.inl rfl))) _) (Or.inl rfl) _)⟩
                    · show ((p : Int) + 1) + 1 = _
                      unfold tkE; rw [if_neg (by omega), if_neg nl, if_neg nd]; rw [if_pos ⟨by omega, by omega, by omega⟩]; omega
                    · show tokR 4 (F1 10) w0 _ _
                      unfold tkT; rw [if_neg (by omega), if_neg nl, if_neg nd]; rw [if_pos ⟨by omega, by omega, by omega⟩]
                      exact tokR_sg sgP_4 h10' hw0)
      · have c_3 := if01_1 c_3
        have hpn : p < n := by unfold isLt at c_3; omega
        have ey : y3 = b p := by omega
        rw [ey] at c_3
        have q8 := hb8 p hpn
        refine q_aload_n dX7_nextToken_158 rfl rfl ?_
        refine z_iconst dX7_nextToken_159 ?_
        refine mp (kf := 9) dX7_nextToken_160 flX7_91 (by decide) ?_
        refine q_aload_n dX7_nextToken_163 rfl rfl ?_
        refine z_lconst (z := 0) dX7_nextToken_164 (by decide +kernel) ?_
        refine spw dX7_nextToken_165 flX7_104 ?_
        show sE g_tt _ _ _ 168 [some (.ref 384), some (.int (iZ y3))] [] (ms (sW σ 0) A (va_up (va_up F1 8 (p : Int)) 9 2))
        refine lm_let (by omega) σ A F h4 hn3 hb hb8 (s := p) (e := lEnd b n (n - p) p) (a := F1 10) ?_ (n + 1) p 0 _ (by omega) (by omega) h7 rfl rfl rfl (kpT_up (kpT_up kp (Or.inr (Or.inl rfl)) _) (Or.inr (Or.inr (Or.inl rfl))) _) (fun i hi => absurd hi (by omega)) rfl (by omega)
        intro F2 k7 k8 k9 k10 kk kL
        have fr := fW_ran b p (lEnd b n (n - p) p - p) 25 (by omega)
        have pr := pkL_ran (rl b p (lEnd b n (n - p) p - p)) (rl_mem _ (fun i hi => by have := kL i hi; unfold isLt at this; omega))
        refine ⟨rfl, _, F2, rfl, ?_, k8, ?_, kk⟩
        · rw [k7]; unfold tkE; rw [if_neg (by omega), if_pos c_3]
        · rw [k9, k10]; unfold tkT tkN; rw [if_neg (by omega), if_pos c_3, if_neg (by omega), if_pos c_3]
          exact tokR_mk (by omega) (fun _ j hj => word_j kL hj) (by omega)
    · have c_2 := if01_1 c_2
      have hpn : p < n := by unfold isDg at c_2; omega
      have ey : y3 = b p := by omega
      rw [ey] at c_2
      have q8 := hb8 p hpn
      have ndl : ¬ isLt (b p) := by unfold isDg at *; unfold isLt; omega
      refine q_aload_n dX7_nextToken_75 rfl rfl ?_
      refine z_iconst dX7_nextToken_76 ?_
      refine mp (kf := 9) dX7_nextToken_77 flX7_91 (by decide) ?_
      refine q_aload_n dX7_nextToken_80 rfl rfl ?_
      refine z_iconst dX7_nextToken_81 ?_
      refine mp (kf := 10) dX7_nextToken_82 flX7_97 (by decide) ?_
      refine lm_dig (by omega) σ A F h4 hn3 hb hb8 (e := dEnd b n (n - p) p) (v := dNum b n (n - p) p 0) ?_ (n + 1) p 0 _ (by omega) h7 rfl rfl rfl (kpT_up (kpT_up (kpT_up kp (Or.inr (Or.inl rfl)) _) (Or.inr (Or.inr (Or.inl rfl))) _) (Or.inr (Or.inr (Or.inr rfl))) _) rfl rfl (by omega) (by omega)
      intro F2 a9 k7 k8 k9 k10 ka kv kk
      refine ⟨rfl, w0, F2, rfl, ?_, k8, ?_, kk⟩
      · rw [k7]; unfold tkE; rw [if_neg (by omega), if_neg ndl, if_pos c_2]
      · rw [k9, k10]; unfold tkT tkN; rw [if_neg (by omega), if_neg ndl, if_pos c_2, if_neg (by omega), if_neg ndl, if_pos c_2]
        exact tokR_mk (by omega) (fun z => absurd z (by decide)) (by omega)
  · have hpn : ¬ p < n := fun z => by have := hb8 p z; omega
    refine q_aload_n dX7_nextToken_60 rfl rfl ?_
    refine z_iconst dX7_nextToken_61 ?_
    refine mp (kf := 9) dX7_nextToken_62 flX7_91 (by decide) ?_
    refine q_goto (tgt := 310) dX7_nextToken_65 (by decide) ?_
    exact s_vret dX7_nextToken_310 rfl ⟨rfl, w0, _, rfl, by show F1 7 = _; rw [h7]; unfold tkE; rw [if_pos (by omega)], rfl, by show tokR 0 (F1 10) w0 _ _; unfold tkT; rw [if_pos (by omega)]; exact tokR_mk (by omega) (fun z => absurd z (by decide)) (by omega), (kpT_up (kpT_up kp (Or.inr (Or.inl rfl)) _) (Or.inr (Or.inr (Or.inl rfl))) _)⟩
set_option maxHeartbeats 4000000 in
set_option maxRecDepth 100000 in
theorem lm_next {d s : Nat} {w0 : Int} (hd : 1 ≤ d) (σ : gS) (A F : Nat → Int) {b : Nat → Int} {n : Nat} (h4 : F 4 = (n : Int)) (hn3 : n ≤ 300) (hb : σ.2.1 388 = b) (hb8 : ∀ i, i < n → 0 ≤ b i ∧ b i < 256) (hw0 : 0 ≤ w0 ∧ w0 ≤ 1152921504606846976) : ∀ (g : Nat) (p : Nat) (F1 : Nat → Int), p ≤ n → F1 7 = (p : Int) → (0 ≤ F1 10 ∧ F1 10 ≤ 1000000) → kpT F F1 → sEnd b n (n - p) p = s → (n : Int) - (p : Int) < (g : Int) → sE g_tt mX7_nextToken d (fun r σ' => r = none ∧ ∃ w1 F1, σ' = ms (sW σ w1) A F1 ∧ F1 7 = ((tkE b n s : Nat) : Int) ∧ F1 8 = ((s : Nat) : Int) ∧ tokR (F1 9) (F1 10) w1 (tkT b n s) (tkN b n s) ∧ kpT F F1) 0 [some (.ref 384), none] [] (ms (sW σ w0) A F1) := by
  intro g
  induction g with
  | zero =>
    intro p F1 hp h7 h10 kp hs hg
    exact absurd hg (by omega)
  | succ g ih =>
    intro p F1 hp h7 h10 kp hs hg
    refine q_aload_n dX7_nextToken_0 rfl rfl ?_
    refine q_aload_n dX7_nextToken_1 rfl rfl ?_
    refine sg7 (kf := 7) (v := .int (iZ (p : Int))) dX7_nextToken_2 flX7_81 (show kd 384 = 7 from rfl) (by decide) (by show some (Value.int (iZ (F1 7))) = _; rw [h7]) ?_
    refine s_callV (ci := 7) (a := 384) (As := [.int (iZ (p : Int))]) (S := []) dX7_nextToken_5 okX7_byteAt mlX7_84 rfl (by omega) rfl (Nat.le_of_ble_eq_true rfl) (show kd 384 = 7 from rfl) (by decide) rfl (m2_byteAt (d := d - 1) (p := p) σ w0 A F1 (n := n) (b := b) ((kp 4 (by decide) (by decide) (by decide) (by decide)).trans h4) hn3 hb (by omega)) (fun v_ σ_ hq => ?_)
    obtain ⟨rfl, e9⟩ := hq
    have e9 := e9.symm
    subst e9
    obtain ⟨y4, ey4, dy4, ry4⟩ := byt b n p hb8
    refine z_top (y := y4) ey4 ?_
    show sE g_tt _ _ _ 8 [some (.ref 384), none] [.int (iZ y4)] (ms (sW σ w0) A F1)
    refine z_bipush dX7_nextToken_8 (by decide +kernel) ?_
    refine z_icmp_eq (tgt := 26) dX7_nextToken_10 (by decide) (by unfold inR; omega) (by unfold inR; omega) (fun c_1 => ?_) (fun c_1 => ?_)
    · refine q_aload_n dX7_nextToken_26 rfl rfl ?_
      refine q_dup dX7_nextToken_27 rfl ?_
      refine sg7 (kf := 7) (v := .int (iZ (p : Int))) dX7_nextToken_28 flX7_81 (show kd 384 = 7 from rfl) (by decide) (by show some (Value.int (iZ (F1 7))) = _; rw [h7]) ?_
      refine z_iconst dX7_nextToken_31 ?_
      refine z_iadd dX7_nextToken_32 ?_
      refine mp (kf := 7) dX7_nextToken_33 flX7_81 (by decide) ?_
      refine q_goto (tgt := 0) dX7_nextToken_36 (by decide) ?_
      have hbl : p < n ∧ (b p = 32 ∨ b p = 10) := by omega
      exact ih (p + 1) (va_up F1 7 ((p : Int) + 1)) (by omega) ((va_up_self _ _ _).trans (by omega)) h10 (kpT_up kp (Or.inl rfl) _) (by rw [← hs, sEnd_b hbl.1 hbl.2]) (by omega)
    · refine q_aload_n dX7_nextToken_13 rfl rfl ?_
      refine q_aload_n dX7_nextToken_14 rfl rfl ?_
      refine sg7 (kf := 7) (v := .int (iZ (p : Int))) dX7_nextToken_15 flX7_81 (show kd 384 = 7 from rfl) (by decide) (by show some (Value.int (iZ (F1 7))) = _; rw [h7]) ?_
      refine s_callV (ci := 7) (a := 384) (As := [.int (iZ (p : Int))]) (S := []) dX7_nextToken_18 okX7_byteAt mlX7_84 rfl (by omega) rfl (Nat.le_of_ble_eq_true rfl) (show kd 384 = 7 from rfl) (by decide) rfl (m2_byteAt (d := d - 1) (p := p) σ w0 A F1 (n := n) (b := b) ((kp 4 (by decide) (by decide) (by decide) (by decide)).trans h4) hn3 hb (by omega)) (fun v_ σ_ hq => ?_)
      obtain ⟨rfl, e9⟩ := hq
      have e9 := e9.symm
      subst e9
      obtain ⟨y5, ey5, dy5, ry5⟩ := byt b n p hb8
      refine z_top (y := y5) ey5 ?_
      show sE g_tt _ _ _ 21 [some (.ref 384), none] [.int (iZ y5)] (ms (sW σ w0) A F1)
      refine z_bipush dX7_nextToken_21 (by decide +kernel) ?_
      refine z_icmp_ne (tgt := 39) dX7_nextToken_23 (by decide) (by unfold inR; omega) (by unfold inR; omega) (fun c_2 => ?_) (fun c_2 => ?_)
      · have hnb : ¬ (p < n ∧ (b p = 32 ∨ b p = 10)) := fun z => by omega
        have e9 : p = s := by rw [← hs, sEnd_n hnb]
        subst e9
        exact lm_tok (by omega) σ A F h4 hn3 hb hb8 F1 hp h7 h10 hw0 kp
      · refine q_aload_n dX7_nextToken_26 rfl rfl ?_
        refine q_dup dX7_nextToken_27 rfl ?_
        refine sg7 (kf := 7) (v := .int (iZ (p : Int))) dX7_nextToken_28 flX7_81 (show kd 384 = 7 from rfl) (by decide) (by show some (Value.int (iZ (F1 7))) = _; rw [h7]) ?_
        refine z_iconst dX7_nextToken_31 ?_
        refine z_iadd dX7_nextToken_32 ?_
        refine mp (kf := 7) dX7_nextToken_33 flX7_81 (by decide) ?_
        refine q_goto (tgt := 0) dX7_nextToken_36 (by decide) ?_
        have hbl : p < n ∧ (b p = 32 ∨ b p = 10) := by omega
        exact ih (p + 1) (va_up F1 7 ((p : Int) + 1)) (by omega) ((va_up_self _ _ _).trans (by omega)) h10 (kpT_up kp (Or.inl rfl) _) (by rw [← hs, sEnd_b hbl.1 hbl.2]) (by omega)
set_option maxHeartbeats 4000000 in
set_option maxRecDepth 100000 in
theorem m_nextToken {d p : Nat} {w0 : Int} (hd : 1 ≤ d) (σ : gS) (A F : Nat → Int) {b : Nat → Int} {n : Nat} (h4 : F 4 = (n : Int)) (hn3 : n ≤ 300) (hb : σ.2.1 388 = b) (hb8 : ∀ i, i < n → 0 ≤ b i ∧ b i < 256) (hp : p ≤ n) (h7 : F 7 = (p : Int)) (h10 : 0 ≤ F 10 ∧ F 10 ≤ 1000000) (hw0 : 0 ≤ w0 ∧ w0 ≤ 1152921504606846976) : sC mX7_nextToken d [.ref 384] (ms (sW σ w0) A F) (fun r σ' => r = none ∧ ∃ w1 F1, σ' = ms (sW σ w1) A F1 ∧ F1 7 = ((tkE b n (sEnd b n (n - p) p) : Nat) : Int) ∧ F1 8 = (((sEnd b n (n - p) p) : Nat) : Int) ∧ tokR (F1 9) (F1 10) w1 (tkT b n (sEnd b n (n - p) p)) (tkN b n (sEnd b n (n - p) p)) ∧ kpT F F1) := by
  refine sC_of rfl (Nat.le_of_ble_eq_true rfl) ?_
  exact lm_next hd σ A F h4 hn3 hb hb8 hw0 (n + 1) p F hp h7 h10 (kpT_rf F) rfl (by omega)
