/-! ===== feed of the class ===== -/
/-- the tape of the class with bytes B, n of them -/
def tpS (σ : gS) (B : Nat → Int) (n : Int) : gS := sI (sRw σ 329 B) 328 1 n
theorem tpS_1 (σ : gS) (B : Nat → Int) (n : Int) : (tpS σ B n).1 328 1 = n := sI_at _ _ _ _
theorem tpS_2 (σ : gS) (B : Nat → Int) (n : Int) : (tpS σ B n).2.1 329 = B := by
  show va_up σ.2.1 329 B 329 = B
  exact va_up_self _ _ _
theorem tpS_w (σ : gS) (B C : Nat → Int) (n m : Int) : tpS (tpS σ B n) C m = tpS σ C m := by
  unfold tpS sI sRw up2
  simp only [va_up_self, bx_uu]
theorem tpS_b (σ : gS) (B : Nat → Int) (n m : Int) (k : Nat) (z : Int) : sI (sR (tpS σ B n) 329 k z) 328 1 m = tpS σ (va_up B k z) m := by
  unfold tpS sI sRw sR up2
  simp only [va_up_self, bx_uu]
theorem tpS_id (σ : gS) : tpS σ (σ.2.1 329) (σ.1 328 1) = σ := by
  have e1 : va_up σ.2.1 329 (σ.2.1 329) = σ.2.1 := by
    funext a; by_cases q : a = 329
    · rw [q, va_up_self]
    · rw [va_up_ne _ _ q]
  have e2 : va_up (σ.1 328) 1 (σ.1 328 1) = σ.1 328 := by
    funext a; by_cases q : a = 1
    · rw [q, va_up_self]
    · rw [va_up_ne _ _ q]
  have e3 : va_up σ.1 328 (σ.1 328) = σ.1 := by
    funext a; by_cases q : a = 328
    · rw [q, va_up_self]
    · rw [va_up_ne _ _ q]
  unfold tpS sI sRw up2
  simp only [e1, e2, e3]
theorem four_end (σ : gS) {n : Nat} (ht : σ.1 328 1 = (n : Int)) (v : Int) : sI (sR (sI (sR (sI (sR (sI (sR σ 329 n (v / 2 ^ 24 % 256)) 328 1 ((n : Int) + 1)) 329 (n + 1) (v / 2 ^ 16 % 256)) 328 1 ((n : Int) + 1 + 1)) 329 (n + 1 + 1) (v / 2 ^ 8 % 256)) 328 1 ((n : Int) + 1 + 1 + 1)) 329 (n + 1 + 1 + 1) (v / 2 ^ 0 % 256)) 328 1 ((n : Int) + 1 + 1 + 1 + 1) = tpS σ (mFr (σ.2.1 329) n v) ((n : Int) + 4) := by
  have e := tpS_id σ
  rw [← e, tpS_b, tpS_b, tpS_b, tpS_b, tpS_w, tpS_2]
  unfold mFr
  rw [show (n : Int) + 1 + 1 + 1 + 1 = (n : Int) + 4 by omega]
set_option maxHeartbeats 4000000 in
set_option maxRecDepth 100000 in
theorem x_four {d n : Nat} {v : Int} (hv : inR v) (σ : gS) (ht : σ.1 328 1 = (n : Int)) (hn : n + 4 ≤ 300) : sC mX3_addFour d [.ref 328, .int (iZ v)] σ (fun r σ' => r = none ∧ σ' = tpS σ (mFr (σ.2.1 329) n v) ((n : Int) + 4)) := by
  refine sC_of rfl (Nat.le_of_ble_eq_true rfl) ?_
  show sE g_tt _ _ _ 0 [some (.ref 328), some (.int (iZ v)), none] [] σ
  refine z_bipush dX3_addFour_0 (by decide +kernel) ?_
  refine q_istore_n dX3_addFour_2 rfl (by decide) ?_
  show sE g_tt _ _ _ 3 [some (.ref 328), some (.int (iZ v)), some (.int (iZ 24))] [] σ
  refine q_iload_n dX3_addFour_3 rfl rfl ?_
  refine z_if_lt (tgt := 49) dX3_addFour_4 (by decide) (by unfold inR at *; omega) (fun c_1 => ?_) (fun c_1 => ?_)
  · exfalso
    revert c_1
    decide
  · refine q_aload_n dX3_addFour_7 rfl rfl ?_
    refine sg3 (kf := 1) (v := .int (iZ (n : Int))) dX3_addFour_8 flX3_15 (show kd 328 = 3 from rfl) (by decide) (by show some (Value.int (iZ (σ.1 328 1))) = _; rw [ht]) ?_
    refine z_sipush dX3_addFour_11 (by decide +kernel) ?_
    refine z_icmp_ge (tgt := 49) dX3_addFour_14 (by decide) (by unfold inR at *; omega) (by unfold inR at *; omega) (fun c_2 => ?_) (fun c_2 => ?_)
    · exfalso
      omega
    · refine q_aload_n dX3_addFour_17 rfl rfl ?_
      refine sg3 (kf := 0) (v := .ref 329) dX3_addFour_18 flX3_9 (show kd 328 = 3 from rfl) (by decide) rfl ?_
      refine q_aload_n dX3_addFour_21 rfl rfl ?_
      refine sg3 (kf := 1) (v := .int (iZ (n : Int))) dX3_addFour_22 flX3_15 (show kd 328 = 3 from rfl) (by decide) (by show some (Value.int (iZ (σ.1 328 1))) = _; rw [ht]) ?_
      refine q_iload_n dX3_addFour_25 rfl rfl ?_
      refine q_iload_n dX3_addFour_26 rfl rfl ?_
      refine z_ishr (x := v) (k := 24) dX3_addFour_27 (by omega) (by unfold inR at *; omega) ?_
      refine z_sipush dX3_addFour_28 (by decide +kernel) ?_
      refine z_and255 dX3_addFour_31 ?_
      refine s_iast (n := 300) dX3_addFour_32 (show kd 329 = 100 + 300 from rfl) (by omega) (by omega) (by decide) ?_
      refine q_aload_n dX3_addFour_33 rfl rfl ?_
      refine q_dup dX3_addFour_34 rfl ?_
      refine sg3 (kf := 1) (v := .int (iZ (n : Int))) dX3_addFour_35 flX3_15 (show kd 328 = 3 from rfl) (by decide) (by show some (Value.int (iZ (σ.1 328 1))) = _; rw [ht]) ?_
      refine z_iconst dX3_addFour_38 ?_
      refine z_iadd dX3_addFour_39 ?_
      refine sp3 (kf := 1) dX3_addFour_40 flX3_15 (show kd 328 = 3 from rfl) (by decide) ?_
      refine z_iinc dX3_addFour_43 rfl (by decide) ?_
      show sE g_tt _ _ _ 46 [some (.ref 328), some (.int (iZ v)), some (.int (iZ 16))] [] (sI (sR σ 329 n ((v / 2 ^ 24) % 256)) 328 1 ((n : Int) + 1))
      refine q_goto (tgt := 3) dX3_addFour_46 (by decide) ?_
      refine q_iload_n dX3_addFour_3 rfl rfl ?_
      refine z_if_lt (tgt := 49) dX3_addFour_4 (by decide) (by unfold inR at *; omega) (fun c_3 => ?_) (fun c_3 => ?_)
      · exfalso
        revert c_3
        decide
      · refine q_aload_n dX3_addFour_7 rfl rfl ?_
        refine sg3 (kf := 1) (v := .int (iZ ((n : Int) + 1))) dX3_addFour_8 flX3_15 (show kd 328 = 3 from rfl) (by decide) (by show some (Value.int (iZ ((sI (sR σ 329 n ((v / 2 ^ 24) % 256)) 328 1 ((n : Int) + 1)).1 328 1))) = _; rw [sI_at]) ?_
        refine z_sipush dX3_addFour_11 (by decide +kernel) ?_
        refine z_icmp_ge (tgt := 49) dX3_addFour_14 (by decide) (by unfold inR at *; omega) (by unfold inR at *; omega) (fun c_4 => ?_) (fun c_4 => ?_)
        · exfalso
          omega
        · refine q_aload_n dX3_addFour_17 rfl rfl ?_
          refine sg3 (kf := 0) (v := .ref 329) dX3_addFour_18 flX3_9 (show kd 328 = 3 from rfl) (by decide) rfl ?_
          refine q_aload_n dX3_addFour_21 rfl rfl ?_
          refine sg3 (kf := 1) (v := .int (iZ ((n : Int) + 1))) dX3_addFour_22 flX3_15 (show kd 328 = 3 from rfl) (by decide) (by show some (Value.int (iZ ((sI (sR σ 329 n ((v / 2 ^ 24) % 256)) 328 1 ((n : Int) + 1)).1 328 1))) = _; rw [sI_at]) ?_
          refine q_iload_n dX3_addFour_25 rfl rfl ?_
          refine q_iload_n dX3_addFour_26 rfl rfl ?_
          refine z_ishr (x := v) (k := 16) dX3_addFour_27 (by omega) (by unfold inR at *; omega) ?_
          refine z_sipush dX3_addFour_28 (by decide +kernel) ?_
          refine z_and255 dX3_addFour_31 ?_
          refine s_iast (n := 300) dX3_addFour_32 (show kd 329 = 100 + 300 from rfl) (by omega) (by omega) (by decide) ?_
          refine q_aload_n dX3_addFour_33 rfl rfl ?_
          refine q_dup dX3_addFour_34 rfl ?_
          refine sg3 (kf := 1) (v := .int (iZ ((n : Int) + 1))) dX3_addFour_35 flX3_15 (show kd 328 = 3 from rfl) (by decide) (by show some (Value.int (iZ ((sI (sR σ 329 n ((v / 2 ^ 24) % 256)) 328 1 ((n : Int) + 1)).1 328 1))) = _; rw [sI_at]) ?_
          refine z_iconst dX3_addFour_38 ?_
          refine z_iadd dX3_addFour_39 ?_
          refine sp3 (kf := 1) dX3_addFour_40 flX3_15 (show kd 328 = 3 from rfl) (by decide) ?_
          refine z_iinc dX3_addFour_43 rfl (by decide) ?_
          show sE g_tt _ _ _ 46 [some (.ref 328), some (.int (iZ v)), some (.int (iZ 8))] [] (sI (sR (sI (sR σ 329 n ((v / 2 ^ 24) % 256)) 328 1 ((n : Int) + 1)) 329 (((n : Int) + 1).toNat) ((v / 2 ^ 16) % 256)) 328 1 (((n : Int) + 1) + 1))
          refine q_goto (tgt := 3) dX3_addFour_46 (by decide) ?_
          refine q_iload_n dX3_addFour_3 rfl rfl ?_
          refine z_if_lt (tgt := 49) dX3_addFour_4 (by decide) (by unfold inR at *; omega) (fun c_5 => ?_) (fun c_5 => ?_)
          · exfalso
            revert c_5
            decide
          · refine q_aload_n dX3_addFour_7 rfl rfl ?_
            refine sg3 (kf := 1) (v := .int (iZ ((n : Int) + 1 + 1))) dX3_addFour_8 flX3_15 (show kd 328 = 3 from rfl) (by decide) (by show some (Value.int (iZ ((sI (sR (sI (sR σ 329 n ((v / 2 ^ 24) % 256)) 328 1 ((n : Int) + 1)) 329 (((n : Int) + 1).toNat) ((v / 2 ^ 16) % 256)) 328 1 (((n : Int) + 1) + 1)).1 328 1))) = _; rw [sI_at]) ?_
            refine z_sipush dX3_addFour_11 (by decide +kernel) ?_
            refine z_icmp_ge (tgt := 49) dX3_addFour_14 (by decide) (by unfold inR at *; omega) (by unfold inR at *; omega) (fun c_6 => ?_) (fun c_6 => ?_)
            · exfalso
              omega
            · refine q_aload_n dX3_addFour_17 rfl rfl ?_
              refine sg3 (kf := 0) (v := .ref 329) dX3_addFour_18 flX3_9 (show kd 328 = 3 from rfl) (by decide) rfl ?_
              refine q_aload_n dX3_addFour_21 rfl rfl ?_
              refine sg3 (kf := 1) (v := .int (iZ ((n : Int) + 1 + 1))) dX3_addFour_22 flX3_15 (show kd 328 = 3 from rfl) (by decide) (by show some (Value.int (iZ ((sI (sR (sI (sR σ 329 n ((v / 2 ^ 24) % 256)) 328 1 ((n : Int) + 1)) 329 (((n : Int) + 1).toNat) ((v / 2 ^ 16) % 256)) 328 1 (((n : Int) + 1) + 1)).1 328 1))) = _; rw [sI_at]) ?_
              refine q_iload_n dX3_addFour_25 rfl rfl ?_
              refine q_iload_n dX3_addFour_26 rfl rfl ?_
              refine z_ishr (x := v) (k := 8) dX3_addFour_27 (by omega) (by unfold inR at *; omega) ?_
              refine z_sipush dX3_addFour_28 (by decide +kernel) ?_
              refine z_and255 dX3_addFour_31 ?_
              refine s_iast (n := 300) dX3_addFour_32 (show kd 329 = 100 + 300 from rfl) (by omega) (by omega) (by decide) ?_
              refine q_aload_n dX3_addFour_33 rfl rfl ?_
              refine q_dup dX3_addFour_34 rfl ?_
              refine sg3 (kf := 1) (v := .int (iZ ((n : Int) + 1 + 1))) dX3_addFour_35 flX3_15 (show kd 328 = 3 from rfl) (by decide) (by show some (Value.int (iZ ((sI (sR (sI (sR σ 329 n ((v / 2 ^ 24) % 256)) 328 1 ((n : Int) + 1)) 329 (((n : Int) + 1).toNat) ((v / 2 ^ 16) % 256)) 328 1 (((n : Int) + 1) + 1)).1 328 1))) = _; rw [sI_at]) ?_
              refine z_iconst dX3_addFour_38 ?_
              refine z_iadd dX3_addFour_39 ?_
              refine sp3 (kf := 1) dX3_addFour_40 flX3_15 (show kd 328 = 3 from rfl) (by decide) ?_
              refine z_iinc dX3_addFour_43 rfl (by decide) ?_
              show sE g_tt _ _ _ 46 [some (.ref 328), some (.int (iZ v)), some (.int (iZ 0))] [] (sI (sR (sI (sR (sI (sR σ 329 n ((v / 2 ^ 24) % 256)) 328 1 ((n : Int) + 1)) 329 (((n : Int) + 1).toNat) ((v / 2 ^ 16) % 256)) 328 1 (((n : Int) + 1) + 1)) 329 (((n : Int) + 1 + 1).toNat) ((v / 2 ^ 8) % 256)) 328 1 (((n : Int) + 1 + 1) + 1))
              refine q_goto (tgt := 3) dX3_addFour_46 (by decide) ?_
              refine q_iload_n dX3_addFour_3 rfl rfl ?_
              refine z_if_lt (tgt := 49) dX3_addFour_4 (by decide) (by unfold inR at *; omega) (fun c_7 => ?_) (fun c_7 => ?_)
              · exfalso
                revert c_7
                decide
              · refine q_aload_n dX3_addFour_7 rfl rfl ?_
                refine sg3 (kf := 1) (v := .int (iZ ((n : Int) + 1 + 1 + 1))) dX3_addFour_8 flX3_15 (show kd 328 = 3 from rfl) (by decide) (by show some (Value.int (iZ ((sI (sR (sI (sR (sI (sR σ 329 n ((v / 2 ^ 24) % 256)) 328 1 ((n : Int) + 1)) 329 (((n : Int) + 1).toNat) ((v / 2 ^ 16) % 256)) 328 1 (((n : Int) + 1) + 1)) 329 (((n : Int) + 1 + 1).toNat) ((v / 2 ^ 8) % 256)) 328 1 (((n : Int) + 1 + 1) + 1)).1 328 1))) = _; rw [sI_at]) ?_
                refine z_sipush dX3_addFour_11 (by decide +kernel) ?_
                refine z_icmp_ge (tgt := 49) dX3_addFour_14 (by decide) (by unfold inR at *; omega) (by unfold inR at *; omega) (fun c_8 => ?_) (fun c_8 => ?_)
                · exfalso
                  omega
                · refine q_aload_n dX3_addFour_17 rfl rfl ?_
                  refine sg3 (kf := 0) (v := .ref 329) dX3_addFour_18 flX3_9 (show kd 328 = 3 from rfl) (by decide) rfl ?_
                  refine q_aload_n dX3_addFour_21 rfl rfl ?_
                  refine sg3 (kf := 1) (v := .int (iZ ((n : Int) + 1 + 1 + 1))) dX3_addFour_22 flX3_15 (show kd 328 = 3 from rfl) (by decide) (by show some (Value.int (iZ ((sI (sR (sI (sR (sI (sR σ 329 n ((v / 2 ^ 24) % 256)) 328 1 ((n : Int) + 1)) 329 (((n : Int) + 1).toNat) ((v / 2 ^ 16) % 256)) 328 1 (((n : Int) + 1) + 1)) 329 (((n : Int) + 1 + 1).toNat) ((v / 2 ^ 8) % 256)) 328 1 (((n : Int) + 1 + 1) + 1)).1 328 1))) = _; rw [sI_at]) ?_
                  refine q_iload_n dX3_addFour_25 rfl rfl ?_
                  refine q_iload_n dX3_addFour_26 rfl rfl ?_
                  refine z_ishr (x := v) (k := 0) dX3_addFour_27 (by omega) (by unfold inR at *; omega) ?_
                  refine z_sipush dX3_addFour_28 (by decide +kernel) ?_
                  refine z_and255 dX3_addFour_31 ?_
                  refine s_iast (n := 300) dX3_addFour_32 (show kd 329 = 100 + 300 from rfl) (by omega) (by omega) (by decide) ?_
                  refine q_aload_n dX3_addFour_33 rfl rfl ?_
                  refine q_dup dX3_addFour_34 rfl ?_
                  refine sg3 (kf := 1) (v := .int (iZ ((n : Int) + 1 + 1 + 1))) dX3_addFour_35 flX3_15 (show kd 328 = 3 from rfl) (by decide) (by show some (Value.int (iZ ((sI (sR (sI (sR (sI (sR σ 329 n ((v / 2 ^ 24) % 256)) 328 1 ((n : Int) + 1)) 329 (((n : Int) + 1).toNat) ((v / 2 ^ 16) % 256)) 328 1 (((n : Int) + 1) + 1)) 329 (((n : Int) + 1 + 1).toNat) ((v / 2 ^ 8) % 256)) 328 1 (((n : Int) + 1 + 1) + 1)).1 328 1))) = _; rw [sI_at]) ?_
                  refine z_iconst dX3_addFour_38 ?_
                  refine z_iadd dX3_addFour_39 ?_
                  refine sp3 (kf := 1) dX3_addFour_40 flX3_15 (show kd 328 = 3 from rfl) (by decide) ?_
                  refine z_iinc dX3_addFour_43 rfl (by decide) ?_
                  show sE g_tt _ _ _ 46 [some (.ref 328), some (.int (iZ v)), some (.int (iZ (-8)))] [] (sI (sR (sI (sR (sI (sR (sI (sR σ 329 n ((v / 2 ^ 24) % 256)) 328 1 ((n : Int) + 1)) 329 (((n : Int) + 1).toNat) ((v / 2 ^ 16) % 256)) 328 1 (((n : Int) + 1) + 1)) 329 (((n : Int) + 1 + 1).toNat) ((v / 2 ^ 8) % 256)) 328 1 (((n : Int) + 1 + 1) + 1)) 329 (((n : Int) + 1 + 1 + 1).toNat) ((v / 2 ^ 0) % 256)) 328 1 (((n : Int) + 1 + 1 + 1) + 1))
                  refine q_goto (tgt := 3) dX3_addFour_46 (by decide) ?_
                  refine q_iload_n dX3_addFour_3 rfl rfl ?_
                  refine z_if_lt (tgt := 49) dX3_addFour_4 (by decide) (by unfold inR at *; omega) (fun c_9 => ?_) (fun c_9 => ?_)
                  · exact s_vret dX3_addFour_49 rfl ⟨rfl, four_end σ ht v⟩
                  · exfalso
                    revert c_9
                    decide
set_option maxHeartbeats 4000000 in
set_option maxRecDepth 100000 in
theorem x_feed {d n : Nat} (hd : 1 ≤ d) {v1 v2 v3 v4 v5 : Int} (hv1 : inR v1) (hv2 : inR v2) (hv3 : inR v3) (hv4 : inR v4) (hv5 : inR v5) (σ : gS) (ht : σ.1 328 1 = (n : Int)) (hn : n ≤ 300) : sC mX6_feed d [.ref 0, .int (iZ v1), .int (iZ v2), .int (iZ v3), .int (iZ v4), .int (iZ v5)] σ (fun r σ' => r = some (.int (iZ (if (n : Int) + 20 ≤ 300 then (n : Int) + 20 else -1))) ∧ σ' = if (n : Int) + 20 ≤ 300 then tpS σ (mFd (σ.2.1 329) n v1 v2 v3 v4 v5) ((n : Int) + 20) else σ) := by
  refine sC_of rfl (Nat.le_of_ble_eq_true rfl) ?_
  show sE g_tt _ _ _ 0 [some (.ref 0), some (.int (iZ v1)), some (.int (iZ v2)), some (.int (iZ v3)), some (.int (iZ v4)), some (.int (iZ v5))] [] σ
  refine q_aload_n dX6_feed_0 rfl rfl ?_
  refine sg6 (kf := 4) (v := .ref 328) dX6_feed_1 flX6_33 (show kd 0 = 6 from rfl) (by decide) rfl ?_
  refine sg3 (kf := 1) (v := .int (iZ (n : Int))) dX6_feed_4 flX6_88 (show kd 328 = 3 from rfl) (by decide) (by show some (Value.int (iZ (σ.1 328 1))) = _; rw [ht]) ?_
  refine z_bipush dX6_feed_7 (by decide +kernel) ?_
  refine z_iadd dX6_feed_9 ?_
  refine z_sipush dX6_feed_10 (by decide +kernel) ?_
  refine z_icmp_le (tgt := 18) dX6_feed_13 (by decide) (by unfold inR at *; omega) (by unfold inR at *; omega) (fun c_1 => ?_) (fun c_1 => ?_)
  · refine q_aload_n dX6_feed_18 rfl rfl ?_
    refine sg6 (kf := 4) (v := .ref 328) dX6_feed_19 flX6_33 (show kd 0 = 6 from rfl) (by decide) rfl ?_
    refine q_iload_n dX6_feed_22 rfl rfl ?_
    refine s_callV (ci := 3) (a := 328) (As := [.int (iZ v1)]) (S := []) dX6_feed_23 okX3_addFour mlX6_91 rfl (by omega) rfl (Nat.le_of_ble_eq_true rfl) (show kd 328 = 3 from rfl) (by decide) rfl (x_four (d := d - 1) (n := n) (v := v1) hv1 σ ht (by omega)) (fun v_ σ_ hq => ?_)
    obtain ⟨rfl, e9⟩ := hq
    have e9 := e9.symm
    subst e9
    show sE g_tt _ _ _ 26 [some (.ref 0), some (.int (iZ v1)), some (.int (iZ v2)), some (.int (iZ v3)), some (.int (iZ v4)), some (.int (iZ v5))] [] (tpS σ (mFr (σ.2.1 329) n v1) ((n : Int) + 4))
    refine q_aload_n dX6_feed_26 rfl rfl ?_
    refine sg6 (kf := 4) (v := .ref 328) dX6_feed_27 flX6_33 (show kd 0 = 6 from rfl) (by decide) rfl ?_
    refine q_iload_n dX6_feed_30 rfl rfl ?_
    refine s_callV (ci := 3) (a := 328) (As := [.int (iZ v2)]) (S := []) dX6_feed_31 okX3_addFour mlX6_91 rfl (by omega) rfl (Nat.le_of_ble_eq_true rfl) (show kd 328 = 3 from rfl) (by decide) rfl (x_four (d := d - 1) (n := (n + 4)) (v := v2) hv2 (tpS σ (mFr (σ.2.1 329) n v1) ((n : Int) + 4)) (by rw [tpS_1]; omega) (by omega)) (fun v_ σ_ hq => ?_)
    obtain ⟨rfl, e9⟩ := hq
    rw [tpS_w, tpS_2, show (((n + 4) : Nat) : Int) + 4 = (n : Int) + 8 by omega] at e9
    have e9 := e9.symm
    subst e9
    show sE g_tt _ _ _ 34 [some (.ref 0), some (.int (iZ v1)), some (.int (iZ v2)), some (.int (iZ v3)), some (.int (iZ v4)), some (.int (iZ v5))] [] (tpS σ (mFr (mFr (σ.2.1 329) n v1) (n + 4) v2) ((n : Int) + 8))
    refine q_aload_n dX6_feed_34 rfl rfl ?_
    refine sg6 (kf := 4) (v := .ref 328) dX6_feed_35 flX6_33 (show kd 0 = 6 from rfl) (by decide) rfl ?_
    refine q_iload_n dX6_feed_38 rfl rfl ?_
    refine s_callV (ci := 3) (a := 328) (As := [.int (iZ v3)]) (S := []) dX6_feed_39 okX3_addFour mlX6_91 rfl (by omega) rfl (Nat.le_of_ble_eq_true rfl) (show kd 328 = 3 from rfl) (by decide) rfl (x_four (d := d - 1) (n := (n + 8)) (v := v3) hv3 (tpS σ (mFr (mFr (σ.2.1 329) n v1) (n + 4) v2) ((n : Int) + 8)) (by rw [tpS_1]; omega) (by omega)) (fun v_ σ_ hq => ?_)
    obtain ⟨rfl, e9⟩ := hq
    rw [tpS_w, tpS_2, show (((n + 8) : Nat) : Int) + 4 = (n : Int) + 12 by omega] at e9
    have e9 := e9.symm
    subst e9
    show sE g_tt _ _ _ 42 [some (.ref 0), some (.int (iZ v1)), some (.int (iZ v2)), some (.int (iZ v3)), some (.int (iZ v4)), some (.int (iZ v5))] [] (tpS σ (mFr (mFr (mFr (σ.2.1 329) n v1) (n + 4) v2) (n + 8) v3) ((n : Int) + 12))
    refine q_aload_n dX6_feed_42 rfl rfl ?_
    refine sg6 (kf := 4) (v := .ref 328) dX6_feed_43 flX6_33 (show kd 0 = 6 from rfl) (by decide) rfl ?_
    refine q_iload dX6_feed_46 rfl ?_
    refine s_callV (ci := 3) (a := 328) (As := [.int (iZ v4)]) (S := []) dX6_feed_48 okX3_addFour mlX6_91 rfl (by omega) rfl (Nat.le_of_ble_eq_true rfl) (show kd 328 = 3 from rfl) (by decide) rfl (x_four (d := d - 1) (n := (n + 12)) (v := v4) hv4 (tpS σ (mFr (mFr (mFr (σ.2.1 329) n v1) (n + 4) v2) (n + 8) v3) ((n : Int) + 12)) (by rw [tpS_1]; omega) (by omega)) (fun v_ σ_ hq => ?_)
    obtain ⟨rfl, e9⟩ := hq
    rw [tpS_w, tpS_2, show (((n + 12) : Nat) : Int) + 4 = (n : Int) + 16 by omega] at e9
    have e9 := e9.symm
    subst e9
    show sE g_tt _ _ _ 51 [some (.ref 0), some (.int (iZ v1)), some (.int (iZ v2)), some (.int (iZ v3)), some (.int (iZ v4)), some (.int (iZ v5))] [] (tpS σ (mFr (mFr (mFr (mFr (σ.2.1 329) n v1) (n + 4) v2) (n + 8) v3) (n + 12) v4) ((n : Int) + 16))
    refine q_aload_n dX6_feed_51 rfl rfl ?_
    refine sg6 (kf := 4) (v := .ref 328) dX6_feed_52 flX6_33 (show kd 0 = 6 from rfl) (by decide) rfl ?_
    refine q_iload dX6_feed_55 rfl ?_
    refine s_callV (ci := 3) (a := 328) (As := [.int (iZ v5)]) (S := []) dX6_feed_57 okX3_addFour mlX6_91 rfl (by omega) rfl (Nat.le_of_ble_eq_true rfl) (show kd 328 = 3 from rfl) (by decide) rfl (x_four (d := d - 1) (n := (n + 16)) (v := v5) hv5 (tpS σ (mFr (mFr (mFr (mFr (σ.2.1 329) n v1) (n + 4) v2) (n + 8) v3) (n + 12) v4) ((n : Int) + 16)) (by rw [tpS_1]; omega) (by omega)) (fun v_ σ_ hq => ?_)
    obtain ⟨rfl, e9⟩ := hq
    rw [tpS_w, tpS_2, show (((n + 16) : Nat) : Int) + 4 = (n : Int) + 20 by omega] at e9
    have e9 := e9.symm
    subst e9
    show sE g_tt _ _ _ 60 [some (.ref 0), some (.int (iZ v1)), some (.int (iZ v2)), some (.int (iZ v3)), some (.int (iZ v4)), some (.int (iZ v5))] [] (tpS σ (mFr (mFr (mFr (mFr (mFr (σ.2.1 329) n v1) (n + 4) v2) (n + 8) v3) (n + 12) v4) (n + 16) v5) ((n : Int) + 20))
    refine q_aload_n dX6_feed_60 rfl rfl ?_
    refine sg6 (kf := 4) (v := .ref 328) dX6_feed_61 flX6_33 (show kd 0 = 6 from rfl) (by decide) rfl ?_
    refine sg3 (kf := 1) (v := .int (iZ ((n : Int) + 20))) dX6_feed_64 flX6_88 (show kd 328 = 3 from rfl) (by decide) (by show some (Value.int (iZ ((tpS σ (mFr (mFr (mFr (mFr (mFr (σ.2.1 329) n v1) (n + 4) v2) (n + 8) v3) (n + 12) v4) (n + 16) v5) ((n : Int) + 20)).1 328 1))) = _; rw [tpS_1]) ?_
    exact s_iretZ dX6_feed_67 rfl ⟨by congr 3; (repeat (first | rw [if_pos (by omega)] | rw [if_neg (by omega)])), by (repeat (first | rw [if_pos (by omega)] | rw [if_neg (by omega)])); (try rfl)⟩
  · refine z_iconst dX6_feed_16 ?_
    exact s_iretZ dX6_feed_17 rfl ⟨by congr 3; (repeat (first | rw [if_pos (by omega)] | rw [if_neg (by omega)])), by (repeat (first | rw [if_pos (by omega)] | rw [if_neg (by omega)])); (try rfl)⟩
