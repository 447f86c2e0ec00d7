/-! ===== indexOf of a text ===== -/
/-- where c stands in the text first, f places from k on; none: -1 -/
def sIx (c : Int) : Nat → Nat → Int
  | 0, _ => -1
  | f + 1, k => if stB 1 k = c then (k : Int) else sIx c f (k + 1)
theorem sIx_ran (c : Int) : ∀ f k, sIx c f k = -1 ∨ ((k : Int) ≤ sIx c f k ∧ sIx c f k < (k : Int) + (f : Int)) := by
  intro f
  induction f with
  | zero => intro k; exact Or.inl rfl
  | succ f ih =>
    intro k
    rw [sIx]
    split
    · exact Or.inr ⟨by omega, by omega⟩
    · rcases ih (k + 1) with h | h
      · exact Or.inl h
      · exact Or.inr ⟨by omega, by omega⟩
set_option maxHeartbeats 4000000 in
set_option maxRecDepth 100000 in
theorem lj_ioc {d c : Nat} (hc : c < 256) (σ : gS) : ∀ (f k : Nat), f + k = 11 → sE g_tt mJ1_indexOfChar_4cfef d (fun r σ' => r = some (.int (iZ (sIx (c : Int) f k))) ∧ σ' = σ) 7 [some (.ref (1000003 + 1)), some (.int (iZ (c : Int))), some (.int (iZ 0)), some (.int (iZ 11)), some (.int (iZ (c : Int)).toInt8.toInt32), some (.int (iZ (k : Int)))] [] σ := by
  intro f
  induction f with
  | zero =>
    intro k hk
    refine q_iload dJ1_indexOfChar_4cfef_7 rfl ?_
    refine q_iload_n dJ1_indexOfChar_4cfef_9 rfl rfl ?_
    refine z_icmp_ge (tgt := 31) dJ1_indexOfChar_4cfef_10 (by decide) (by unfold inR; omega) (by unfold inR; omega) (fun c_1 => ?_) (fun c_1 => absurd c_1 (by omega))
    refine z_iconst dJ1_indexOfChar_4cfef_31 ?_
    exact s_iretZ dJ1_indexOfChar_4cfef_32 rfl ⟨rfl, rfl⟩
  | succ f ih =>
    intro k hk
    have sb := stB_1 k (by omega)
    refine q_iload dJ1_indexOfChar_4cfef_7 rfl ?_
    refine q_iload_n dJ1_indexOfChar_4cfef_9 rfl rfl ?_
    refine z_icmp_ge (tgt := 31) dJ1_indexOfChar_4cfef_10 (by decide) (by unfold inR; omega) (by unfold inR; omega) (fun c_1 => absurd c_1 (by omega)) (fun c_1 => ?_)
    refine q_aload_n dJ1_indexOfChar_4cfef_13 rfl rfl ?_
    refine q_iload dJ1_indexOfChar_4cfef_14 rfl ?_
    refine q_strB (j := 1) (by decide) (iZ_in (by omega) (by show (k : Int) < ((11 : Nat) : Int); omega) (by decide)) (stB_at (by decide) (by show k < 11; omega)) dJ1_indexOfChar_4cfef_16 ?_
    refine q_iload dJ1_indexOfChar_4cfef_17 rfl ?_
    obtain ⟨b, hb⟩ : ∃ b : Nat, stB 1 k = (b : Int) := ⟨(stB 1 k).toNat, by omega⟩
    have tb := tob c hc b (by omega)
    rw [hb]
    refine q_icmp_ne (tgt := 25) dJ1_indexOfChar_4cfef_19 (by decide) (fun c_2 => ?_) (fun c_2 => ?_)
    · refine z_iinc dJ1_indexOfChar_4cfef_25 rfl (by decide) ?_
      refine q_goto (tgt := 7) dJ1_indexOfChar_4cfef_28 (by decide) ?_
      have k9 := ih (k + 1) (by omega)
      rw [show sIx (c : Int) f (k + 1) = sIx (c : Int) (f + 1) k by rw [sIx, hb, if_neg (fun z => c_2 (tb.2 (by omega)))]] at k9
      exact k9
    · refine q_iload dJ1_indexOfChar_4cfef_22 rfl ?_
      exact s_iretZ dJ1_indexOfChar_4cfef_24 rfl ⟨by rw [sIx, hb, if_pos (by have := tb.1 c_2; omega)], rfl⟩
set_option maxHeartbeats 4000000 in
set_option maxRecDepth 100000 in
theorem j_ioc {d c : Nat} (hc : c < 256) (σ : gS) : sC mJ1_indexOfChar_4cfef d [.ref (1000003 + 1), .int (iZ (c : Int)), .int (iZ 0), .int (iZ 11)] σ (fun r σ' => r = some (.int (iZ (sIx (c : Int) 11 0))) ∧ σ' = σ) := by
  refine sC_of rfl (Nat.le_of_ble_eq_true rfl) ?_
  show sE g_tt _ _ _ 0 [some (.ref (1000003 + 1)), some (.int (iZ (c : Int))), some (.int (iZ 0)), some (.int (iZ 11)), none, none] [] σ
  refine q_iload_n dJ1_indexOfChar_4cfef_0 rfl rfl ?_
  refine q_i2b dJ1_indexOfChar_4cfef_1 ?_
  refine q_istore dJ1_indexOfChar_4cfef_2 (by decide) ?_
  refine q_iload_n dJ1_indexOfChar_4cfef_4 rfl rfl ?_
  refine q_istore dJ1_indexOfChar_4cfef_5 (by decide) ?_
  exact lj_ioc hc σ 11 0 rfl
set_option maxHeartbeats 4000000 in
set_option maxRecDepth 100000 in
theorem j_can {d c : Nat} (hc : c < 256) (σ : gS) : sC mJ1_canEncode_9a6ad d [.int (iZ (c : Int))] σ (fun r σ' => r = some (.int (iZ 1)) ∧ σ' = σ) := by
  refine sC_of rfl (Nat.le_of_ble_eq_true rfl) ?_
  show sE g_tt _ _ _ 0 [some (.int (iZ (c : Int)))] [] σ
  refine q_iload_n dJ1_canEncode_9a6ad_0 rfl rfl ?_
  refine z_if_lt (tgt := 15) dJ1_canEncode_9a6ad_1 (by decide) (by unfold inR; omega) (fun c_1 => absurd c_1 (by omega)) (fun c_1 => ?_)
  refine q_iload_n dJ1_canEncode_9a6ad_4 rfl rfl ?_
  refine z_sipush dJ1_canEncode_9a6ad_5 (by decide +kernel) ?_
  refine z_icmp_gt (tgt := 15) dJ1_canEncode_9a6ad_8 (by decide) (by unfold inR; omega) (by unfold inR; omega) (fun c_1 => absurd c_1 (by omega)) (fun c_1 => ?_)
  refine z_iconst dJ1_canEncode_9a6ad_11 ?_
  refine q_goto (tgt := 16) dJ1_canEncode_9a6ad_12 (by decide) ?_
  exact s_zret dJ1_canEncode_9a6ad_16 rfl (by omega) ⟨rfl, rfl⟩
set_option maxHeartbeats 4000000 in
set_option maxRecDepth 100000 in
theorem j_io4 {d c : Nat} (hd : 1 ≤ d) (hc : c < 256) (σ : gS) : sC mJ1_indexOf_4cfef d [.ref (1000003 + 1), .int (iZ (c : Int)), .int (iZ 0), .int (iZ 11)] σ (fun r σ' => r = some (.int (iZ (sIx (c : Int) 11 0))) ∧ σ' = σ) := by
  refine sC_of rfl (Nat.le_of_ble_eq_true rfl) ?_
  show sE g_tt _ _ _ 0 [some (.ref (1000003 + 1)), some (.int (iZ (c : Int))), some (.int (iZ 0)), some (.int (iZ 11))] [] σ
  refine q_iload_n dJ1_indexOf_4cfef_0 rfl rfl ?_
  refine s_callS (As := [.int (iZ (c : Int))]) (S := []) dJ1_indexOf_4cfef_1 okJ1_canEncode_9a6ad mlJ1_88 rfl (by omega) rfl (Nat.le_of_ble_eq_true rfl) (j_can (d := d - 1) hc σ) (fun v_ σ_ hq => ?_)
  obtain ⟨rfl, e9⟩ := hq
  have e9 := e9.symm
  subst e9
  show sE g_tt _ _ _ 4 [some (.ref (1000003 + 1)), some (.int (iZ (c : Int))), some (.int (iZ 0)), some (.int (iZ 11))] [.int (iZ 1)] σ
  refine z_if_ne (tgt := 9) dJ1_indexOf_4cfef_4 (by decide) (by unfold inR; omega) (fun _ => ?_) (fun c => absurd c (by decide))
  refine q_iload_n dJ1_indexOf_4cfef_9 rfl rfl ?_
  refine z_iconst dJ1_indexOf_4cfef_10 ?_
  refine z_mmax dJ1_indexOf_4cfef_11 mlJ1_92 (by omega) (Nat.le_of_ble_eq_true rfl) (by unfold inR; omega) (by unfold inR; omega) ?_
  refine z_top (y := 0) (by decide) ?_
  refine q_istore_n dJ1_indexOf_4cfef_14 rfl (by decide) ?_
  show sE g_tt _ _ _ 15 [some (.ref (1000003 + 1)), some (.int (iZ (c : Int))), some (.int (iZ 0)), some (.int (iZ 11))] [] σ
  refine q_iload_n dJ1_indexOf_4cfef_15 rfl rfl ?_
  refine q_aload_n dJ1_indexOf_4cfef_16 rfl rfl ?_
  refine q_strL (j := 1) (by decide) (v := iZ 11) (by decide +kernel) dJ1_indexOf_4cfef_17 ?_
  refine z_mmin dJ1_indexOf_4cfef_18 mlJ1_38 (by omega) (Nat.le_of_ble_eq_true rfl) (by unfold inR; omega) (by unfold inR; omega) ?_
  refine z_top (y := 11) (by decide) ?_
  refine q_istore_n dJ1_indexOf_4cfef_21 rfl (by decide) ?_
  show sE g_tt _ _ _ 22 [some (.ref (1000003 + 1)), some (.int (iZ (c : Int))), some (.int (iZ 0)), some (.int (iZ 11))] [] σ
  refine q_iload_n dJ1_indexOf_4cfef_22 rfl rfl ?_
  refine q_iload_n dJ1_indexOf_4cfef_23 rfl rfl ?_
  refine z_icmp_lt (tgt := 29) dJ1_indexOf_4cfef_24 (by decide) (by unfold inR; omega) (by unfold inR; omega) (fun _ => ?_) (fun c => absurd c (by decide))
  refine q_aload_n dJ1_indexOf_4cfef_29 rfl rfl ?_
  refine q_iload_n dJ1_indexOf_4cfef_30 rfl rfl ?_
  refine q_iload_n dJ1_indexOf_4cfef_31 rfl rfl ?_
  refine q_iload_n dJ1_indexOf_4cfef_32 rfl rfl ?_
  refine s_callS (As := [.ref (1000003 + 1), .int (iZ (c : Int)), .int (iZ 0), .int (iZ 11)]) (S := []) dJ1_indexOf_4cfef_33 okJ1_indexOfChar_4cfef mlJ1_95 rfl (by omega) rfl (Nat.le_of_ble_eq_true rfl) (j_ioc (d := d - 1) hc σ) (fun v_ σ_ hq => ?_)
  obtain ⟨rfl, e9⟩ := hq
  have e9 := e9.symm
  subst e9
  exact s_iretZ dJ1_indexOf_4cfef_36 rfl ⟨rfl, rfl⟩
set_option maxHeartbeats 4000000 in
set_option maxRecDepth 100000 in
theorem j_io2 {d c : Nat} (hd : 2 ≤ d) (hc : c < 256) (σ : gS) : sC mJ0_indexOf_7cf53 d [.ref (1000000 + 1), .int (iZ (c : Int)), .int (iZ 0)] σ (fun r σ' => r = some (.int (iZ (sIx (c : Int) 11 0))) ∧ σ' = σ) := by
  refine sC_of rfl (Nat.le_of_ble_eq_true rfl) ?_
  show sE g_tt _ _ _ 0 [some (.ref (1000000 + 1)), some (.int (iZ (c : Int))), some (.int (iZ 0))] [] σ
  refine q_aload_n dJ0_indexOf_7cf53_0 rfl rfl ?_
  refine s_callStr (j := 1) (As := []) (S := []) dJ0_indexOf_7cf53_1 okJ0_isLatin1_aae02 mlJ0_492 rfl (by omega) rfl (Nat.le_of_ble_eq_true rfl) (by decide) rfl (j_isLatin1 (d := d - 1) (by decide) σ) (fun v_ σ_ hq => ?_)
  obtain ⟨rfl, e9⟩ := hq
  have e9 := e9.symm
  subst e9
  show sE g_tt _ _ _ 4 [some (.ref (1000000 + 1)), some (.int (iZ (c : Int))), some (.int (iZ 0))] [.int (iZ 1)] σ
  refine z_if_eq (tgt := 23) dJ0_indexOf_7cf53_4 (by decide) (by unfold inR; omega) (fun c => absurd c (by decide)) (fun _ => ?_)
  refine q_aload_n dJ0_indexOf_7cf53_7 rfl rfl ?_
  refine q_strV (j := 1) (by decide) rfl dJ0_indexOf_7cf53_8 ?_
  refine q_iload_n dJ0_indexOf_7cf53_11 rfl rfl ?_
  refine q_iload_n dJ0_indexOf_7cf53_12 rfl rfl ?_
  refine q_aload_n dJ0_indexOf_7cf53_13 rfl rfl ?_
  refine s_callStr (j := 1) (As := []) (S := [.int (iZ 0), .int (iZ (c : Int)), .ref (1000003 + 1)]) dJ0_indexOf_7cf53_14 okJ0_length_8abf5 mlJ0_505 rfl (by omega) rfl (Nat.le_of_ble_eq_true rfl) (by decide) rfl (j_length (d := d - 1) (by omega) (by decide) σ) (fun v_ σ_ hq => ?_)
  obtain ⟨rfl, e9⟩ := hq
  have e9 := e9.symm
  subst e9
  show sE g_tt _ _ _ 17 [some (.ref (1000000 + 1)), some (.int (iZ (c : Int))), some (.int (iZ 0))] [.int (iZ 11), .int (iZ 0), .int (iZ (c : Int)), .ref (1000003 + 1)] σ
  refine s_callS (As := [.ref (1000003 + 1), .int (iZ (c : Int)), .int (iZ 0), .int (iZ 11)]) (S := []) dJ0_indexOf_7cf53_17 okJ1_indexOf_4cfef mlJ0_637 rfl (by omega) rfl (Nat.le_of_ble_eq_true rfl) (j_io4 (d := d - 1) (by omega) hc σ) (fun v_ σ_ hq => ?_)
  obtain ⟨rfl, e9⟩ := hq
  have e9 := e9.symm
  subst e9
  show sE g_tt _ _ _ 20 [some (.ref (1000000 + 1)), some (.int (iZ (c : Int))), some (.int (iZ 0))] [.int (iZ (sIx (c : Int) 11 0))] σ
  refine q_goto (tgt := 36) dJ0_indexOf_7cf53_20 (by decide) ?_
  exact s_iretZ dJ0_indexOf_7cf53_36 rfl ⟨rfl, rfl⟩
set_option maxHeartbeats 4000000 in
set_option maxRecDepth 100000 in
theorem j_indexOf {d c : Nat} (hd : 3 ≤ d) (hc : c < 256) (σ : gS) : sC mJ0_indexOf_0f7a4 d [.ref (1000000 + 1), .int (iZ (c : Int))] σ (fun r σ' => r = some (.int (iZ (sIx (c : Int) 11 0))) ∧ σ' = σ) := by
  refine sC_of rfl (Nat.le_of_ble_eq_true rfl) ?_
  show sE g_tt _ _ _ 0 [some (.ref (1000000 + 1)), some (.int (iZ (c : Int)))] [] σ
  refine q_aload_n dJ0_indexOf_0f7a4_0 rfl rfl ?_
  refine q_iload_n dJ0_indexOf_0f7a4_1 rfl rfl ?_
  refine z_iconst dJ0_indexOf_0f7a4_2 ?_
  refine s_callStr (j := 1) (As := [.int (iZ (c : Int)), .int (iZ 0)]) (S := []) dJ0_indexOf_0f7a4_3 okJ0_indexOf_7cf53 mlJ0_633 rfl (by omega) rfl (Nat.le_of_ble_eq_true rfl) (by decide) rfl (j_io2 (d := d - 1) (by omega) hc σ) (fun v_ σ_ hq => ?_)
  obtain ⟨rfl, e9⟩ := hq
  have e9 := e9.symm
  subst e9
  exact s_iretZ dJ0_indexOf_0f7a4_6 rfl ⟨rfl, rfl⟩
