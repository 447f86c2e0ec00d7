/-! ===== the model's text() ===== -/
theorem tx_ok {tk nu : Nat → Int} {n : Nat} (hn : n ≤ 300) (h39 : tk n = 39) (hnu : ∀ k, 0 ≤ nu k) : ∀ (f k : Nat) (cs : List Nat), k ≤ n → (0 ≤ (txE tk nu f k cs).1 ∧ (txE tk nu f k cs).1 ≤ 6) ∧ (txE tk nu f k cs).2.1 ≤ n := by
  intro f
  induction f with
  | zero => intro k cs hk; exact ⟨⟨Int.le_refl 0, show (0 : Int) ≤ 6 by decide⟩, hk⟩
  | succ f ih =>
    intro k cs hk
    rw [txE]
    by_cases q : tk k = 39
    · rw [if_pos q]; exact ⟨⟨Int.le_refl 0, show (0 : Int) ≤ 6 by decide⟩, hk⟩
    · rw [if_neg q]
      have hlt : k < n := by
        rcases Nat.lt_or_ge k n with z | z
        · exact z
        · exact absurd (by rw [show k = n by omega]; exact h39) q
      have one := one_ok hn h39 hnu hlt cs
      by_cases q2 : (oneE tk nu k cs).1 = 0
      · rw [if_pos q2]; exact ih _ _ one.2.1
      · rw [if_neg q2]; exact ⟨one.1, one.2.1⟩
def kpD (F F1 : Nat → Int) : Prop := ∀ j, 4 ≤ j → j ≠ 11 → j ≠ 15 → 20 ≤ j → F1 j = F j
def tqM (b : Nat → Int) (n tx : Nat) (σ : gS) (A F T : Nat → Int) (q : Int × Nat × List Nat) (r : Option Value) (σ' : gS) : Prop := r = some (.int (iZ (if q.1 = 0 then (tx : Int) else -1))) ∧ ∃ w1 T1 P1 F1, σ' = ms (pt σ T1 P1 w1) (if q.1 = 0 then va_up A 1 ((tx : Int) + 1) else A) F1 ∧ F1 4 = 0 ∧ F1 5 = q.1 ∧ F1 6 = (if q.1 = 0 then -1 else ((tkS b n q.2.1 : Nat) : Int)) ∧ (0 ≤ F1 10 ∧ F1 10 ≤ 1000000) ∧ (0 ≤ w1 ∧ w1 ≤ 1152921504606846976) ∧ (∀ j, 20 ≤ j → F1 j = F j) ∧ kpS tx T T1 ∧ (q.1 = 0 → ∃ D1, T1 (681 * tx) = ((q.2.2.length : Nat) : Int) ∧ dR T1 (681 * tx + 73) D1 ∧ clsM (tkA b n) (nuA b n) T1 D1 tx q.2.2 ∧ D1.length ≤ 300 ∧ q.2.2.length ≤ 24)
set_option maxHeartbeats 4000000 in
set_option maxRecDepth 100000 in
theorem m_text {d : Nat} (hd : 14 ≤ d) (σ : gS) (A F T Pf : Nat → Int) {w0 : Int} {b : Nat → Int} {n tx : Nat} (hn3 : n ≤ 300) (hb : σ.2.1 388 = b) (hb8 : ∀ i, i < n → 0 ≤ b i ∧ b i < 256) (htx : tx < 4) (hA1 : A 1 = (tx : Int)) (h4 : F 4 = (n : Int)) (h10 : 0 ≤ F 10 ∧ F 10 ≤ 1000000) (hw0 : 0 ≤ w0 ∧ w0 ≤ 1152921504606846976) (h73 : ∀ i, i < 73 → inR (T (681 * tx + i))) {nT : Nat} (hnT : nT ≤ 300) (h39 : tkA b n nT = 39) : sC mX7_text d [.ref 384] (ms (pt σ T Pf w0) A F) (tqM b n tx σ A F T (txE (tkA b n) (nuA b n) 301 0 [])) := by
  have tok := tx_ok (tk := tkA b n) (nu := nuA b n) hnT h39 (fun j => (nuA_ran b n j).1) 301 0 [] (Nat.zero_le _)
  refine sC_of rfl (Nat.le_of_ble_eq_true rfl) ?_
  show sE g_tt _ _ _ 0 [some (.ref 384)] [] (ms (pt σ T Pf w0) A F)
  refine q_aload_n dX7_text_0 rfl rfl ?_
  refine sg7 (kf := 0) (v := .ref 385) dX7_text_1 flX7_7 (show kd 384 = 7 from rfl) (by decide) rfl ?_
  refine z_iconst dX7_text_4 ?_
  refine s_iald (n := 1583) (x := (tx : Int)) dX7_text_5 (show kd 385 = 100 + 1583 from rfl) (by omega) (by omega) (by decide) (by exact hA1) ?_
  refine z_iconst dX7_text_6 ?_
  refine z_icmp_ne (tgt := 12) dX7_text_7 (by decide) (by unfold inR; omega) (by unfold inR; omega) (fun c_1 => ?_) (fun c_1 => ?_)
  · refine q_aload_n dX7_text_12 rfl rfl ?_
    refine q_aload_n dX7_text_13 rfl rfl ?_
    refine s_callV (ci := 7) (a := 384) (As := []) (S := [.ref 384]) dX7_text_14 okX7_readText mlX7_239 rfl (by omega) rfl (Nat.le_of_ble_eq_true rfl) (show kd 384 = 7 from rfl) (by decide) rfl (m_readText (d := d - 1) (by omega) σ A F T Pf hn3 hb hb8 htx hA1 h4 h10 hw0 h73 hnT h39) (fun v_ σ_ hq => ?_)
    obtain ⟨rfl, w2, T2, P2, F2, e9, ld2, kC2, S2, ok2⟩ := hq
    subst e9
    show sE g_tt _ _ _ 17 [some (.ref 384)] [.int (iZ ((txE (tkA b n) (nuA b n) 301 0 []).1)), .ref 384] (ms (pt σ T2 P2 w2) A F2)
    refine mp (kf := 5) dX7_text_17 flX7_22 (by decide) ?_
    refine q_aload_n dX7_text_20 rfl rfl ?_
    refine q_aload_n dX7_text_21 rfl rfl ?_
    refine sg7 (kf := 5) (v := .int (iZ ((txE (tkA b n) (nuA b n) 301 0 []).1))) dX7_text_22 flX7_22 (show kd 384 = 7 from rfl) (by decide) rfl ?_
    refine z_if_ne (tgt := 32) dX7_text_25 (by decide) (by unfold inR; omega) (fun c_2 => ?_) (fun c_2 => ?_)
    · refine q_aload_n dX7_text_32 rfl rfl ?_
      refine sg7 (kf := 8) (v := .int (iZ (F2 8))) dX7_text_33 flX7_88 (show kd 384 = 7 from rfl) (by decide) rfl ?_
      refine mp (kf := 6) dX7_text_36 flX7_26 (by decide) ?_
      refine q_aload_n dX7_text_39 rfl rfl ?_
      refine z_iconst dX7_text_40 ?_
      refine mp (kf := 4) dX7_text_41 flX7_74 (by decide) ?_
      refine q_aload_n dX7_text_44 rfl rfl ?_
      refine sg7 (kf := 5) (v := .int (iZ ((txE (tkA b n) (nuA b n) 301 0 []).1))) dX7_text_45 flX7_22 (show kd 384 = 7 from rfl) (by decide) rfl ?_
      refine z_if_eq (tgt := 53) dX7_text_48 (by decide) (by unfold inR; omega) (fun c_3 => ?_) (fun c_3 => ?_)
      · refine q_aload_n dX7_text_53 rfl rfl ?_
        refine sg7 (kf := 0) (v := .ref 385) dX7_text_54 flX7_7 (show kd 384 = 7 from rfl) (by decide) rfl ?_
        refine z_iconst dX7_text_57 ?_
        refine q_dup2 dX7_text_58 rfl rfl ?_
        refine s_iald (n := 1583) (x := (tx : Int)) dX7_text_59 (show kd 385 = 100 + 1583 from rfl) (by omega) (by omega) (by decide) (by exact hA1) ?_
        refine z_iconst dX7_text_60 ?_
        refine z_iadd dX7_text_61 ?_
        refine ma_st dX7_text_62 (by omega) (by omega) ?_
        refine q_aload_n dX7_text_63 rfl rfl ?_
        refine sg7 (kf := 0) (v := .ref 385) dX7_text_64 flX7_7 (show kd 384 = 7 from rfl) (by decide) rfl ?_
        refine z_iconst dX7_text_67 ?_
        refine s_iald (n := 1583) (x := (tx : Int) + 1) dX7_text_68 (show kd 385 = 100 + 1583 from rfl) (by omega) (by omega) (by decide) rfl ?_
        refine z_iconst dX7_text_69 ?_
        refine z_isub dX7_text_70 ?_
        exact s_iretZ dX7_text_71 rfl (show tqM b n tx σ A F T (txE (tkA b n) (nuA b n) 301 0 []) _ _ by
          first
          | (exfalso; omega)
          | (have q1 : (txE (tkA b n) (nuA b n) 301 0 []).1 = 0 := by omega
             unfold tqM
             rw [if_pos q1, if_pos q1, if_pos q1]
             obtain ⟨D1, hI⟩ := ok2 q1
             exact ⟨by first | rfl | (congr 3; omega), w2, T2, P2, _, rfl, rfl, rfl, rfl, ld2.2.2.2.2.1, ld2.2.2.2.2.2.1, (by intro j hj; refine (va_up_ne _ _ (by omega)).trans ((va_up_ne _ _ (by omega)).trans ((va_up_ne _ _ (by omega)).trans (kC2 j (by omega) (by omega) (by omega) (by omega) (by omega) (by omega) (by omega) (by omega) (by omega) (by omega) (by omega))))), S2, fun _ => ⟨D1, hI.2.2.2.2.1, hI.2.2.2.2.2.1, hI.2.2.2.2.2.2.1, by have := hI.2.2.2.2.2.2.2.2.1; omega, hI.2.2.2.2.2.2.2.2.2⟩⟩))
      · refine z_iconst dX7_text_51 ?_
        exact s_iretZ dX7_text_52 rfl (show tqM b n tx σ A F T (txE (tkA b n) (nuA b n) 301 0 []) _ _ by
          first
          | (exfalso; omega)
          | (have q1 : ¬ (txE (tkA b n) (nuA b n) 301 0 []).1 = 0 := by omega
             unfold tqM
             rw [if_neg q1, if_neg q1, if_neg q1]
             exact ⟨rfl, w2, T2, P2, _, rfl, rfl, rfl, ld2.2.2.1, ld2.2.2.2.2.1, ld2.2.2.2.2.2.1, (by intro j hj; refine (va_up_ne _ _ (by omega)).trans ((va_up_ne _ _ (by omega)).trans ((va_up_ne _ _ (by omega)).trans (kC2 j (by omega) (by omega) (by omega) (by omega) (by omega) (by omega) (by omega) (by omega) (by omega) (by omega) (by omega))))), S2, fun z => absurd z q1⟩))
    · refine z_iconst dX7_text_28 ?_
      refine q_goto (tgt := 36) dX7_text_29 (by decide) ?_
      refine mp (kf := 6) dX7_text_36 flX7_26 (by decide) ?_
      refine q_aload_n dX7_text_39 rfl rfl ?_
      refine z_iconst dX7_text_40 ?_
      refine mp (kf := 4) dX7_text_41 flX7_74 (by decide) ?_
      refine q_aload_n dX7_text_44 rfl rfl ?_
      refine sg7 (kf := 5) (v := .int (iZ ((txE (tkA b n) (nuA b n) 301 0 []).1))) dX7_text_45 flX7_22 (show kd 384 = 7 from rfl) (by decide) rfl ?_
      refine z_if_eq (tgt := 53) dX7_text_48 (by decide) (by unfold inR; omega) (fun c_4 => ?_) (fun c_4 => ?_)
      · refine q_aload_n dX7_text_53 rfl rfl ?_
        refine sg7 (kf := 0) (v := .ref 385) dX7_text_54 flX7_7 (show kd 384 = 7 from rfl) (by decide) rfl ?_
        refine z_iconst dX7_text_57 ?_
        refine q_dup2 dX7_text_58 rfl rfl ?_
        refine s_iald (n := 1583) (x := (tx : Int)) dX7_text_59 (show kd 385 = 100 + 1583 from rfl) (by omega) (by omega) (by decide) (by exact hA1) ?_
        refine z_iconst dX7_text_60 ?_
        refine z_iadd dX7_text_61 ?_
        refine ma_st dX7_text_62 (by omega) (by omega) ?_
        refine q_aload_n dX7_text_63 rfl rfl ?_
        refine sg7 (kf := 0) (v := .ref 385) dX7_text_64 flX7_7 (show kd 384 = 7 from rfl) (by decide) rfl ?_
        refine z_iconst dX7_text_67 ?_
        refine s_iald (n := 1583) (x := (tx : Int) + 1) dX7_text_68 (show kd 385 = 100 + 1583 from rfl) (by omega) (by omega) (by decide) rfl ?_
        refine z_iconst dX7_text_69 ?_
        refine z_isub dX7_text_70 ?_
        exact s_iretZ dX7_text_71 rfl (show tqM b n tx σ A F T (txE (tkA b n) (nuA b n) 301 0 []) _ _ by
          first
          | (exfalso; omega)
          | (have q1 : (txE (tkA b n) (nuA b n) 301 0 []).1 = 0 := by omega
             unfold tqM
             rw [if_pos q1, if_pos q1, if_pos q1]
             obtain ⟨D1, hI⟩ := ok2 q1
             exact ⟨by first | rfl | (congr 3; omega), w2, T2, P2, _, rfl, rfl, rfl, rfl, ld2.2.2.2.2.1, ld2.2.2.2.2.2.1, (by intro j hj; refine (va_up_ne _ _ (by omega)).trans ((va_up_ne _ _ (by omega)).trans ((va_up_ne _ _ (by omega)).trans (kC2 j (by omega) (by omega) (by omega) (by omega) (by omega) (by omega) (by omega) (by omega) (by omega) (by omega) (by omega))))), S2, fun _ => ⟨D1, hI.2.2.2.2.1, hI.2.2.2.2.2.1, hI.2.2.2.2.2.2.1, by have := hI.2.2.2.2.2.2.2.2.1; omega, hI.2.2.2.2.2.2.2.2.2⟩⟩))
      · refine z_iconst dX7_text_51 ?_
        exact s_iretZ dX7_text_52 rfl (show tqM b n tx σ A F T (txE (tkA b n) (nuA b n) 301 0 []) _ _ by
          first
          | (exfalso; omega)
          | (have q1 : ¬ (txE (tkA b n) (nuA b n) 301 0 []).1 = 0 := by omega
             unfold tqM
             rw [if_neg q1, if_neg q1, if_neg q1]
             exact ⟨rfl, w2, T2, P2, _, rfl, rfl, rfl, ld2.2.2.1, ld2.2.2.2.2.1, ld2.2.2.2.2.2.1, (by intro j hj; refine (va_up_ne _ _ (by omega)).trans ((va_up_ne _ _ (by omega)).trans ((va_up_ne _ _ (by omega)).trans (kC2 j (by omega) (by omega) (by omega) (by omega) (by omega) (by omega) (by omega) (by omega) (by omega) (by omega) (by omega))))), S2, fun z => absurd z q1⟩))
  · exfalso
    omega
set_option maxHeartbeats 4000000 in
set_option maxRecDepth 100000 in
theorem m_text0 {d : Nat} (σ : gS) (A F : Nat → Int) (h1 : A 1 = 4) : sC mX7_text d [.ref 384] (ms σ A F) (fun r σ' => r = some (.int (iZ (-1))) ∧ σ' = ms σ A F) := by
  refine sC_of rfl (Nat.le_of_ble_eq_true rfl) ?_
  show sE g_tt _ _ _ 0 [some (.ref 384)] [] (ms σ A F)
  refine q_aload_n dX7_text_0 rfl rfl ?_
  refine sg7 (kf := 0) (v := .ref 385) dX7_text_1 flX7_7 (show kd 384 = 7 from rfl) (by decide) rfl ?_
  refine z_iconst dX7_text_4 ?_
  refine s_iald (n := 1583) (x := 4) dX7_text_5 (show kd 385 = 100 + 1583 from rfl) (by omega) (by omega) (by decide) (by exact h1) ?_
  refine z_iconst dX7_text_6 ?_
  refine z_icmp_ne (tgt := 12) dX7_text_7 (by decide) (by unfold inR; decide) (by unfold inR; decide) (fun c_1 => ?_) (fun c_1 => ?_)
  · exfalso
    revert c_1
    decide
  · refine z_iconst dX7_text_10 ?_
    exact s_iretZ dX7_text_11 rfl ⟨rfl, rfl⟩
