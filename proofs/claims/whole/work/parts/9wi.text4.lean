/-! ===== the model's text: readText, text ===== -/
theorem m_clause {d : Nat} (hd : 12 ≤ d) (σ : gS) (A F T Pf : Nat → Int) {w0 : Int} {b : Nat → Int} {n k tx : Nat} {cs : List Nat} {D : List (Int × Int)} (hI : mTI b n tx T F w0 k cs D) (hn3 : n ≤ 300) (hb : σ.2.1 388 = b) (hb8 : ∀ i, i < n → 0 ≤ b i ∧ b i < 256) (htx : tx < 4) {nT : Nat} (hnT : nT ≤ 300) (h39 : tkA b n nT = 39) (hk : k < nT) (h9 : tkA b n k ≠ 39) : sC mX7_clause d [.ref 384] (ms (pt σ T Pf w0) A F) (cqM b n tx σ A F T k cs) := by
  have t4 := hI.1.2.2.2.2.2.2.1
  by_cases q : 7 < tkA b n k
  · exact m_clauseM hd σ A F T Pf hI hn3 hb hb8 htx hnT h39 hk q
  · exact m_clauseS (s := (tkA b n k).toNat) hd σ A F T Pf hI hn3 hb hb8 htx hnT h39 hk (by omega) (by omega)
theorem kpC_tr {F G H : Nat → Int} (h : kpC F G) (h2 : kpC G H) : kpC F H := fun j a b c e f g i l m o p => (h2 j a b c e f g i l m o p).trans (h j a b c e f g i l m o p)
theorem kpS_tr {tx : Nat} {T U V : Nat → Int} (h : kpS tx T U) (h2 : kpS tx U V) : kpS tx T V := ⟨fun i q => (h2.1 i q).trans (h.1 i q), h2.2⟩
/-- behind readText; q: fault, token, clauses -/
def rtQ (b : Nat → Int) (n tx : Nat) (σ : gS) (A F T : Nat → Int) (q : Int × Nat × List Nat) (r : Option Value) (σ' : gS) : Prop := r = some (.int (iZ q.1)) ∧ ∃ w1 T1 P1 F1, σ' = ms (pt σ T1 P1 w1) A F1 ∧ ldR b n F1 w1 q.2.1 ∧ kpC F F1 ∧ kpS tx T T1 ∧ (q.1 = 0 → ∃ D1, mTI b n tx T1 F1 w1 q.2.1 q.2.2 D1)
set_option maxHeartbeats 4000000 in
set_option maxRecDepth 100000 in
theorem lp_readText {d : Nat} (hd : 13 ≤ d) (σ : gS) (A F0 T0 : Nat → Int) {b : Nat → Int} {n tx : Nat} (hn3 : n ≤ 300) (hb : σ.2.1 388 = b) (hb8 : ∀ i, i < n → 0 ≤ b i ∧ b i < 256) (htx : tx < 4) {nT : Nat} (hnT : nT ≤ 300) (h39 : tkA b n nT = 39) : ∀ (f k : Nat) (cs : List Nat) (D : List (Int × Int)) (T Pf F : Nat → Int) (w0 : Int) (l1 : Option Value), mTI b n tx T F w0 k cs D → k ≤ nT → nT - k < f → kpC F0 F → kpS tx T0 T → sE g_tt mX7_readText d (rtQ b n tx σ A F0 T0 (txE (tkA b n) (nuA b n) f k cs)) 43 [some (.ref 384), l1] [] (ms (pt σ T Pf w0) A F) := by
  intro f
  induction f with
  | zero => intro k cs D T Pf F w0 l1 hI hk hf; exact absurd hf (by omega)
  | succ f ih =>
    intro k cs D T Pf F w0 l1 hI hk hf kC kS
    have t9 := hI.1.2.2.2.2.2.2.2.1
    refine q_aload_n dX7_readText_43 rfl rfl ?_
    refine sg7 (kf := 9) (v := .int (iZ (F 9))) dX7_readText_44 flX7_91 (show kd 384 = 7 from rfl) (by decide) rfl ?_
    refine z_if_eq (tgt := 64) dX7_readText_47 (by decide) (by have := hI.1.2.2.2.1; unfold inR; omega) (fun c_0 => ?_) (fun c_0 => ?_)
    · have h9 := t9.1 c_0
      refine z_iconst dX7_readText_64 ?_
      exact s_iretZ dX7_readText_65 rfl (show rtQ b n tx σ A F0 T0 (txE (tkA b n) (nuA b n) (f + 1) k cs) _ _ by
        have e : (txE (tkA b n) (nuA b n) (f + 1) k cs) = (0, k, cs) := by rw [txE, if_pos (by assumption)]
        rw [e]
        exact ⟨rfl, w0, T, Pf, F, rfl, hI.1, kC, kS, fun _ => ⟨D, hI⟩⟩)
    · have h9 : tkA b n k ≠ 39 := fun z => c_0 (t9.2 z)
      have hlt : k < nT := by
        rcases Nat.lt_or_ge k nT with z | z
        · exact z
        · exact absurd (by rw [show k = nT by omega]; exact h39) h9
      have one := one_ok (tk := tkA b n) (nu := nuA b n) hnT h39 (fun j => (nuA_ran b n j).1) hlt cs
      refine q_aload_n dX7_readText_50 rfl rfl ?_
      refine s_callV (ci := 7) (a := 384) (As := []) (S := []) dX7_readText_51 okX7_clause mlX7_236 rfl (by omega) rfl (Nat.le_of_ble_eq_true rfl) (show kd 384 = 7 from rfl) (by decide) rfl (m_clause (d := d - 1) (by omega) σ A F T Pf hI hn3 hb hb8 htx hnT h39 hlt h9) (fun v_ σ_ hq => ?_)
      obtain ⟨rfl, w2, T2, P2, F2, e9, ld2, kC2, S2, ok2⟩ := hq
      subst e9
      show sE g_tt _ _ _ 54 [some (.ref 384), l1] [.int (iZ ((oneE (tkA b n) (nuA b n) k cs).1))] (ms (pt σ T2 P2 w2) A F2)
      refine q_istore_n dX7_readText_54 rfl (by decide) ?_
      show sE g_tt _ _ _ 55 [some (.ref 384), some (.int (iZ ((oneE (tkA b n) (nuA b n) k cs).1)))] [] (ms (pt σ T2 P2 w2) A F2)
      refine q_iload_n dX7_readText_55 rfl rfl ?_
      refine z_if_eq (tgt := 61) dX7_readText_56 (by decide) (by unfold inR; omega) (fun c_1 => ?_) (fun c_1 => ?_)
      · refine q_goto (tgt := 43) dX7_readText_61 (by decide) ?_
        have e : (txE (tkA b n) (nuA b n) (f + 1) k cs) = txE (tkA b n) (nuA b n) f (oneE (tkA b n) (nuA b n) k cs).2 (k :: cs) := by rw [txE, if_neg h9, if_pos (by assumption)]
        obtain ⟨D1, hI2⟩ := ok2 (by assumption)
        rw [e]
        exact ih (oneE (tkA b n) (nuA b n) k cs).2 (k :: cs) D1 T2 P2 F2 w2 _ hI2 one.2.1 (by have := one.2.2.2 (by assumption); omega) (kpC_tr kC kC2) (kpS_tr kS S2)
      · refine q_iload_n dX7_readText_59 rfl rfl ?_
        exact s_iretZ dX7_readText_60 rfl (show rtQ b n tx σ A F0 T0 (txE (tkA b n) (nuA b n) (f + 1) k cs) _ _ by
          have e : (txE (tkA b n) (nuA b n) (f + 1) k cs) = ((oneE (tkA b n) (nuA b n) k cs).1, (oneE (tkA b n) (nuA b n) k cs).2, cs) := by rw [txE, if_neg h9, if_neg (by assumption)]
          rw [e]
          exact ⟨rfl, w2, T2, P2, F2, rfl, ld2, kpC_tr kC kC2, kpS_tr kS S2, fun z => absurd z (by assumption)⟩)
set_option maxHeartbeats 4000000 in
set_option maxRecDepth 100000 in
theorem m_readText {d : Nat} (hd : 13 ≤ d) (σ : gS) (A F T Pf : Nat → Int) {w0 : Int} {b : Nat → Int} {n tx : Nat} (hn3 : n ≤ 300) (hb : σ.2.1 388 = b) (hb8 : ∀ i, i < n → 0 ≤ b i ∧ b i < 256) (htx : tx < 4) (hA1 : A 1 = (tx : Int)) (h4 : F 4 = (n : Int)) (h10 : 0 ≤ F 10 ∧ F 10 ≤ 1000000) (hw0 : 0 ≤ w0 ∧ w0 ≤ 1152921504606846976) (h73 : ∀ i, i < 73 → inR (T (681 * tx + i))) {nT : Nat} (hnT : nT ≤ 300) (h39 : tkA b n nT = 39) : sC mX7_readText d [.ref 384] (ms (pt σ T Pf w0) A F) (rtQ b n tx σ A F T (txE (tkA b n) (nuA b n) 301 0 [])) := by
  have kS0 : kpS tx T (va_up T (681 * tx) 0) := kpS_0 ⟨fun _ _ => rfl, h73⟩ (by omega)
  refine sC_of rfl (Nat.le_of_ble_eq_true rfl) ?_
  show sE g_tt _ _ _ 0 [some (.ref 384), none] [] (ms (pt σ T Pf w0) A F)
  refine q_aload_n dX7_readText_0 rfl rfl ?_
  refine z_sipush dX7_readText_1 (by decide +kernel) ?_
  refine q_aload_n dX7_readText_4 rfl rfl ?_
  refine sg7 (kf := 0) (v := .ref 385) dX7_readText_5 flX7_7 (show kd 384 = 7 from rfl) (by decide) rfl ?_
  refine z_iconst dX7_readText_8 ?_
  refine s_iald (n := 1583) (x := (tx : Int)) dX7_readText_9 (show kd 385 = 100 + 1583 from rfl) (by omega) (by omega) (by decide) hA1 ?_
  refine z_imul dX7_readText_10 ?_
  refine mp (kf := 12) dX7_readText_11 flX7_129 (by decide) ?_
  refine q_aload_n dX7_readText_14 rfl rfl ?_
  refine sg7 (kf := 2) (v := .ref 387) dX7_readText_15 flX7_16 (show kd 384 = 7 from rfl) (by decide) rfl ?_
  refine q_aload_n dX7_readText_18 rfl rfl ?_
  refine sg7 (kf := 12) (v := .int (iZ (681 * (tx : Int)))) dX7_readText_19 flX7_129 (show kd 384 = 7 from rfl) (by decide) rfl ?_
  refine z_iconst dX7_readText_22 ?_
  refine pt_st387 (k := (681 * tx)) dX7_readText_23 (by omega) (by omega) (by omega) ?_
  refine q_aload_n dX7_readText_24 rfl rfl ?_
  refine z_iconst dX7_readText_25 ?_
  refine mp (kf := 13) dX7_readText_26 flX7_132 (by decide) ?_
  refine q_aload_n dX7_readText_29 rfl rfl ?_
  refine z_iconst dX7_readText_30 ?_
  refine mp (kf := 19) dX7_readText_31 flX7_225 (by decide) ?_
  refine q_aload_n dX7_readText_34 rfl rfl ?_
  refine z_iconst dX7_readText_35 ?_
  refine mp (kf := 7) dX7_readText_36 flX7_81 (by decide) ?_
  refine q_aload_n dX7_readText_39 rfl rfl ?_
  refine s_callV (ci := 7) (a := 384) (As := []) (S := []) dX7_readText_40 okX7_nextToken mlX7_162 rfl (by omega) rfl (Nat.le_of_ble_eq_true rfl) (show kd 384 = 7 from rfl) (by decide) rfl (m_nextToken (d := d - 1) (p := 0) (w0 := w0) (by omega) (sRw (sRw σ 387 (va_up T (681 * tx) 0)) 389 Pf) A (va_up (va_up (va_up (va_up F 12 (681 * (tx : Int))) 13 0) 19 0) 7 0) h4 hn3 hb hb8 (Nat.zero_le _) rfl h10 hw0) (fun v_ σ_ hq => ?_)
  obtain ⟨rfl, w1, F9, e9, f7, f8, ft, kp9⟩ := hq
  subst e9
  show sE g_tt _ _ _ 43 [some (.ref 384), none] [] (ms (pt σ (va_up T (681 * tx) 0) Pf w1) A F9)
  exact lp_readText hd σ A F T hn3 hb hb8 htx hnT h39 301 0 [] [] _ Pf F9 w1 _ ⟨⟨(kp9 4 (by decide) (by decide) (by decide) (by decide)).trans h4, f7, f8, ft⟩, (kp9 12 (by decide) (by decide) (by decide) (by decide)).trans (show (681 * (tx : Int)) = ((681 * tx : Nat) : Int) by omega), kp9 13 (by decide) (by decide) (by decide) (by decide), kp9 19 (by decide) (by decide) (by decide) (by decide), va_up_self _ _ _, trivial, trivial, kS0.2, Nat.le_refl _, by decide⟩ (Nat.zero_le _) (by omega) (kpC_T (kpC_up (kpC_up (kpC_up (kpC_up (kpC_rf F) (Or.inl rfl) _) (Or.inr (Or.inl rfl)) _) (Or.inr (Or.inr (Or.inr (Or.inl rfl)))) _) (Or.inr (Or.inr (Or.inr (Or.inr rfl)))) _) kp9) kS0
