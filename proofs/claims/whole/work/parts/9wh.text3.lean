/-! ===== the model's text: clause ===== -/
def onN (tk : Nat → Int) (cs : List Nat) : Nat := (if lwK tk 0 cs = 0 then 0 else 1) + (if lwK tk 1 cs = 0 then 0 else 2)
theorem on_bit (tk : Nat → Int) (cs : List Nat) {s : Nat} (hs : s ≤ 1) : (onN tk cs).testBit s = true ↔ lwK tk (s : Int) cs ≠ 0 := by
  unfold onN
  rcases (by omega : s = 0 ∨ s = 1) with e | e <;> subst e
  · by_cases q : lwK tk 0 cs = 0 <;> by_cases q2 : lwK tk 1 cs = 0 <;> simp [q, q2]
  · by_cases q : lwK tk 0 cs = 0 <;> by_cases q2 : lwK tk 1 cs = 0 <;> simp [q, q2] <;> decide
theorem on_le (tk : Nat → Int) (cs : List Nat) : onN tk cs ≤ 3 := by
  unfold onN
  split <;> split <;> omega
theorem on_up {tk : Nat → Int} {cs : List Nat} {k s : Nat} (hs : s ≤ 1) (ht : tk k = (s : Int)) (h : lwK tk (s : Int) cs = 0) : onN tk (k :: cs) = onN tk cs ||| 2 ^ s := by
  unfold onN
  rcases (by omega : s = 0 ∨ s = 1) with e | e <;> subst e
  · have e1 : lwK tk 0 (k :: cs) = k + 1 := by rw [lwK]; exact if_pos ht
    have e2 : lwK tk 1 (k :: cs) = lwK tk 1 cs := by rw [lwK, if_neg (by omega)]
    have h : lwK tk 0 cs = 0 := h
    rw [e1, e2, h]
    by_cases q2 : lwK tk 1 cs = 0 <;> simp [q2]
  · have e1 : lwK tk 1 (k :: cs) = k + 1 := by rw [lwK]; exact if_pos ht
    have e2 : lwK tk 0 (k :: cs) = lwK tk 0 cs := by rw [lwK, if_neg (by omega)]
    have h : lwK tk 1 cs = 0 := h
    rw [e1, e2, h]
    by_cases q2 : lwK tk 0 cs = 0 <;> simp [q2]
theorem on_no {tk : Nat → Int} {cs : List Nat} {k : Nat} (ht : 1 < tk k) : onN tk (k :: cs) = onN tk cs := by
  unfold onN
  have e1 : lwK tk 0 (k :: cs) = lwK tk 0 cs := by rw [lwK]; exact if_neg (by omega)
  have e2 : lwK tk 1 (k :: cs) = lwK tk 1 cs := by rw [lwK]; exact if_neg (by omega)
  rw [e1, e2]
/-- between clauses; cs: where those read begin (the last first), D: the code -/
def mTI (b : Nat → Int) (n tx : Nat) (T F : Nat → Int) (w : Int) (k : Nat) (cs : List Nat) (D : List (Int × Int)) : Prop := ldR b n F w k ∧ F 12 = ((681 * tx : Nat) : Int) ∧ F 13 = ((D.length : Nat) : Int) ∧ F 19 = ((onN (tkA b n) cs : Nat) : Int) ∧ T (681 * tx) = ((cs.length : Nat) : Int) ∧ dR T (681 * tx + 73) D ∧ clsM (tkA b n) (nuA b n) T D tx cs ∧ (∀ i, i < 73 → inR (T (681 * tx + i))) ∧ D.length ≤ k ∧ cs.length ≤ 24
def kpC (F F1 : Nat → Int) : Prop := ∀ j, j ≠ 7 → j ≠ 8 → j ≠ 9 → j ≠ 10 → j ≠ 12 → j ≠ 13 → j ≠ 14 → j ≠ 16 → j ≠ 17 → j ≠ 18 → j ≠ 19 → F1 j = F j
theorem kpC_rf (F : Nat → Int) : kpC F F := fun _ _ _ _ _ _ _ _ _ _ _ _ => rfl
theorem kpC_M {F F1 F2 : Nat → Int} (h : kpC F F1) (h2 : kpM F1 F2) : kpC F F2 := fun j a b c e _ g _ i l m _ => (h2 j a b c e g i l m).trans (h j a b c e (by assumption) g (by assumption) i l m (by assumption))
theorem kpC_T {F F1 F2 : Nat → Int} (h : kpC F F1) (h2 : kpT F1 F2) : kpC F F2 := kpC_M h (kpM_T h2)
theorem kpC_up {F F1 : Nat → Int} (h : kpC F F1) {i : Nat} (hi : i = 12 ∨ i = 13 ∨ i = 14 ∨ i = 19 ∨ i = 7) (v : Int) : kpC F (va_up F1 i v) := fun j a b c e f g i l m o p => by rw [va_up_ne _ _ (by omega)]; exact h j a b c e f g i l m o p
def kpS (tx : Nat) (T T1 : Nat → Int) : Prop := (∀ i, i < 681 * tx ∨ 681 * tx + 681 ≤ i → T1 i = T i) ∧ ∀ i, i < 73 → inR (T1 (681 * tx + i))
/-- behind a clause -/
def cqM (b : Nat → Int) (n tx : Nat) (σ : gS) (A F T : Nat → Int) (k : Nat) (cs : List Nat) (r : Option Value) (σ' : gS) : Prop := r = some (.int (iZ (oneE (tkA b n) (nuA b n) k cs).1)) ∧ ∃ w1 T1 P1 F1, σ' = ms (pt σ T1 P1 w1) A F1 ∧ ldR b n F1 w1 (oneE (tkA b n) (nuA b n) k cs).2 ∧ kpC F F1 ∧ kpS tx T T1 ∧ ((oneE (tkA b n) (nuA b n) k cs).1 = 0 → ∃ D1, mTI b n tx T1 F1 w1 (oneE (tkA b n) (nuA b n) k cs).2 (k :: cs) D1)
theorem m_sortS {d : Nat} (hd : 7 ≤ d) (σ : gS) (A F T Pf : Nat → Int) {w0 : Int} {b : Nat → Int} {n k s : Nat} (hR : ldR b n F w0 k) (hs : tkA b n k = (s : Int)) (hs7 : s ≤ 7) : sC mX7_sortOf d [.ref 384] (ms (pt σ T Pf w0) A F) (fun r σ' => r = some (.int (iZ (s : Int))) ∧ σ' = (ms (pt σ T Pf w0) A F)) := by
  refine sC_imp ?_ (m_sortOf hd σ A F T Pf hR)
  rintro v σ' ⟨h1, h2⟩
  refine ⟨?_, h2⟩
  rw [h1]
  unfold srI
  rw [hs, if_pos (by omega)]
theorem m_sortM {d : Nat} (hd : 7 ≤ d) (σ : gS) (A F T Pf : Nat → Int) {w0 : Int} {b : Nat → Int} {n k : Nat} (hR : ldR b n F w0 k) (hs : 7 < tkA b n k) : sC mX7_sortOf d [.ref 384] (ms (pt σ T Pf w0) A F) (fun r σ' => r = some (.int (iZ (-1))) ∧ σ' = (ms (pt σ T Pf w0) A F)) := by
  refine sC_imp ?_ (m_sortOf hd σ A F T Pf hR)
  rintro v σ' ⟨h1, h2⟩
  refine ⟨?_, h2⟩
  rw [h1]
  unfold srI
  rw [if_neg (by omega)]
theorem tok_59 {f9 f10 wd t v : Int} (h : tokR f9 f10 wd t v) : f9 = 59 ↔ t = 35 := h.2.2.2.2.2.2.2.2.2.2.2.2.2.2.2.2.2.2.2.2.2
theorem kpS_0 {tx : Nat} {T T1 : Nat → Int} (h : kpS tx T T1) {v : Int} (hv : 0 ≤ v ∧ v ≤ 100) : kpS tx T (va_up T1 (681 * tx) v) := ⟨fun i q => (va_up_ne _ _ (by omega)).trans (h.1 i q), fun i q => by
  by_cases e : i = 0
  · subst e; rw [Nat.add_zero, va_up_self]; unfold inR; omega
  · rw [va_up_ne _ _ (by omega)]; exact h.2 i q⟩
set_option maxHeartbeats 4000000 in
set_option maxRecDepth 100000 in
theorem tl_clause {d : Nat} (hd : 12 ≤ d) (σ : gS) (A F0 F T Pf : Nat → Int) {w0 : Int} {b : Nat → Int} {n k tx s : Nat} {cs : List Nat} {D : List (Int × Int)} (hR : ldR b n F w0 k) (hn3 : n ≤ 300) (hb : σ.2.1 388 = b) (hb8 : ∀ i, i < n → 0 ≤ b i ∧ b i < 256) (h12 : F 12 = ((681 * tx : Nat) : Int)) (h13 : F 13 = ((D.length : Nat) : Int)) (h19 : F 19 = ((onN (tkA b n) (k :: cs) : Nat) : Int)) (hN : T (681 * tx) = ((cs.length : Nat) : Int)) (hD : dR T (681 * tx + 73) D) (hcl : clsM (tkA b n) (nuA b n) T D tx cs) (h73 : ∀ i, i < 73 → inR (T (681 * tx + i))) (htx : tx < 4) {nT : Nat} (hnT : nT ≤ 300) (h39 : tkA b n nT = 39) (hk : k < nT) (hDl : D.length ≤ k) (hs : tkA b n k = (s : Int)) (hs7 : s ≤ 7) (h24 : cs.length < 24) (hone : (oneE (tkA b n) (nuA b n) k cs) = clE (tkA b n) (nuA b n) (s : Int) (k + 1)) (kC : kpC F0 F) : sE g_tt mX7_clause d (cqM b n tx σ A F0 T k cs) 65 [some (.ref 384), some (.int (iZ (s : Int))), some (.int (iZ ((cs.length : Nat) : Int))), none, none] [] (ms (pt σ T Pf w0) A F) := by
  refine q_aload_n dX7_clause_65 rfl rfl ?_
  refine q_iload_n dX7_clause_66 rfl rfl ?_
  refine mp (kf := 14) dX7_clause_67 flX7_139 (by decide) ?_
  refine q_aload_n dX7_clause_70 rfl rfl ?_
  refine s_callV (ci := 7) (a := 384) (As := []) (S := []) dX7_clause_71 okX7_nextToken mlX7_162 rfl (by omega) rfl (Nat.le_of_ble_eq_true rfl) (show kd 384 = 7 from rfl) (by decide) rfl (m_nxt (d := d - 1) (by omega) σ A (va_up F 14 (s : Int)) T Pf hn3 hb hb8 hR) (fun v_ σ_ hq => ?_)
  obtain ⟨rfl, w1, F9, e9, ld9, kp9⟩ := hq
  subst e9
  have g12 := (kp9 12 (by decide) (by decide) (by decide) (by decide)).trans h12
  have g13 := (kp9 13 (by decide) (by decide) (by decide) (by decide)).trans h13
  have g14 : F9 14 = (s : Int) := kp9 14 (by decide) (by decide) (by decide) (by decide)
  have g19 := (kp9 19 (by decide) (by decide) (by decide) (by decide)).trans h19
  show sE g_tt _ _ _ 74 [some (.ref 384), some (.int (iZ (s : Int))), some (.int (iZ ((cs.length : Nat) : Int))), none, none] [] (ms (pt σ T Pf w1) A F9)
  refine q_aload_n dX7_clause_74 rfl rfl ?_
  refine sg7 (kf := 12) (v := .int (iZ ((681 * tx : Nat) : Int))) dX7_clause_75 flX7_129 (show kd 384 = 7 from rfl) (by decide) (by show some (Value.int (iZ (F9 12))) = _; rw [g12]) ?_
  refine z_iconst dX7_clause_78 ?_
  refine z_iadd dX7_clause_79 ?_
  refine z_iconst dX7_clause_80 ?_
  refine q_iload_n dX7_clause_81 rfl rfl ?_
  refine z_imul dX7_clause_82 ?_
  refine z_iadd dX7_clause_83 ?_
  refine q_istore_n dX7_clause_84 rfl (by decide) ?_
  show sE g_tt _ _ _ 85 [some (.ref 384), some (.int (iZ (s : Int))), some (.int (iZ ((cs.length : Nat) : Int))), some (.int (iZ ((((681 * tx : Nat) : Int) + 1) + (3 * ((cs.length : Nat) : Int))))), none] [] (ms (pt σ T Pf w1) A F9)
  refine q_aload_n dX7_clause_85 rfl rfl ?_
  refine sg7 (kf := 2) (v := .ref 387) dX7_clause_86 flX7_16 (show kd 384 = 7 from rfl) (by decide) rfl ?_
  refine q_iload_n dX7_clause_89 rfl rfl ?_
  refine q_iload_n dX7_clause_90 rfl rfl ?_
  refine pt_st387 (k := (681 * tx + 1 + 3 * cs.length)) dX7_clause_91 (by omega) (by omega) (by omega) ?_
  refine q_aload_n dX7_clause_92 rfl rfl ?_
  refine q_iload_n dX7_clause_93 rfl rfl ?_
  refine q_iload_n dX7_clause_94 rfl rfl ?_
  refine s_callV (ci := 7) (a := 384) (As := [.int (iZ (s : Int)), .int (iZ ((((681 * tx : Nat) : Int) + 1) + (3 * ((cs.length : Nat) : Int))))]) (S := []) dX7_clause_95 okX7_body mlX7_232 rfl (by omega) rfl (Nat.le_of_ble_eq_true rfl) (show kd 384 = 7 from rfl) (by decide) rfl (m_body (d := d - 1) (x := (681 * tx + 1 + 3 * cs.length)) (a := (s : Int)) (D := D) (by omega) σ A F9 (va_up T (681 * tx + 1 + 3 * cs.length) (s : Int)) Pf ld9 hn3 hb hb8 g12 g13 (dR_up _ hD (Or.inl (by omega))) htx g14 (by omega) hnT h39 hk (by omega) (by omega) (by omega)) (fun v_ σ_ hq => ?_)
  obtain ⟨rfl, w2, T2, P2, F2, e9, ld2, kM2, fr2, in2, ok2⟩ := hq
  subst e9
  have k12 := (kM2 12 (by decide) (by decide) (by decide) (by decide) (by decide) (by decide) (by decide) (by decide)).trans g12
  have kN : T2 (681 * tx) = ((cs.length : Nat) : Int) := (fr2 _ (by omega) (by omega) (Or.inl (by omega))).trans ((va_up_ne _ _ (by omega)).trans hN)
  have brn := (bo_ok (tk := tkA b n) (nu := nuA b n) (a := (s : Int)) hnT h39 (fun j => (nuA_ran b n j).1) (show k + 1 ≤ nT from hk)).1
  have j2 := in2 (by rw [va_up_ne _ _ (by omega), show (681 * tx + 1 + 3 * cs.length) + 1 = 681 * tx + (2 + 3 * cs.length) by omega]; exact h73 _ (by omega)) (by rw [va_up_ne _ _ (by omega), show (681 * tx + 1 + 3 * cs.length) + 2 = 681 * tx + (3 + 3 * cs.length) by omega]; exact h73 _ (by omega))
  have sl2 : ∀ i, i ≠ (681 * tx + 1 + 3 * cs.length) → i ≠ (681 * tx + 1 + 3 * cs.length) + 1 → i ≠ (681 * tx + 1 + 3 * cs.length) + 2 → (i < 681 * tx + 73 ∨ 681 * tx + 681 ≤ i) → T2 i = T i := fun i a0 a1 a2 a3 => (fr2 i a1 a2 a3).trans (va_up_ne _ _ a0)
  have sx2 : T2 (681 * tx + 1 + 3 * cs.length) = (s : Int) := (fr2 _ (by omega) (by omega) (Or.inl (by omega))).trans (va_up_self _ _ _)
  have S2 : kpS tx T T2 := ⟨fun i q => sl2 i (by omega) (by omega) (by omega) (by omega), fun i q => by
      by_cases a0 : 681 * tx + i = (681 * tx + 1 + 3 * cs.length)
      · rw [a0, sx2]; unfold inR; omega
      by_cases a1 : 681 * tx + i = (681 * tx + 1 + 3 * cs.length) + 1
      · rw [a1]; exact j2.1
      by_cases a2 : 681 * tx + i = (681 * tx + 1 + 3 * cs.length) + 2
      · rw [a2]; exact j2.2
      · rw [sl2 _ a0 a1 a2 (Or.inl (by omega))]; exact h73 i q⟩
  have kC2 : kpC F0 F2 := kpC_M (kpC_T (kpC_up kC (Or.inr (Or.inr (Or.inl rfl))) (s : Int)) kp9) kM2
  clear fr2 in2
  show sE g_tt _ _ _ 98 [some (.ref 384), some (.int (iZ (s : Int))), some (.int (iZ ((cs.length : Nat) : Int))), some (.int (iZ ((((681 * tx : Nat) : Int) + 1) + (3 * ((cs.length : Nat) : Int))))), none] [.int (iZ ((boE (tkA b n) (nuA b n) (s : Int) (k + 1)).1))] (ms (pt σ T2 P2 w2) A F2)
  refine q_istore dX7_clause_98 (by decide) ?_
  show sE g_tt _ _ _ 100 [some (.ref 384), some (.int (iZ (s : Int))), some (.int (iZ ((cs.length : Nat) : Int))), some (.int (iZ ((((681 * tx : Nat) : Int) + 1) + (3 * ((cs.length : Nat) : Int))))), some (.int (iZ ((boE (tkA b n) (nuA b n) (s : Int) (k + 1)).1)))] [] (ms (pt σ T2 P2 w2) A F2)
  refine q_iload dX7_clause_100 rfl ?_
  refine z_if_eq (tgt := 108) dX7_clause_102 (by decide) (by unfold inR; omega) (fun c_1 => ?_) (fun c_1 => ?_)
  · refine q_aload_n dX7_clause_108 rfl rfl ?_
    refine sg7 (kf := 2) (v := .ref 387) dX7_clause_109 flX7_16 (show kd 384 = 7 from rfl) (by decide) rfl ?_
    refine q_aload_n dX7_clause_112 rfl rfl ?_
    refine sg7 (kf := 12) (v := .int (iZ ((681 * tx : Nat) : Int))) dX7_clause_113 flX7_129 (show kd 384 = 7 from rfl) (by decide) (by show some (Value.int (iZ (F2 12))) = _; rw [k12]) ?_
    refine q_dup2 dX7_clause_116 rfl rfl ?_
    refine s_iald (n := 2724) (x := ((cs.length : Nat) : Int)) dX7_clause_117 (show kd 387 = 100 + 2724 from rfl) (by omega) (by omega) (by decide) (kN) ?_
    refine z_iconst dX7_clause_118 ?_
    refine z_iadd dX7_clause_119 ?_
    refine pt_st387 (k := (681 * tx)) dX7_clause_120 (by omega) (by omega) (by omega) ?_
    refine q_aload_n dX7_clause_121 rfl rfl ?_
    refine sg7 (kf := 9) (v := .int (iZ (F2 9))) dX7_clause_122 flX7_91 (show kd 384 = 7 from rfl) (by decide) rfl ?_
    refine z_bipush dX7_clause_125 (by decide +kernel) ?_
    refine z_icmp_eq (tgt := 132) dX7_clause_127 (by decide) (by have := ld2.2.2.2.1; unfold inR; omega) (by unfold inR; omega) (fun c_2 => ?_) (fun c_2 => ?_)
    · refine q_aload_n dX7_clause_132 rfl rfl ?_
      refine s_callV (ci := 7) (a := 384) (As := []) (S := []) dX7_clause_133 okX7_nextToken mlX7_162 rfl (by omega) rfl (Nat.le_of_ble_eq_true rfl) (show kd 384 = 7 from rfl) (by decide) rfl (m_nxt (d := d - 1) (by omega) σ A F2 (va_up T2 (681 * tx) (((cs.length : Nat) : Int) + 1)) P2 hn3 hb hb8 ld2) (fun v_ σ_ hq => ?_)
      obtain ⟨rfl, w3, F3, e9, ld3, kp3⟩ := hq
      subst e9
      show sE g_tt _ _ _ 136 [some (.ref 384), some (.int (iZ (s : Int))), some (.int (iZ ((cs.length : Nat) : Int))), some (.int (iZ ((((681 * tx : Nat) : Int) + 1) + (3 * ((cs.length : Nat) : Int))))), some (.int (iZ ((boE (tkA b n) (nuA b n) (s : Int) (k + 1)).1)))] [] (ms (pt σ (va_up T2 (681 * tx) (((cs.length : Nat) : Int) + 1)) P2 w3) A F3)
      refine z_iconst dX7_clause_136 ?_
      exact s_iretZ dX7_clause_137 rfl (show cqM b n tx σ A F0 T k cs _ _ by
        have q1 : (boE (tkA b n) (nuA b n) (s : Int) (k + 1)).1 = 0 := by assumption
        have q2 := (tok_59 ld2.2.2.2).1 (by assumption)
        have e : (oneE (tkA b n) (nuA b n) k cs) = (0, (boE (tkA b n) (nuA b n) (s : Int) (k + 1)).2 + 1) := by rw [hone]; unfold clE xpE; rw [if_pos q1, if_pos q2]
        unfold cqM
        rw [e]
        obtain ⟨E, a1, a2, a3, a4, a5, a6⟩ := ok2 q1
        refine ⟨rfl, w3, _, P2, F3, rfl, ld3, kpC_T kC2 kp3, kpS_0 S2 (by omega), fun _ => ⟨E ++ D, ld3, (kp3 12 (by decide) (by decide) (by decide) (by decide)).trans k12, (kp3 13 (by decide) (by decide) (by decide) (by decide)).trans a1, (kp3 19 (by decide) (by decide) (by decide) (by decide)).trans ((kM2 19 (by decide) (by decide) (by decide) (by decide) (by decide) (by decide) (by decide) (by decide)).trans g19), va_up_self _ _ _, dR_up _ a2 (Or.inl (by omega)), ⟨⟨?_, ?_, ?_, ?_⟩, ?_⟩, (kpS_0 S2 (by omega)).2, by show (E ++ D).length ≤ (boE (tkA b n) (nuA b n) (s : Int) (k + 1)).2 + 1; rw [List.length_append]; omega, by show cs.length + 1 ≤ 24; omega⟩⟩
        · rw [va_up_ne _ _ (by omega), hs]; exact sx2
        · rw [va_up_ne _ _ (by omega), hs]; exact a4
        · rw [va_up_ne _ _ (by omega), hs]; exact a5
        · rw [va_up_ne _ _ (by omega), va_up_ne _ _ (by omega), hs]; exact fun z => ⟨D.length, (E ++ D).length, (a6 z).1, (a6 z).2.1, [], E, D, rfl, rfl, by rw [List.length_append], (a6 z).2.2⟩
        · exact clsM_up E rfl hcl (fun i a b => (va_up_ne _ _ (by omega)).trans (sl2 i (by omega) (by omega) (by omega) (Or.inl (by omega)))))
    · refine z_iconst dX7_clause_130 ?_
      exact s_iretZ dX7_clause_131 rfl (show cqM b n tx σ A F0 T k cs _ _ by
        have q1 : (boE (tkA b n) (nuA b n) (s : Int) (k + 1)).1 = 0 := by assumption
        have q2 : ¬ tkA b n (boE (tkA b n) (nuA b n) (s : Int) (k + 1)).2 = 35 := fun z => absurd ((tok_59 ld2.2.2.2).2 z) (by assumption)
        have e : (oneE (tkA b n) (nuA b n) k cs) = (1, (boE (tkA b n) (nuA b n) (s : Int) (k + 1)).2) := by rw [hone]; unfold clE xpE; rw [if_pos q1, if_neg q2]
        unfold cqM
        rw [e]
        exact ⟨rfl, w2, _, P2, F2, rfl, ld2, kC2, kpS_0 S2 (by omega), fun z => absurd z (show ¬ (1 : Int) = 0 by decide)⟩)
  · refine q_iload dX7_clause_105 rfl ?_
    exact s_iretZ dX7_clause_107 rfl (show cqM b n tx σ A F0 T k cs _ _ by
      have q1 : ¬ (boE (tkA b n) (nuA b n) (s : Int) (k + 1)).1 = 0 := by assumption
      have e : (oneE (tkA b n) (nuA b n) k cs) = (boE (tkA b n) (nuA b n) (s : Int) (k + 1)) := by rw [hone]; unfold clE xpE; rw [if_neg q1]
      unfold cqM
      rw [e]
      exact ⟨rfl, w2, _, P2, F2, rfl, ld2, kC2, S2, fun z => absurd z q1⟩)
set_option maxHeartbeats 4000000 in
set_option maxRecDepth 100000 in
theorem m_clauseM {d : Nat} (hd : 12 ≤ d) (σ : gS) (A F T Pf : Nat → Int) {w0 : Int} {b : Nat → Int} {n k tx : Nat} {cs : List Nat} {D : List (Int × Int)} (hI : mTI b n tx T F w0 k cs D) (hn3 : n ≤ 300) (hb : σ.2.1 388 = b) (hb8 : ∀ i, i < n → 0 ≤ b i ∧ b i < 256) (htx : tx < 4) {nT : Nat} (hnT : nT ≤ 300) (h39 : tkA b n nT = 39) (hk : k < nT) (hs : 7 < tkA b n k) : sC mX7_clause d [.ref 384] (ms (pt σ T Pf w0) A F) (cqM b n tx σ A F T k cs) := by
  refine sC_of rfl (Nat.le_of_ble_eq_true rfl) ?_
  show sE g_tt _ _ _ 0 [some (.ref 384), none, none, none, none] [] (ms (pt σ T Pf w0) A F)
  refine q_aload_n dX7_clause_0 rfl rfl ?_
  refine s_callV (ci := 7) (a := 384) (As := []) (S := []) dX7_clause_1 okX7_sortOf mlX7_222 rfl (by omega) rfl (Nat.le_of_ble_eq_true rfl) (show kd 384 = 7 from rfl) (by decide) rfl (m_sortM (d := d - 1) (by omega) σ A F T Pf hI.1 hs) (fun v_ σ_ hq => ?_)
  obtain ⟨rfl, e9⟩ := hq
  have e9 := e9.symm
  subst e9
  show sE g_tt _ _ _ 4 [some (.ref 384), none, none, none, none] [.int (iZ (-1))] (ms (pt σ T Pf w0) A F)
  refine q_istore_n dX7_clause_4 rfl (by decide) ?_
  show sE g_tt _ _ _ 5 [some (.ref 384), some (.int (iZ (-1))), none, none, none] [] (ms (pt σ T Pf w0) A F)
  refine q_iload_n dX7_clause_5 rfl rfl ?_
  refine z_if_ge (tgt := 11) dX7_clause_6 (by decide) (by unfold inR; decide) (fun c_1 => ?_) (fun c_1 => ?_)
  · exfalso
    revert c_1
    decide
  · refine z_iconst dX7_clause_9 ?_
    exact s_iretZ dX7_clause_10 rfl (show cqM b n tx σ A F T k cs _ _ by
      have e : (oneE (tkA b n) (nuA b n) k cs) = (1, k) := by unfold oneE; rw [if_pos hs]
      unfold cqM
      rw [e]
      exact ⟨rfl, w0, T, Pf, F, rfl, hI.1, kpC_rf F, ⟨fun _ _ => rfl, hI.2.2.2.2.2.2.2.1⟩, fun z => absurd z (show ¬ (1 : Int) = 0 by decide)⟩)
set_option maxHeartbeats 4000000 in
set_option maxRecDepth 100000 in
theorem m_clauseS {d s : Nat} (hd : 12 ≤ d) (σ : gS) (A F T Pf : Nat → Int) {w0 : Int} {b : Nat → Int} {n k tx : Nat} {cs : List Nat} {D : List (Int × Int)} (hI : mTI b n tx T F w0 k cs D) (hn3 : n ≤ 300) (hb : σ.2.1 388 = b) (hb8 : ∀ i, i < n → 0 ≤ b i ∧ b i < 256) (htx : tx < 4) {nT : Nat} (hnT : nT ≤ 300) (h39 : tkA b n nT = 39) (hk : k < nT) (hs : tkA b n k = (s : Int)) (hs7 : s ≤ 7) : sC mX7_clause d [.ref 384] (ms (pt σ T Pf w0) A F) (cqM b n tx σ A F T k cs) := by
  have onl := on_le (tkA b n) cs
  have N24 := hI.2.2.2.2.2.2.2.2.2
  have hone : (s ≤ 1 → lwK (tkA b n) (s : Int) cs = 0) → cs.length < 24 → (oneE (tkA b n) (nuA b n) k cs) = clE (tkA b n) (nuA b n) (s : Int) (k + 1) := fun a c => by
    unfold oneE
    rw [hs, if_neg (by omega), if_neg (fun z => z.2 (a (by omega))), if_neg (by omega)]
  have hst : kpS tx T T := ⟨fun _ _ => rfl, hI.2.2.2.2.2.2.2.1⟩
  refine sC_of rfl (Nat.le_of_ble_eq_true rfl) ?_
  show sE g_tt _ _ _ 0 [some (.ref 384), none, none, none, none] [] (ms (pt σ T Pf w0) A F)
  refine q_aload_n dX7_clause_0 rfl rfl ?_
  refine s_callV (ci := 7) (a := 384) (As := []) (S := []) dX7_clause_1 okX7_sortOf mlX7_222 rfl (by omega) rfl (Nat.le_of_ble_eq_true rfl) (show kd 384 = 7 from rfl) (by decide) rfl (m_sortS (d := d - 1) (by omega) σ A F T Pf hI.1 hs hs7) (fun v_ σ_ hq => ?_)
  obtain ⟨rfl, e9⟩ := hq
  have e9 := e9.symm
  subst e9
  show sE g_tt _ _ _ 4 [some (.ref 384), none, none, none, none] [.int (iZ (s : Int))] (ms (pt σ T Pf w0) A F)
  refine q_istore_n dX7_clause_4 rfl (by decide) ?_
  show sE g_tt _ _ _ 5 [some (.ref 384), some (.int (iZ (s : Int))), none, none, none] [] (ms (pt σ T Pf w0) A F)
  refine q_iload_n dX7_clause_5 rfl rfl ?_
  refine z_if_ge (tgt := 11) dX7_clause_6 (by decide) (by unfold inR; omega) (fun c_1 => ?_) (fun c_1 => ?_)
  · refine q_iload_n dX7_clause_11 rfl rfl ?_
    refine z_iconst dX7_clause_12 ?_
    refine z_icmp_gt (tgt := 29) dX7_clause_13 (by decide) (by unfold inR; omega) (by unfold inR; omega) (fun c_2 => ?_) (fun c_2 => ?_)
    · refine q_aload_n dX7_clause_29 rfl rfl ?_
      refine sg7 (kf := 2) (v := .ref 387) dX7_clause_30 flX7_16 (show kd 384 = 7 from rfl) (by decide) rfl ?_
      refine q_aload_n dX7_clause_33 rfl rfl ?_
      refine sg7 (kf := 12) (v := .int (iZ ((681 * tx : Nat) : Int))) dX7_clause_34 flX7_129 (show kd 384 = 7 from rfl) (by decide) (by show some (Value.int (iZ (F 12))) = _; rw [hI.2.1]) ?_
      refine s_iald (n := 2724) (x := ((cs.length : Nat) : Int)) dX7_clause_37 (show kd 387 = 100 + 2724 from rfl) (by omega) (by omega) (by decide) (by exact hI.2.2.2.2.1) ?_
      refine q_istore_n dX7_clause_38 rfl (by decide) ?_
      show sE g_tt _ _ _ 39 [some (.ref 384), some (.int (iZ (s : Int))), some (.int (iZ ((cs.length : Nat) : Int))), none, none] [] (ms (pt σ T Pf w0) A F)
      refine q_iload_n dX7_clause_39 rfl rfl ?_
      refine z_bipush dX7_clause_40 (by decide +kernel) ?_
      refine z_icmp_ne (tgt := 48) dX7_clause_42 (by decide) (by unfold inR; omega) (by unfold inR; omega) (fun c_3 => ?_) (fun c_3 => ?_)
      · refine q_iload_n dX7_clause_48 rfl rfl ?_
        refine z_iconst dX7_clause_49 ?_
        refine z_icmp_gt (tgt := 65) dX7_clause_50 (by decide) (by unfold inR; omega) (by unfold inR; omega) (fun c_4 => ?_) (fun c_4 => ?_)
        · exact tl_clause (s := s) hd σ A F F T Pf hI.1 hn3 hb hb8 hI.2.1 hI.2.2.1 (by rw [on_no (by omega)]; exact hI.2.2.2.1) hI.2.2.2.2.1 hI.2.2.2.2.2.1 hI.2.2.2.2.2.2.1 hI.2.2.2.2.2.2.2.1 htx hnT h39 hk hI.2.2.2.2.2.2.2.2.1 hs hs7 (by omega) (hone (fun z => by omega) (by omega)) (kpC_rf F)
        · refine q_aload_n dX7_clause_53 rfl rfl ?_
          refine q_dup dX7_clause_54 rfl ?_
          refine sg7 (kf := 19) (v := .int (iZ ((onN (tkA b n) cs : Nat) : Int))) dX7_clause_55 flX7_225 (show kd 384 = 7 from rfl) (by decide) (by show some (Value.int (iZ (F 19))) = _; rw [hI.2.2.2.1]) ?_
          refine z_iconst dX7_clause_58 ?_
          refine q_iload_n dX7_clause_59 rfl rfl ?_
          refine z_ishl (x := 1) (k := s) dX7_clause_60 (by omega) ?_
          refine z_top (y := ((2 ^ s : Nat) : Int)) (by simp) ?_
          refine z_ior (m := onN (tkA b n) cs) (k := 2 ^ s) dX7_clause_61 ?_
          refine mp (kf := 19) dX7_clause_62 flX7_225 (by decide) ?_
          exfalso; omega
      · refine z_bipush dX7_clause_45 (by decide +kernel) ?_
        exact s_iretZ dX7_clause_47 rfl (show cqM b n tx σ A F T k cs _ _ by
          have e : (oneE (tkA b n) (nuA b n) k cs) = (6, k) := by unfold oneE; rw [hs, if_neg (by omega), if_neg (fun z => by omega), if_pos (by omega)]
          unfold cqM
          rw [e]
          exact ⟨rfl, w0, T, Pf, F, rfl, hI.1, kpC_rf F, hst, fun z => absurd z (show ¬ (6 : Int) = 0 by decide)⟩)
    · refine q_aload_n dX7_clause_16 rfl rfl ?_
      refine sg7 (kf := 19) (v := .int (iZ ((onN (tkA b n) cs : Nat) : Int))) dX7_clause_17 flX7_225 (show kd 384 = 7 from rfl) (by decide) (by show some (Value.int (iZ (F 19))) = _; rw [hI.2.2.2.1]) ?_
      refine q_iload_n dX7_clause_20 rfl rfl ?_
      refine s_callS (As := [.int (iZ ((onN (tkA b n) cs : Nat) : Int)), .int (iZ (s : Int))]) (S := []) dX7_clause_21 okX7_has mlX7_228 rfl (by omega) rfl (Nat.le_of_ble_eq_true rfl) (m_has (d := d - 1) (m := onN (tkA b n) cs) (k := s) (by unfold inR; omega) (by omega) (ms (pt σ T Pf w0) A F)) (fun v_ σ_ hq => ?_)
      obtain ⟨rfl, e9⟩ := hq
      have e9 := e9.symm
      subst e9
      show sE g_tt _ _ _ 24 [some (.ref 384), some (.int (iZ (s : Int))), none, none, none] [.int (iZ (if (onN (tkA b n) cs).testBit s then 1 else 0))] (ms (pt σ T Pf w0) A F)
      refine z_if_eq (tgt := 29) dX7_clause_24 (by decide) inR_01 (fun c_5 => ?_) (fun c_5 => ?_)
      · have c_5 := if01_0 c_5
        refine q_aload_n dX7_clause_29 rfl rfl ?_
        refine sg7 (kf := 2) (v := .ref 387) dX7_clause_30 flX7_16 (show kd 384 = 7 from rfl) (by decide) rfl ?_
        refine q_aload_n dX7_clause_33 rfl rfl ?_
        refine sg7 (kf := 12) (v := .int (iZ ((681 * tx : Nat) : Int))) dX7_clause_34 flX7_129 (show kd 384 = 7 from rfl) (by decide) (by show some (Value.int (iZ (F 12))) = _; rw [hI.2.1]) ?_
        refine s_iald (n := 2724) (x := ((cs.length : Nat) : Int)) dX7_clause_37 (show kd 387 = 100 + 2724 from rfl) (by omega) (by omega) (by decide) (by exact hI.2.2.2.2.1) ?_
        refine q_istore_n dX7_clause_38 rfl (by decide) ?_
        show sE g_tt _ _ _ 39 [some (.ref 384), some (.int (iZ (s : Int))), some (.int (iZ ((cs.length : Nat) : Int))), none, none] [] (ms (pt σ T Pf w0) A F)
        refine q_iload_n dX7_clause_39 rfl rfl ?_
        refine z_bipush dX7_clause_40 (by decide +kernel) ?_
        refine z_icmp_ne (tgt := 48) dX7_clause_42 (by decide) (by unfold inR; omega) (by unfold inR; omega) (fun c_6 => ?_) (fun c_6 => ?_)
        · refine q_iload_n dX7_clause_48 rfl rfl ?_
          refine z_iconst dX7_clause_49 ?_
          refine z_icmp_gt (tgt := 65) dX7_clause_50 (by decide) (by unfold inR; omega) (by unfold inR; omega) (fun c_7 => ?_) (fun c_7 => ?_)
          · exfalso; omega
          · refine q_aload_n dX7_clause_53 rfl rfl ?_
            refine q_dup dX7_clause_54 rfl ?_
            refine sg7 (kf := 19) (v := .int (iZ ((onN (tkA b n) cs : Nat) : Int))) dX7_clause_55 flX7_225 (show kd 384 = 7 from rfl) (by decide) (by show some (Value.int (iZ (F 19))) = _; rw [hI.2.2.2.1]) ?_
            refine z_iconst dX7_clause_58 ?_
            refine q_iload_n dX7_clause_59 rfl rfl ?_
            refine z_ishl (x := 1) (k := s) dX7_clause_60 (by omega) ?_
            refine z_top (y := ((2 ^ s : Nat) : Int)) (by simp) ?_
            refine z_ior (m := onN (tkA b n) cs) (k := 2 ^ s) dX7_clause_61 ?_
            refine mp (kf := 19) dX7_clause_62 flX7_225 (by decide) ?_
            have hno : lwK (tkA b n) (s : Int) cs = 0 := Classical.not_not.1 (fun z => c_5 ((on_bit (tkA b n) cs (by omega)).2 z))
            exact tl_clause (s := s) hd σ A F (va_up F 19 (((onN (tkA b n) cs) ||| (2 ^ s) : Nat) : Int)) T Pf hI.1 hn3 hb hb8 hI.2.1 hI.2.2.1 (by show va_up F 19 _ 19 = _; rw [va_up_self, on_up (by omega) hs hno]) hI.2.2.2.2.1 hI.2.2.2.2.2.1 hI.2.2.2.2.2.2.1 hI.2.2.2.2.2.2.2.1 htx hnT h39 hk hI.2.2.2.2.2.2.2.2.1 hs hs7 (by omega) (hone (fun _ => hno) (by omega)) (kpC_up (kpC_rf F) (Or.inr (Or.inr (Or.inr (Or.inl rfl)))) _)
        · refine z_bipush dX7_clause_45 (by decide +kernel) ?_
          exact s_iretZ dX7_clause_47 rfl (show cqM b n tx σ A F T k cs _ _ by
            have e : (oneE (tkA b n) (nuA b n) k cs) = (6, k) := by unfold oneE; rw [hs, if_neg (by omega), if_neg (fun z => z.2 (Classical.not_not.1 (fun z => c_5 ((on_bit (tkA b n) cs (by omega)).2 z)))), if_pos (by omega)]
            unfold cqM
            rw [e]
            exact ⟨rfl, w0, T, Pf, F, rfl, hI.1, kpC_rf F, hst, fun z => absurd z (show ¬ (6 : Int) = 0 by decide)⟩)
      · have c_5 := if01_1 c_5
        refine z_iconst dX7_clause_27 ?_
        exact s_iretZ dX7_clause_28 rfl (show cqM b n tx σ A F T k cs _ _ by
          have e : (oneE (tkA b n) (nuA b n) k cs) = (4, k) := by unfold oneE; rw [hs, if_neg (by omega), if_pos ⟨by omega, (on_bit (tkA b n) cs (by omega)).1 c_5⟩]
          unfold cqM
          rw [e]
          exact ⟨rfl, w0, T, Pf, F, rfl, hI.1, kpC_rf F, hst, fun z => absurd z (show ¬ (4 : Int) = 0 by decide)⟩)
  · exfalso
    omega
