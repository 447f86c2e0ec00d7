/-! ===== the model's text: lawClause, sortOf, body ===== -/
theorem eo_len (tk : Nat → Int) (s : pS) : (eoS tk s).2.2.2.2.2.length ≤ s.2.1.length + s.2.2.2.length := by
  have h := sP_len 7 s.2.1 s.2.2.1 s.2.2.2
  unfold eoS eoQ
  repeat' split
  all_goals (show (sP 7 s.2.1 s.2.2.1 s.2.2.2).2.2.length ≤ _; omega)
theorem op_len (x : Int) (s : pS) : (opS x s).2.2.2.2.2.length ≤ s.2.1.length + s.2.2.2.length + 1 := by
  unfold opS
  split
  all_goals (show s.2.2.2.length ≤ _; omega)
theorem bg_len (tk nu : Nat → Int) (so : Int) (s : pS) : (bgS tk nu so s).2.2.2.2.2.length ≤ s.2.1.length + s.2.2.2.length + 1 := by
  have e := op_len
  unfold bgS
  split
  · show s.2.2.2.length ≤ _; omega
  split
  · show s.2.2.2.length ≤ _; omega
  split
  · refine Nat.le_trans (eo_len tk _) ?_
    show s.2.1.length + (s.2.2.2.length + 1) ≤ _
    omega
  split
  · exact e _ _
  split
  · exact e _ _
  split
  · exact e _ _
  split
  · exact e _ _
  split
  · exact e _ _
  split
  · exact e _ _
  · show s.2.2.2.length ≤ _; omega
theorem bh_len (tk : Nat → Int) (s : pS) : (bhS tk s).2.2.2.2.2.length ≤ s.2.1.length + s.2.2.2.length + 1 := by
  have h := sP_len
  unfold bhS
  split
  · have := h (if rkF (btI (tk s.1) s.2.1) = 4 then 5 else rkF (btI (tk s.1) s.2.1)) s.2.1 s.2.2.1 s.2.2.2
    show (sP _ s.2.1 s.2.2.1 s.2.2.2).2.2.length ≤ _
    omega
  have h1 := h 1 s.2.1 s.2.2.1 s.2.2.2
  split
  · show s.2.2.2.length ≤ _; omega
  split
  · refine Nat.le_trans (eo_len tk _) ?_
    show (sP 1 s.2.1 s.2.2.1 s.2.2.2).1.tail.length + (if opN s.2.1 = 44 then (3, 0) :: (sP 1 s.2.1 s.2.2.1 s.2.2.2).2.2 else (sP 1 s.2.1 s.2.2.1 s.2.2.2).2.2).length ≤ _
    rw [List.length_tail]
    split
    · rw [List.length_cons]; omega
    · omega
  · show (sP 1 s.2.1 s.2.2.1 s.2.2.2).2.2.length ≤ _
    omega
theorem rnS_len {tk nu : Nat → Int} {so : Int} : ∀ (f : Nat) (wh : Int) (s : pS) (x : Int × pS), rnS tk nu so f wh s = some x → x.2.2.2.2.length ≤ 303 := by
  intro f
  induction f with
  | zero => intro wh s x h; cases h
  | succ f ih =>
    intro wh s x h
    rw [rnS] at h
    by_cases q : inB s
    · rw [if_pos q] at h
      have hq := q.2.1
      have hl : (if wh = 0 then bgS tk nu so s else bhS tk s).2.2.2.2.2.length ≤ 301 := by
        by_cases z : wh = 0
        · rw [if_pos z]; have := bg_len tk nu so s; omega
        · rw [if_neg z]; have := bh_len tk s; omega
      by_cases a : 0 < (if wh = 0 then bgS tk nu so s else bhS tk s).1
      · rw [if_pos a] at h
        rw [← Option.some.inj h]
        show (if wh = 0 then bgS tk nu so s else bhS tk s).2.2.2.2.2.length ≤ 303
        omega
      · rw [if_neg a] at h
        by_cases c : (if wh = 0 then bgS tk nu so s else bhS tk s).1 = 0
        · rw [if_pos c] at h
          exact ih _ _ _ h
        · rw [if_neg c] at h
          by_cases e : 0 ≤ opN s.2.1
          · rw [if_pos e] at h
            rw [← Option.some.inj h]
            show s.2.2.2.length ≤ 303
            omega
          · rw [if_neg e] at h
            rw [← Option.some.inj h]
            have := sP_len 1 s.2.1 s.2.2.1 s.2.2.2
            show (sP 1 s.2.1 s.2.2.1 s.2.2.2).2.2.length ≤ 303
            omega
    · rw [if_neg q] at h; cases h
theorem dNum_ran (b : Nat → Int) (n : Nat) : ∀ f p a, 0 ≤ a → a ≤ 10000 → 0 ≤ dNum b n f p a ∧ dNum b n f p a ≤ 10000 := by
  intro f
  induction f with
  | zero => intro p a h h2; exact ⟨h, h2⟩
  | succ f ih =>
    intro p a h h2
    rw [dNum]
    split
    · rename_i q
      have := q.2
      unfold isDg at this
      exact ih _ _ (by omega) (by omega)
    · exact ⟨h, h2⟩
theorem nuA_ran (b : Nat → Int) (n k : Nat) : 0 ≤ nuA b n k ∧ nuA b n k ≤ 10000 := by
  show 0 ≤ tkN b n (tkS b n k) ∧ tkN b n (tkS b n k) ≤ 10000
  unfold tkN
  repeat' split
  all_goals first | exact dNum_ran b n _ _ 0 (by decide) (by decide) | exact ⟨by decide, by decide⟩
def lawQ (b : Nat → Int) (n tx : Nat) (σ : gS) (A F T : Nat → Int) (a : Int) (x k : Nat) (D : List (Int × Int)) (r : Option Value) (σ' : gS) : Prop := r = some (.int (iZ (lwE (tkA b n) (nuA b n) a k).1)) ∧ ∃ w1 T1 P1 F1, σ' = ms (pt σ T1 P1 w1) A F1 ∧ ldR b n F1 w1 (lwE (tkA b n) (nuA b n) a k).2.1 ∧ kpM F F1 ∧ (∀ i, i ≠ x + 1 → i ≠ x + 2 → (i < 681 * tx + 73 ∨ 681 * tx + 681 ≤ i) → T1 i = T i) ∧ (inR (T1 (x + 1)) ∧ inR (T1 (x + 2))) ∧ ((lwE (tkA b n) (nuA b n) a k).1 = 0 → ∃ E, F1 13 = (((E ++ D).length : Nat) : Int) ∧ dR T1 (681 * tx + 73) (E ++ D) ∧ T1 (x + 1) = ((D.length : Nat) : Int) ∧ T1 (x + 2) = (((E ++ D).length : Nat) : Int) ∧ E.length + k ≤ (lwE (tkA b n) (nuA b n) a k).2.1 ∧ mPv E (lwE (tkA b n) (nuA b n) a k).2.2.1)
set_option maxHeartbeats 4000000 in
set_option maxRecDepth 100000 in
theorem m_lawClause {d : Nat} (hd : 10 ≤ d) (σ : gS) (A F T Pf : Nat → Int) {w0 : Int} {b : Nat → Int} {n k tx : Nat} {D : List (Int × Int)} (hR : ldR b n F w0 k) (hn3 : n ≤ 300) (hb : σ.2.1 388 = b) (hb8 : ∀ i, i < n → 0 ≤ b i ∧ b i < 256) (h12 : F 12 = ((681 * tx : Nat) : Int)) (h13 : F 13 = ((D.length : Nat) : Int)) (hD : dR T (681 * tx + 73) D) (htx : tx < 4) {a : Int} (h14 : F 14 = a) (ha : a = 0 ∨ a = 1) {nT : Nat} (hnT : nT ≤ 300) (h39 : tkA b n nT = 39) (hk : k ≤ nT) (hDl : D.length ≤ k) {z : Int} {x : Nat} (hz : z = (x : Int)) (hx : x + 2 < 681 * tx + 73) : sC mX7_lawClause d [.ref 384, .int (iZ z)] (ms (pt σ T Pf w0) A F) (lawQ b n tx σ A F T a x k D) := by
  obtain ⟨hrn, f, s', hr, hs1, hs2⟩ := sim_sum0 (tk := tkA b n) (nu := nuA b n) (so := a) (D := D) hnT h39 (fun j => (nuA_ran b n j).1) hk (by omega) (r := (lwE (tkA b n) (nuA b n) a k)) rfl
  refine sC_of rfl (Nat.le_of_ble_eq_true rfl) ?_
  show sE g_tt _ _ _ 0 [some (.ref 384), some (.int (iZ z)), none] [] (ms (pt σ T Pf w0) A F)
  refine q_aload_n dX7_lawClause_0 rfl rfl ?_
  refine sg7 (kf := 2) (v := .ref 387) dX7_lawClause_1 flX7_16 (show kd 384 = 7 from rfl) (by decide) rfl ?_
  refine q_iload_n dX7_lawClause_4 rfl rfl ?_
  refine z_iconst dX7_lawClause_5 ?_
  refine z_iadd dX7_lawClause_6 ?_
  refine q_aload_n dX7_lawClause_7 rfl rfl ?_
  refine sg7 (kf := 13) (v := .int (iZ ((D.length : Nat) : Int))) dX7_lawClause_8 flX7_132 (show kd 384 = 7 from rfl) (by decide) (by show some (Value.int (iZ (F 13))) = _; rw [h13]) ?_
  refine pt_st387 (k := (x + 1)) dX7_lawClause_11 (by omega) (by omega) (by omega) ?_
  refine q_aload_n dX7_lawClause_12 rfl rfl ?_
  refine s_callV (ci := 7) (a := 384) (As := []) (S := []) dX7_lawClause_13 okX7_summed mlX7_209 rfl (by omega) rfl (Nat.le_of_ble_eq_true rfl) (show kd 384 = 7 from rfl) (by decide) rfl (m_summed (d := d - 1) (by omega) σ A F (va_up T (x + 1) ((D.length : Nat) : Int)) Pf hR h12 h13 h14 (dR_up _ hD (Or.inl (by omega))) htx hn3 hb hb8 ha hr) (fun v_ σ_ hq => ?_)
  obtain ⟨rfl, w1, T1, P1, F1, e9, pR, kM, kX⟩ := hq
  subst e9
  show sE g_tt _ _ _ 16 [some (.ref 384), some (.int (iZ z)), none] [.int (iZ ((lwE (tkA b n) (nuA b n) a k).1))] (ms (pt σ T1 P1 w1) A F1)
  refine q_istore_n dX7_lawClause_16 rfl (by decide) ?_
  show sE g_tt _ _ _ 17 [some (.ref 384), some (.int (iZ z)), some (.int (iZ ((lwE (tkA b n) (nuA b n) a k).1)))] [] (ms (pt σ T1 P1 w1) A F1)
  refine q_aload_n dX7_lawClause_17 rfl rfl ?_
  refine sg7 (kf := 2) (v := .ref 387) dX7_lawClause_18 flX7_16 (show kd 384 = 7 from rfl) (by decide) rfl ?_
  refine q_iload_n dX7_lawClause_21 rfl rfl ?_
  refine z_iconst dX7_lawClause_22 ?_
  refine z_iadd dX7_lawClause_23 ?_
  refine q_aload_n dX7_lawClause_24 rfl rfl ?_
  refine sg7 (kf := 13) (v := .int (iZ ((s'.2.2.2.length : Nat) : Int))) dX7_lawClause_25 flX7_132 (show kd 384 = 7 from rfl) (by decide) (by show some (Value.int (iZ (F1 13))) = _; rw [pR.2.2.1]) ?_
  refine pt_st387 (k := (x + 2)) dX7_lawClause_28 (by omega) (by omega) (by omega) ?_
  refine q_iload_n dX7_lawClause_29 rfl rfl ?_
  exact s_iretZ dX7_lawClause_30 rfl (show lawQ b n tx σ A F T a x k D _ _ by
    have hlen : s'.2.2.2.length ≤ 303 := rnS_len _ _ _ _ hr
    have e1 : va_up T1 (x + 2) ((s'.2.2.2.length : Nat) : Int) (x + 1) = ((D.length : Nat) : Int) := (va_up_ne _ _ (by omega)).trans ((kX (x + 1) (Or.inl (by omega))).trans (va_up_self _ _ _))
    have ld1 := pR.1
    rw [show s'.1 = (lwE (tkA b n) (nuA b n) a k).2.1 from hs1] at ld1
    refine ⟨rfl, w1, _, P1, F1, rfl, ld1, kM, fun i a b c => (va_up_ne _ _ b).trans ((kX i c).trans (va_up_ne _ _ a)), ⟨by rw [e1]; unfold inR; omega, by rw [va_up_self]; unfold inR; omega⟩, fun z => ?_⟩
    obtain ⟨-, E, c1, c2, c3⟩ := hs2 z
    subst c3
    exact ⟨E, pR.2.2.1, dR_up _ pR.2.2.2.2.2.2.2.1 (Or.inl (by omega)), e1, va_up_self _ _ _, c1, c2⟩)
def srI (t : Int) : Int := if t ≤ 7 then t else -1
set_option maxHeartbeats 4000000 in
set_option maxRecDepth 100000 in
theorem m_sortOf {d : Nat} (hd : 7 ≤ d) (σ : gS) (A F T Pf : Nat → Int) {w0 : Int} {b : Nat → Int} {n k : Nat} (hR : ldR b n F w0 k) : sC mX7_sortOf d [.ref 384] (ms (pt σ T Pf w0) A F) (fun r σ' => r = some (.int (iZ (srI (tkA b n k)))) ∧ σ' = (ms (pt σ T Pf w0) A F)) := by
  have tr := hR.2.2.2
  have t4 := tr.2.2.2.1
  refine sC_of rfl (Nat.le_of_ble_eq_true rfl) ?_
  show sE g_tt _ _ _ 0 [some (.ref 384)] [] (ms (pt σ T Pf w0) A F)
  refine q_aload_n dX7_sortOf_0 rfl rfl ?_
  refine z_bipush dX7_sortOf_1 (by decide +kernel) ?_
  refine z_bipush dX7_sortOf_3 (by decide +kernel) ?_
  refine z_bipush dX7_sortOf_5 (by decide +kernel) ?_
  refine z_bipush dX7_sortOf_7 (by decide +kernel) ?_
  refine z_bipush dX7_sortOf_9 (by decide +kernel) ?_
  refine s_callS (As := [.int (iZ 104), .int (iZ 111), .int (iZ 108), .int (iZ 100), .int (iZ 115)]) (S := [.ref 384]) dX7_sortOf_11 okX7_w5 mlX7_125 rfl (by omega) rfl (Nat.le_of_ble_eq_true rfl) (m_w5 (d := d - 1) (x := 104) (y := 111) (z := 108) (u := 100) (v := 115) (by omega) (by omega) (by omega) (by omega) (by omega) (by omega) (ms (pt σ T Pf w0) A F)) (fun v_ σ_ hq => ?_)
  obtain ⟨rfl, e9⟩ := hq
  have e9 := e9.symm
  subst e9
  show sE g_tt _ _ _ 14 [some (.ref 384)] [.long (lZ ((((104 * 256 + 111) * 256 + 108) * 256 + 100) * 256 + 115)), .ref 384] (ms (pt σ T Pf w0) A F)
  refine s_callV (ci := 7) (a := 384) (As := [.long (lZ ((((104 * 256 + 111) * 256 + 108) * 256 + 100) * 256 + 115))]) (S := []) dX7_sortOf_14 okX7_isWord mlX7_177 rfl (by omega) rfl (Nat.le_of_ble_eq_true rfl) (show kd 384 = 7 from rfl) (by decide) rfl (m_isW (d := d - 1) (x := (((104 * 256 + 111) * 256 + 108) * 256 + 100) * 256 + 115) σ A F T Pf (b := b) (n := n) (k := k) hR (j := 0) (by decide) (by decide +kernel)) (fun v_ σ_ hq => ?_)
  obtain ⟨rfl, e9⟩ := hq
  have e9 := e9.symm
  subst e9
  show sE g_tt _ _ _ 17 [some (.ref 384)] [.int (iZ (if tkA b n k = ((0 : Nat) : Int) then 1 else 0))] (ms (pt σ T Pf w0) A F)
  refine z_if_eq (tgt := 22) dX7_sortOf_17 (by decide) inR_01 (fun c_1 => ?_) (fun c_1 => ?_)
  · have c_1 := if01_0 c_1
    refine q_aload_n dX7_sortOf_22 rfl rfl ?_
    refine z_bipush dX7_sortOf_23 (by decide +kernel) ?_
    refine z_bipush dX7_sortOf_25 (by decide +kernel) ?_
    refine z_bipush dX7_sortOf_27 (by decide +kernel) ?_
    refine z_bipush dX7_sortOf_29 (by decide +kernel) ?_
    refine z_bipush dX7_sortOf_31 (by decide +kernel) ?_
    refine s_callS (As := [.int (iZ 103), .int (iZ 105), .int (iZ 102), .int (iZ 116), .int (iZ 115)]) (S := [.ref 384]) dX7_sortOf_33 okX7_w5 mlX7_125 rfl (by omega) rfl (Nat.le_of_ble_eq_true rfl) (m_w5 (d := d - 1) (x := 103) (y := 105) (z := 102) (u := 116) (v := 115) (by omega) (by omega) (by omega) (by omega) (by omega) (by omega) (ms (pt σ T Pf w0) A F)) (fun v_ σ_ hq => ?_)
    obtain ⟨rfl, e9⟩ := hq
    have e9 := e9.symm
    subst e9
    show sE g_tt _ _ _ 36 [some (.ref 384)] [.long (lZ ((((103 * 256 + 105) * 256 + 102) * 256 + 116) * 256 + 115)), .ref 384] (ms (pt σ T Pf w0) A F)
    refine s_callV (ci := 7) (a := 384) (As := [.long (lZ ((((103 * 256 + 105) * 256 + 102) * 256 + 116) * 256 + 115))]) (S := []) dX7_sortOf_36 okX7_isWord mlX7_177 rfl (by omega) rfl (Nat.le_of_ble_eq_true rfl) (show kd 384 = 7 from rfl) (by decide) rfl (m_isW (d := d - 1) (x := (((103 * 256 + 105) * 256 + 102) * 256 + 116) * 256 + 115) σ A F T Pf (b := b) (n := n) (k := k) hR (j := 1) (by decide) (by decide +kernel)) (fun v_ σ_ hq => ?_)
    obtain ⟨rfl, e9⟩ := hq
    have e9 := e9.symm
    subst e9
    show sE g_tt _ _ _ 39 [some (.ref 384)] [.int (iZ (if tkA b n k = ((1 : Nat) : Int) then 1 else 0))] (ms (pt σ T Pf w0) A F)
    refine z_if_eq (tgt := 44) dX7_sortOf_39 (by decide) inR_01 (fun c_2 => ?_) (fun c_2 => ?_)
    · have c_2 := if01_0 c_2
      refine q_aload_n dX7_sortOf_44 rfl rfl ?_
      refine z_bipush dX7_sortOf_45 (by decide +kernel) ?_
      refine z_bipush dX7_sortOf_47 (by decide +kernel) ?_
      refine z_bipush dX7_sortOf_49 (by decide +kernel) ?_
      refine z_bipush dX7_sortOf_51 (by decide +kernel) ?_
      refine z_bipush dX7_sortOf_53 (by decide +kernel) ?_
      refine z_bipush dX7_sortOf_55 (by decide +kernel) ?_
      refine s_callS (As := [.int (iZ 112), .int (iZ 101), .int (iZ 114), .int (iZ 115), .int (iZ 111), .int (iZ 110)]) (S := [.ref 384]) dX7_sortOf_57 okX7_w6 mlX7_135 rfl (by omega) rfl (Nat.le_of_ble_eq_true rfl) (m_w6 (d := d - 1) (x := 112) (y := 101) (z := 114) (u := 115) (v := 111) (t := 110) (by omega) (by omega) (by omega) (by omega) (by omega) (by omega) (by omega) (ms (pt σ T Pf w0) A F)) (fun v_ σ_ hq => ?_)
      obtain ⟨rfl, e9⟩ := hq
      have e9 := e9.symm
      subst e9
      show sE g_tt _ _ _ 60 [some (.ref 384)] [.long (lZ (((((112 * 256 + 101) * 256 + 114) * 256 + 115) * 256 + 111) * 256 + 110)), .ref 384] (ms (pt σ T Pf w0) A F)
      refine s_callV (ci := 7) (a := 384) (As := [.long (lZ (((((112 * 256 + 101) * 256 + 114) * 256 + 115) * 256 + 111) * 256 + 110))]) (S := []) dX7_sortOf_60 okX7_isWord mlX7_177 rfl (by omega) rfl (Nat.le_of_ble_eq_true rfl) (show kd 384 = 7 from rfl) (by decide) rfl (m_isW (d := d - 1) (x := ((((112 * 256 + 101) * 256 + 114) * 256 + 115) * 256 + 111) * 256 + 110) σ A F T Pf (b := b) (n := n) (k := k) hR (j := 2) (by decide) (by decide +kernel)) (fun v_ σ_ hq => ?_)
      obtain ⟨rfl, e9⟩ := hq
      have e9 := e9.symm
      subst e9
      show sE g_tt _ _ _ 63 [some (.ref 384)] [.int (iZ (if tkA b n k = ((2 : Nat) : Int) then 1 else 0))] (ms (pt σ T Pf w0) A F)
      refine z_if_eq (tgt := 68) dX7_sortOf_63 (by decide) inR_01 (fun c_3 => ?_) (fun c_3 => ?_)
      · have c_3 := if01_0 c_3
        refine q_aload_n dX7_sortOf_68 rfl rfl ?_
        refine z_bipush dX7_sortOf_69 (by decide +kernel) ?_
        refine z_bipush dX7_sortOf_71 (by decide +kernel) ?_
        refine z_bipush dX7_sortOf_73 (by decide +kernel) ?_
        refine z_bipush dX7_sortOf_75 (by decide +kernel) ?_
        refine s_callS (As := [.int (iZ 107), .int (iZ 105), .int (iZ 110), .int (iZ 100)]) (S := [.ref 384]) dX7_sortOf_77 okX7_w4 mlX7_121 rfl (by omega) rfl (Nat.le_of_ble_eq_true rfl) (m_w4 (d := d - 1) (x := 107) (y := 105) (z := 110) (u := 100) (by omega) (by omega) (by omega) (by omega) (by omega) (ms (pt σ T Pf w0) A F)) (fun v_ σ_ hq => ?_)
        obtain ⟨rfl, e9⟩ := hq
        have e9 := e9.symm
        subst e9
        show sE g_tt _ _ _ 80 [some (.ref 384)] [.long (lZ (((107 * 256 + 105) * 256 + 110) * 256 + 100)), .ref 384] (ms (pt σ T Pf w0) A F)
        refine s_callV (ci := 7) (a := 384) (As := [.long (lZ (((107 * 256 + 105) * 256 + 110) * 256 + 100))]) (S := []) dX7_sortOf_80 okX7_isWord mlX7_177 rfl (by omega) rfl (Nat.le_of_ble_eq_true rfl) (show kd 384 = 7 from rfl) (by decide) rfl (m_isW (d := d - 1) (x := ((107 * 256 + 105) * 256 + 110) * 256 + 100) σ A F T Pf (b := b) (n := n) (k := k) hR (j := 3) (by decide) (by decide +kernel)) (fun v_ σ_ hq => ?_)
        obtain ⟨rfl, e9⟩ := hq
        have e9 := e9.symm
        subst e9
        show sE g_tt _ _ _ 83 [some (.ref 384)] [.int (iZ (if tkA b n k = ((3 : Nat) : Int) then 1 else 0))] (ms (pt σ T Pf w0) A F)
        refine z_if_eq (tgt := 88) dX7_sortOf_83 (by decide) inR_01 (fun c_4 => ?_) (fun c_4 => ?_)
        · have c_4 := if01_0 c_4
          refine q_aload_n dX7_sortOf_88 rfl rfl ?_
          refine z_bipush dX7_sortOf_89 (by decide +kernel) ?_
          refine z_bipush dX7_sortOf_91 (by decide +kernel) ?_
          refine z_bipush dX7_sortOf_93 (by decide +kernel) ?_
          refine z_bipush dX7_sortOf_95 (by decide +kernel) ?_
          refine s_callS (As := [.int (iZ 103), .int (iZ 111), .int (iZ 111), .int (iZ 100)]) (S := [.ref 384]) dX7_sortOf_97 okX7_w4 mlX7_121 rfl (by omega) rfl (Nat.le_of_ble_eq_true rfl) (m_w4 (d := d - 1) (x := 103) (y := 111) (z := 111) (u := 100) (by omega) (by omega) (by omega) (by omega) (by omega) (ms (pt σ T Pf w0) A F)) (fun v_ σ_ hq => ?_)
          obtain ⟨rfl, e9⟩ := hq
          have e9 := e9.symm
          subst e9
          show sE g_tt _ _ _ 100 [some (.ref 384)] [.long (lZ (((103 * 256 + 111) * 256 + 111) * 256 + 100)), .ref 384] (ms (pt σ T Pf w0) A F)
          refine s_callV (ci := 7) (a := 384) (As := [.long (lZ (((103 * 256 + 111) * 256 + 111) * 256 + 100))]) (S := []) dX7_sortOf_100 okX7_isWord mlX7_177 rfl (by omega) rfl (Nat.le_of_ble_eq_true rfl) (show kd 384 = 7 from rfl) (by decide) rfl (m_isW (d := d - 1) (x := ((103 * 256 + 111) * 256 + 111) * 256 + 100) σ A F T Pf (b := b) (n := n) (k := k) hR (j := 4) (by decide) (by decide +kernel)) (fun v_ σ_ hq => ?_)
          obtain ⟨rfl, e9⟩ := hq
          have e9 := e9.symm
          subst e9
          show sE g_tt _ _ _ 103 [some (.ref 384)] [.int (iZ (if tkA b n k = ((4 : Nat) : Int) then 1 else 0))] (ms (pt σ T Pf w0) A F)
          refine z_if_eq (tgt := 108) dX7_sortOf_103 (by decide) inR_01 (fun c_5 => ?_) (fun c_5 => ?_)
          · have c_5 := if01_0 c_5
            refine q_aload_n dX7_sortOf_108 rfl rfl ?_
            refine z_bipush dX7_sortOf_109 (by decide +kernel) ?_
            refine z_bipush dX7_sortOf_111 (by decide +kernel) ?_
            refine z_bipush dX7_sortOf_113 (by decide +kernel) ?_
            refine z_bipush dX7_sortOf_115 (by decide +kernel) ?_
            refine z_bipush dX7_sortOf_117 (by decide +kernel) ?_
            refine s_callS (As := [.int (iZ 116), .int (iZ 104), .int (iZ 97), .int (iZ 110), .int (iZ 107)]) (S := [.ref 384]) dX7_sortOf_119 okX7_w5 mlX7_125 rfl (by omega) rfl (Nat.le_of_ble_eq_true rfl) (m_w5 (d := d - 1) (x := 116) (y := 104) (z := 97) (u := 110) (v := 107) (by omega) (by omega) (by omega) (by omega) (by omega) (by omega) (ms (pt σ T Pf w0) A F)) (fun v_ σ_ hq => ?_)
            obtain ⟨rfl, e9⟩ := hq
            have e9 := e9.symm
            subst e9
            show sE g_tt _ _ _ 122 [some (.ref 384)] [.long (lZ ((((116 * 256 + 104) * 256 + 97) * 256 + 110) * 256 + 107)), .ref 384] (ms (pt σ T Pf w0) A F)
            refine s_callV (ci := 7) (a := 384) (As := [.long (lZ ((((116 * 256 + 104) * 256 + 97) * 256 + 110) * 256 + 107))]) (S := []) dX7_sortOf_122 okX7_isWord mlX7_177 rfl (by omega) rfl (Nat.le_of_ble_eq_true rfl) (show kd 384 = 7 from rfl) (by decide) rfl (m_isW (d := d - 1) (x := (((116 * 256 + 104) * 256 + 97) * 256 + 110) * 256 + 107) σ A F T Pf (b := b) (n := n) (k := k) hR (j := 5) (by decide) (by decide +kernel)) (fun v_ σ_ hq => ?_)
            obtain ⟨rfl, e9⟩ := hq
            have e9 := e9.symm
            subst e9
            show sE g_tt _ _ _ 125 [some (.ref 384)] [.int (iZ (if tkA b n k = ((5 : Nat) : Int) then 1 else 0))] (ms (pt σ T Pf w0) A F)
            refine z_if_eq (tgt := 130) dX7_sortOf_125 (by decide) inR_01 (fun c_6 => ?_) (fun c_6 => ?_)
            · have c_6 := if01_0 c_6
              refine q_aload_n dX7_sortOf_130 rfl rfl ?_
              refine z_bipush dX7_sortOf_131 (by decide +kernel) ?_
              refine z_bipush dX7_sortOf_133 (by decide +kernel) ?_
              refine z_bipush dX7_sortOf_135 (by decide +kernel) ?_
              refine z_bipush dX7_sortOf_137 (by decide +kernel) ?_
              refine z_bipush dX7_sortOf_139 (by decide +kernel) ?_
              refine z_bipush dX7_sortOf_141 (by decide +kernel) ?_
              refine s_callS (As := [.int (iZ 115), .int (iZ 101), .int (iZ 116), .int (iZ 116), .int (iZ 108), .int (iZ 101)]) (S := [.ref 384]) dX7_sortOf_143 okX7_w6 mlX7_135 rfl (by omega) rfl (Nat.le_of_ble_eq_true rfl) (m_w6 (d := d - 1) (x := 115) (y := 101) (z := 116) (u := 116) (v := 108) (t := 101) (by omega) (by omega) (by omega) (by omega) (by omega) (by omega) (by omega) (ms (pt σ T Pf w0) A F)) (fun v_ σ_ hq => ?_)
              obtain ⟨rfl, e9⟩ := hq
              have e9 := e9.symm
              subst e9
              show sE g_tt _ _ _ 146 [some (.ref 384)] [.long (lZ (((((115 * 256 + 101) * 256 + 116) * 256 + 116) * 256 + 108) * 256 + 101)), .ref 384] (ms (pt σ T Pf w0) A F)
              refine s_callV (ci := 7) (a := 384) (As := [.long (lZ (((((115 * 256 + 101) * 256 + 116) * 256 + 116) * 256 + 108) * 256 + 101))]) (S := []) dX7_sortOf_146 okX7_isWord mlX7_177 rfl (by omega) rfl (Nat.le_of_ble_eq_true rfl) (show kd 384 = 7 from rfl) (by decide) rfl (m_isW (d := d - 1) (x := ((((115 * 256 + 101) * 256 + 116) * 256 + 116) * 256 + 108) * 256 + 101) σ A F T Pf (b := b) (n := n) (k := k) hR (j := 6) (by decide) (by decide +kernel)) (fun v_ σ_ hq => ?_)
              obtain ⟨rfl, e9⟩ := hq
              have e9 := e9.symm
              subst e9
              show sE g_tt _ _ _ 149 [some (.ref 384)] [.int (iZ (if tkA b n k = ((6 : Nat) : Int) then 1 else 0))] (ms (pt σ T Pf w0) A F)
              refine z_if_eq (tgt := 157) dX7_sortOf_149 (by decide) inR_01 (fun c_7 => ?_) (fun c_7 => ?_)
              · have c_7 := if01_0 c_7
                refine q_aload_n dX7_sortOf_157 rfl rfl ?_
                refine z_bipush dX7_sortOf_158 (by decide +kernel) ?_
                refine z_bipush dX7_sortOf_160 (by decide +kernel) ?_
                refine z_bipush dX7_sortOf_162 (by decide +kernel) ?_
                refine z_bipush dX7_sortOf_164 (by decide +kernel) ?_
                refine z_bipush dX7_sortOf_166 (by decide +kernel) ?_
                refine s_callS (As := [.int (iZ 110), .int (iZ 105), .int (iZ 103), .int (iZ 104), .int (iZ 116)]) (S := [.ref 384]) dX7_sortOf_168 okX7_w5 mlX7_125 rfl (by omega) rfl (Nat.le_of_ble_eq_true rfl) (m_w5 (d := d - 1) (x := 110) (y := 105) (z := 103) (u := 104) (v := 116) (by omega) (by omega) (by omega) (by omega) (by omega) (by omega) (ms (pt σ T Pf w0) A F)) (fun v_ σ_ hq => ?_)
                obtain ⟨rfl, e9⟩ := hq
                have e9 := e9.symm
                subst e9
                show sE g_tt _ _ _ 171 [some (.ref 384)] [.long (lZ ((((110 * 256 + 105) * 256 + 103) * 256 + 104) * 256 + 116)), .ref 384] (ms (pt σ T Pf w0) A F)
                refine s_callV (ci := 7) (a := 384) (As := [.long (lZ ((((110 * 256 + 105) * 256 + 103) * 256 + 104) * 256 + 116))]) (S := []) dX7_sortOf_171 okX7_isWord mlX7_177 rfl (by omega) rfl (Nat.le_of_ble_eq_true rfl) (show kd 384 = 7 from rfl) (by decide) rfl (m_isW (d := d - 1) (x := (((110 * 256 + 105) * 256 + 103) * 256 + 104) * 256 + 116) σ A F T Pf (b := b) (n := n) (k := k) hR (j := 7) (by decide) (by decide +kernel)) (fun v_ σ_ hq => ?_)
                obtain ⟨rfl, e9⟩ := hq
                have e9 := e9.symm
                subst e9
                show sE g_tt _ _ _ 174 [some (.ref 384)] [.int (iZ (if tkA b n k = ((7 : Nat) : Int) then 1 else 0))] (ms (pt σ T Pf w0) A F)
                refine z_if_eq (tgt := 182) dX7_sortOf_174 (by decide) inR_01 (fun c_8 => ?_) (fun c_8 => ?_)
                · have c_8 := if01_0 c_8
                  refine z_iconst dX7_sortOf_182 ?_
                  exact s_iretZ dX7_sortOf_183 rfl ⟨by unfold srI; congr 3; (repeat (first | rw [if_pos (by omega)] | rw [if_neg (by omega)])); (try omega), rfl⟩
                · have c_8 := if01_1 c_8
                  refine z_bipush dX7_sortOf_177 (by decide +kernel) ?_
                  refine q_goto (tgt := 183) dX7_sortOf_179 (by decide) ?_
                  exact s_iretZ dX7_sortOf_183 rfl ⟨by unfold srI; congr 3; (repeat (first | rw [if_pos (by omega)] | rw [if_neg (by omega)])); (try omega), rfl⟩
              · have c_7 := if01_1 c_7
                refine z_bipush dX7_sortOf_152 (by decide +kernel) ?_
                refine q_goto (tgt := 183) dX7_sortOf_154 (by decide) ?_
                exact s_iretZ dX7_sortOf_183 rfl ⟨by unfold srI; congr 3; (repeat (first | rw [if_pos (by omega)] | rw [if_neg (by omega)])); (try omega), rfl⟩
            · have c_6 := if01_1 c_6
              refine z_iconst dX7_sortOf_128 ?_
              exact s_iretZ dX7_sortOf_129 rfl ⟨by unfold srI; congr 3; (repeat (first | rw [if_pos (by omega)] | rw [if_neg (by omega)])); (try omega), rfl⟩
          · have c_5 := if01_1 c_5
            refine z_iconst dX7_sortOf_106 ?_
            exact s_iretZ dX7_sortOf_107 rfl ⟨by unfold srI; congr 3; (repeat (first | rw [if_pos (by omega)] | rw [if_neg (by omega)])); (try omega), rfl⟩
        · have c_4 := if01_1 c_4
          refine z_iconst dX7_sortOf_86 ?_
          exact s_iretZ dX7_sortOf_87 rfl ⟨by unfold srI; congr 3; (repeat (first | rw [if_pos (by omega)] | rw [if_neg (by omega)])); (try omega), rfl⟩
      · have c_3 := if01_1 c_3
        refine z_iconst dX7_sortOf_66 ?_
        exact s_iretZ dX7_sortOf_67 rfl ⟨by unfold srI; congr 3; (repeat (first | rw [if_pos (by omega)] | rw [if_neg (by omega)])); (try omega), rfl⟩
    · have c_2 := if01_1 c_2
      refine z_iconst dX7_sortOf_42 ?_
      exact s_iretZ dX7_sortOf_43 rfl ⟨by unfold srI; congr 3; (repeat (first | rw [if_pos (by omega)] | rw [if_neg (by omega)])); (try omega), rfl⟩
  · have c_1 := if01_1 c_1
    refine z_iconst dX7_sortOf_20 ?_
    exact s_iretZ dX7_sortOf_21 rfl ⟨by unfold srI; congr 3; (repeat (first | rw [if_pos (by omega)] | rw [if_neg (by omega)])); (try omega), rfl⟩
/-- behind the body of a clause of sort a at x; k: the token behind its word -/
def boQ (b : Nat → Int) (n tx : Nat) (σ : gS) (A F T : Nat → Int) (a : Int) (x k : Nat) (D : List (Int × Int)) (r : Option Value) (σ' : gS) : Prop := r = some (.int (iZ (boE (tkA b n) (nuA b n) a k).1)) ∧ ∃ w1 T1 P1 F1, σ' = ms (pt σ T1 P1 w1) A F1 ∧ ldR b n F1 w1 (boE (tkA b n) (nuA b n) a k).2 ∧ kpM F F1 ∧ (∀ i, i ≠ x + 1 → i ≠ x + 2 → (i < 681 * tx + 73 ∨ 681 * tx + 681 ≤ i) → T1 i = T i) ∧ (inR (T (x + 1)) → inR (T (x + 2)) → inR (T1 (x + 1)) ∧ inR (T1 (x + 2))) ∧ ((boE (tkA b n) (nuA b n) a k).1 = 0 → ∃ E, F1 13 = (((E ++ D).length : Nat) : Int) ∧ dR T1 (681 * tx + 73) (E ++ D) ∧ E.length + k ≤ (boE (tkA b n) (nuA b n) a k).2 ∧ (2 ≤ a → a ≠ 6 → T1 (x + 1) = nuA b n k) ∧ (a = 3 ∨ a = 4 → T1 (x + 2) = nuA b n (k + 2)) ∧ (a ≤ 1 → T1 (x + 1) = ((D.length : Nat) : Int) ∧ T1 (x + 2) = (((E ++ D).length : Nat) : Int) ∧ mPv E (lwE (tkA b n) (nuA b n) a k).2.2.1))
theorem dR_hd {T T1 : Nat → Int} {c : Nat} : ∀ {D : List (Int × Int)}, dR T c D → (∀ i, c ≤ i → i < c + 2 * D.length → T1 i = T i) → dR T1 c D := by
  intro D
  induction D with
  | nil => intro _ _; trivial
  | cons x D ih =>
    intro h e
    rw [List.length_cons] at e
    exact ⟨⟨by rw [e _ (by omega) (by omega)]; exact h.1.1, by rw [e _ (by omega) (by omega)]; exact h.1.2⟩, ih h.2 (fun i a b => e i a (by omega))⟩
theorem bo_ah {b : Nat → Int} {n tx : Nat} {σ : gS} {A F T Pf : Nat → Int} {a : Int} {x k : Nat} {D : List (Int × Int)} {q : Int × Nat} {j : Int} (e : (boE (tkA b n) (nuA b n) a k) = q) (hj : (a ≠ 6 → 1 ≤ j) ∧ (a = 3 ∨ a = 4 → 2 ≤ j)) (ha : 2 ≤ a) (hkq : q.1 = 0 → k ≤ q.2) (h13 : F 13 = ((D.length : Nat) : Int)) (hD : dR T (681 * tx + 73) D) (hx : x + 2 < 681 * tx + 73) {r : Option Value} {σ' : gS} (h : ahQ b n σ A F T Pf x k q j r σ') : boQ b n tx σ A F T a x k D r σ' := by
  obtain ⟨h1, w1, T1, F1, h2, h3, h4, h5, h6⟩ := h
  unfold boQ
  rw [e]
  refine ⟨h1, w1, T1, Pf, F1, h2, h3, kpM_T h4, fun i a b _ => h5.1 i a b, h5.2, fun z => ⟨[], ?_, dR_hd hD (fun i a b => h5.1 i (by omega) (by omega)), by have := hkq z; show 0 + k ≤ q.2; omega, fun _ a6 => (h6 z).1 (hj.1 a6), fun a34 => (h6 z).2 (hj.2 a34), fun a1 => by omega⟩⟩
  exact (h4 13 (by decide) (by decide) (by decide) (by decide)).trans h13
theorem bo_lw {b : Nat → Int} {n tx : Nat} {σ : gS} {A F T : Nat → Int} {a : Int} {x k : Nat} {D : List (Int × Int)} (ha : a = 0 ∨ a = 1) {r : Option Value} {σ' : gS} (h : lawQ b n tx σ A F T a x k D r σ') : boQ b n tx σ A F T a x k D r σ' := by
  obtain ⟨h1, w1, T1, P1, F1, h2, h3, h4, h5, h6, h7⟩ := h
  have e : (boE (tkA b n) (nuA b n) a k) = ((lwE (tkA b n) (nuA b n) a k).1, (lwE (tkA b n) (nuA b n) a k).2.1) := by
    unfold boE
    rw [if_neg (by omega), if_neg (by omega), if_neg (by omega), if_neg (by omega), if_neg (by omega), if_neg (by omega)]
  unfold boQ
  rw [e]
  refine ⟨h1, w1, T1, P1, F1, h2, h3, h4, h5, fun _ _ => h6, fun z => ?_⟩
  obtain ⟨E, a1, a2, a3, a4, a5, a6⟩ := h7 z
  clear h7
  exact ⟨E, a1, a2, a5, fun q => by omega, fun q => by omega, fun _ => ⟨a3, a4, a6⟩⟩
set_option maxHeartbeats 4000000 in
set_option maxRecDepth 100000 in
theorem m_body {d : Nat} (hd : 11 ≤ d) (σ : gS) (A F T Pf : Nat → Int) {w0 : Int} {b : Nat → Int} {n k tx : Nat} {D : List (Int × Int)} (hR : ldR b n F w0 k) (hn3 : n ≤ 300) (hb : σ.2.1 388 = b) (hb8 : ∀ i, i < n → 0 ≤ b i ∧ b i < 256) (h12 : F 12 = ((681 * tx : Nat) : Int)) (h13 : F 13 = ((D.length : Nat) : Int)) (hD : dR T (681 * tx + 73) D) (htx : tx < 4) {a : Int} (h14 : F 14 = a) (ha : 0 ≤ a ∧ a ≤ 7) {nT : Nat} (hnT : nT ≤ 300) (h39 : tkA b n nT = 39) (hk : k ≤ nT) (hDl : D.length ≤ k) {z : Int} {x : Nat} (hz : z = (x : Int)) (hx : x + 2 < 681 * tx + 73) : sC mX7_body d [.ref 384, .int (iZ a), .int (iZ z)] (ms (pt σ T Pf w0) A F) (boQ b n tx σ A F T a x k D) := by
  refine sC_of rfl (Nat.le_of_ble_eq_true rfl) ?_
  show sE g_tt _ _ _ 0 [some (.ref 384), some (.int (iZ a)), some (.int (iZ z))] [] (ms (pt σ T Pf w0) A F)
  refine q_iload_n dX7_body_0 rfl rfl ?_
  by_cases s_1 : (a : Int) = 2
  · refine z_top s_1 ?_
    refine q_tableIn (tgt := 40) (off := 39) dX7_body_1 (by decide +kernel) (by decide +kernel) (by decide +kernel) (by decide) ?_
    refine q_aload_n dX7_body_40 rfl rfl ?_
    refine q_iload_n dX7_body_41 rfl rfl ?_
    refine z_iconst dX7_body_42 ?_
    refine z_iadd dX7_body_43 ?_
    refine z_iconst dX7_body_44 ?_
    refine z_bipush dX7_body_45 (by decide +kernel) ?_
    refine s_callV (ci := 7) (a := 384) (As := [.int (iZ (z + 1)), .int (iZ 0), .int (iZ 7)]) (S := []) dX7_body_47 okX7_figure mlX7_212 rfl (by omega) rfl (Nat.le_of_ble_eq_true rfl) (show kd 384 = 7 from rfl) (by decide) rfl (sC_imp (fun _ _ h => fig_ah (x := x) hR h) (m_figure (d := d - 1) (x := x + 1) (lo := 0) (hi := 7) (by omega) σ A F T Pf hR hn3 hb hb8 (by omega) (by omega) (by omega) (by omega))) (fun v_ σ_ hq => ?_)
    have hB : boQ b n tx σ A F T a x k D _ _ := bo_ah (by unfold boE; (repeat (first | rw [if_pos (by omega)] | rw [if_neg (by omega)]))) ⟨fun _ => by decide, fun q => by omega⟩ (by omega) (fun z => by have := (fg_38 z).2; omega) h13 hD hx hq
    obtain ⟨hv, -⟩ := hq
    subst hv
    show sE g_tt _ _ _ 50 [some (.ref 384), some (.int (iZ a)), some (.int (iZ z))] [.int (iZ ((fgE (tkA b n) (nuA b n) 0 7 k).1))] σ_
    exact s_iretZ dX7_body_50 rfl hB
  by_cases s_2 : (a : Int) = 3
  · refine z_top s_2 ?_
    refine q_tableIn (tgt := 51) (off := 50) dX7_body_1 (by decide +kernel) (by decide +kernel) (by decide +kernel) (by decide) ?_
    refine q_aload_n dX7_body_51 rfl rfl ?_
    refine q_iload_n dX7_body_52 rfl rfl ?_
    refine z_iconst dX7_body_53 ?_
    refine z_bipush dX7_body_54 (by decide +kernel) ?_
    refine s_callV (ci := 7) (a := 384) (As := [.int (iZ z), .int (iZ 0), .int (iZ 40)]) (S := []) dX7_body_56 okX7_atHouse mlX7_216 rfl (by omega) rfl (Nat.le_of_ble_eq_true rfl) (show kd 384 = 7 from rfl) (by decide) rfl (m_atHouse (d := d - 1) (x := x) (lo := 0) (hi := 40) (by omega) σ A F T Pf hR hn3 hb hb8 hz (by omega) (by omega) (by omega)) (fun v_ σ_ hq => ?_)
    have hB : boQ b n tx σ A F T a x k D _ _ := bo_ah (by unfold boE; (repeat (first | rw [if_pos (by omega)] | rw [if_neg (by omega)]))) ⟨fun _ => by decide, fun q => by decide⟩ (by omega) (fun z => by have := (ah_ok (nu := nuA b n) (lo := 0) (hi := 40) h39 hk).2.2.1; omega) h13 hD hx hq
    obtain ⟨hv, -⟩ := hq
    subst hv
    show sE g_tt _ _ _ 59 [some (.ref 384), some (.int (iZ a)), some (.int (iZ z))] [.int (iZ ((ahE (tkA b n) (nuA b n) 0 40 k).1))] σ_
    exact s_iretZ dX7_body_59 rfl hB
  by_cases s_3 : (a : Int) = 4
  · refine z_top s_3 ?_
    refine q_tableIn (tgt := 60) (off := 59) dX7_body_1 (by decide +kernel) (by decide +kernel) (by decide +kernel) (by decide) ?_
    refine q_aload_n dX7_body_60 rfl rfl ?_
    refine q_iload_n dX7_body_61 rfl rfl ?_
    refine z_iconst dX7_body_62 ?_
    refine z_bipush dX7_body_63 (by decide +kernel) ?_
    refine s_callV (ci := 7) (a := 384) (As := [.int (iZ z), .int (iZ 1), .int (iZ 20)]) (S := []) dX7_body_65 okX7_atHouse mlX7_216 rfl (by omega) rfl (Nat.le_of_ble_eq_true rfl) (show kd 384 = 7 from rfl) (by decide) rfl (m_atHouse (d := d - 1) (x := x) (lo := 1) (hi := 20) (by omega) σ A F T Pf hR hn3 hb hb8 hz (by omega) (by omega) (by omega)) (fun v_ σ_ hq => ?_)
    have hB : boQ b n tx σ A F T a x k D _ _ := bo_ah (by unfold boE; (repeat (first | rw [if_pos (by omega)] | rw [if_neg (by omega)]))) ⟨fun _ => by decide, fun q => by decide⟩ (by omega) (fun z => by have := (ah_ok (nu := nuA b n) (lo := 1) (hi := 20) h39 hk).2.2.1; omega) h13 hD hx hq
    obtain ⟨hv, -⟩ := hq
    subst hv
    show sE g_tt _ _ _ 68 [some (.ref 384), some (.int (iZ a)), some (.int (iZ z))] [.int (iZ ((ahE (tkA b n) (nuA b n) 1 20 k).1))] σ_
    exact s_iretZ dX7_body_68 rfl hB
  by_cases s_4 : (a : Int) = 5
  · refine z_top s_4 ?_
    refine q_tableIn (tgt := 69) (off := 68) dX7_body_1 (by decide +kernel) (by decide +kernel) (by decide +kernel) (by decide) ?_
    refine q_aload_n dX7_body_69 rfl rfl ?_
    refine q_iload_n dX7_body_70 rfl rfl ?_
    refine z_iconst dX7_body_71 ?_
    refine z_iadd dX7_body_72 ?_
    refine z_iconst dX7_body_73 ?_
    refine z_bipush dX7_body_74 (by decide +kernel) ?_
    refine s_callV (ci := 7) (a := 384) (As := [.int (iZ (z + 1)), .int (iZ 0), .int (iZ 7)]) (S := []) dX7_body_76 okX7_figure mlX7_212 rfl (by omega) rfl (Nat.le_of_ble_eq_true rfl) (show kd 384 = 7 from rfl) (by decide) rfl (sC_imp (fun _ _ h => fig_ah (x := x) hR h) (m_figure (d := d - 1) (x := x + 1) (lo := 0) (hi := 7) (by omega) σ A F T Pf hR hn3 hb hb8 (by omega) (by omega) (by omega) (by omega))) (fun v_ σ_ hq => ?_)
    have hB : boQ b n tx σ A F T a x k D _ _ := bo_ah (by unfold boE; (repeat (first | rw [if_pos (by omega)] | rw [if_neg (by omega)]))) ⟨fun _ => by decide, fun q => by omega⟩ (by omega) (fun z => by have := (fg_38 z).2; omega) h13 hD hx hq
    obtain ⟨hv, -⟩ := hq
    subst hv
    show sE g_tt _ _ _ 79 [some (.ref 384), some (.int (iZ a)), some (.int (iZ z))] [.int (iZ ((fgE (tkA b n) (nuA b n) 0 7 k).1))] σ_
    exact s_iretZ dX7_body_79 rfl hB
  by_cases s_5 : (a : Int) = 6
  · refine z_top s_5 ?_
    refine q_tableIn (tgt := 80) (off := 79) dX7_body_1 (by decide +kernel) (by decide +kernel) (by decide +kernel) (by decide) ?_
    refine z_iconst dX7_body_80 ?_
    exact s_iretZ dX7_body_81 rfl (show boQ b n tx σ A F T a x k D _ _ by
      have e : (boE (tkA b n) (nuA b n) a k) = (0, k) := by unfold boE; (repeat (first | rw [if_pos (by omega)] | rw [if_neg (by omega)]))
      unfold boQ
      rw [e]
      exact ⟨rfl, w0, T, Pf, F, rfl, hR, kpM_rf F, fun _ _ _ _ => rfl, fun a b => ⟨a, b⟩, fun _ => ⟨[], h13, hD, by show 0 + k ≤ k; omega, fun _ q => absurd (by assumption) q, fun q => by omega, fun q => by omega⟩⟩)
  by_cases s_6 : (a : Int) = 7
  · refine z_top s_6 ?_
    refine q_tableIn (tgt := 82) (off := 81) dX7_body_1 (by decide +kernel) (by decide +kernel) (by decide +kernel) (by decide) ?_
    refine q_aload_n dX7_body_82 rfl rfl ?_
    refine q_iload_n dX7_body_83 rfl rfl ?_
    refine z_iconst dX7_body_84 ?_
    refine z_iadd dX7_body_85 ?_
    refine z_iconst dX7_body_86 ?_
    refine z_bipush dX7_body_87 (by decide +kernel) ?_
    refine s_callV (ci := 7) (a := 384) (As := [.int (iZ (z + 1)), .int (iZ 1), .int (iZ 60)]) (S := []) dX7_body_89 okX7_figure mlX7_212 rfl (by omega) rfl (Nat.le_of_ble_eq_true rfl) (show kd 384 = 7 from rfl) (by decide) rfl (sC_imp (fun _ _ h => fig_ah (x := x) hR h) (m_figure (d := d - 1) (x := x + 1) (lo := 1) (hi := 60) (by omega) σ A F T Pf hR hn3 hb hb8 (by omega) (by omega) (by omega) (by omega))) (fun v_ σ_ hq => ?_)
    have hB : boQ b n tx σ A F T a x k D _ _ := bo_ah (by unfold boE; (repeat (first | rw [if_pos (by omega)] | rw [if_neg (by omega)]))) ⟨fun _ => by decide, fun q => by omega⟩ (by omega) (fun z => by have := (fg_38 z).2; omega) h13 hD hx hq
    obtain ⟨hv, -⟩ := hq
    subst hv
    show sE g_tt _ _ _ 92 [some (.ref 384), some (.int (iZ a)), some (.int (iZ z))] [.int (iZ ((fgE (tkA b n) (nuA b n) 1 60 k).1))] σ_
    exact s_iretZ dX7_body_92 rfl hB
  refine q_tableOut (tgt := 93) dX7_body_1 (by rw [iZ_toInt (by unfold inR; omega)]; omega) (by decide) ?_
  refine q_aload_n dX7_body_93 rfl rfl ?_
  refine q_iload_n dX7_body_94 rfl rfl ?_
  refine s_callV (ci := 7) (a := 384) (As := [.int (iZ z)]) (S := []) dX7_body_95 okX7_lawClause mlX7_219 rfl (by omega) rfl (Nat.le_of_ble_eq_true rfl) (show kd 384 = 7 from rfl) (by decide) rfl (m_lawClause (d := d - 1) (by omega) σ A F T Pf hR hn3 hb hb8 h12 h13 hD htx h14 (show a = 0 ∨ a = 1 by omega) hnT h39 hk hDl hz hx) (fun v_ σ_ hq => ?_)
  have hB : boQ b n tx σ A F T a x k D _ _ := bo_lw (show a = 0 ∨ a = 1 by omega) hq
  obtain ⟨hv, -⟩ := hq
  subst hv
  show sE g_tt _ _ _ 98 [some (.ref 384), some (.int (iZ a)), some (.int (iZ z))] [.int (iZ ((lwE (tkA b n) (nuA b n) a k).1))] σ_
  exact s_iretZ dX7_body_98 rfl hB
