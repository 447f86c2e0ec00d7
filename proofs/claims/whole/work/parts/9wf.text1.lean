/-! ===== the model's text: figure, atHouse, lawClause ===== -/
theorem fg_a {tk nu : Nat → Int} {lo hi : Int} {k : Nat} (h : ¬ tk k = 38) : fgE tk nu lo hi k = (1, k) := by unfold fgE; rw [if_neg h]
theorem fg_b {tk nu : Nat → Int} {lo hi : Int} {k : Nat} (h : tk k = 38) (h2 : ¬ (lo ≤ nu k ∧ nu k ≤ hi)) : fgE tk nu lo hi k = (2, k) := by unfold fgE; rw [if_pos h, if_neg h2]
theorem fg_c {tk nu : Nat → Int} {lo hi : Int} {k : Nat} (h : tk k = 38) (h2 : lo ≤ nu k ∧ nu k ≤ hi) : fgE tk nu lo hi k = (0, k + 1) := by unfold fgE; rw [if_pos h, if_pos h2]
theorem tok_38 {f9 f10 wd t v : Int} (h : tokR f9 f10 wd t v) : (f9 = 1 ↔ t = 38) ∧ (t = 38 → v = min f10 10000) := ⟨h.2.2.2.2.2.1, h.2.2.2.2.2.2.1⟩
def figQ (b : Nat → Int) (n : Nat) (σ : gS) (A F T Pf : Nat → Int) (lo hi : Int) (x k : Nat) (r : Option Value) (σ' : gS) : Prop := r = some (.int (iZ (fgE (tkA b n) (nuA b n) lo hi k).1)) ∧ ∃ w1 F1, σ' = ms (pt σ (if (fgE (tkA b n) (nuA b n) lo hi k).1 = 0 then va_up T x (nuA b n k) else T) Pf w1) A F1 ∧ ldR b n F1 w1 (fgE (tkA b n) (nuA b n) lo hi k).2 ∧ kpT F F1
set_option maxHeartbeats 4000000 in
set_option maxRecDepth 100000 in
theorem m_figure {d : Nat} (hd : 2 ≤ d) (σ : gS) (A F T Pf : Nat → Int) {w0 : Int} {b : Nat → Int} {n k : Nat} (hR : ldR b n F w0 k) (hn3 : n ≤ 300) (hb : σ.2.1 388 = b) (hb8 : ∀ i, i < n → 0 ≤ b i ∧ b i < 256) {z : Int} {x : Nat} (hz : z = (x : Int)) (hx : x < 2724) {lo hi : Int} (hlo : 0 ≤ lo ∧ lo ≤ 1) (hhi : 0 ≤ hi ∧ hi ≤ 100) : sC mX7_figure d [.ref 384, .int (iZ z), .int (iZ lo), .int (iZ hi)] (ms (pt σ T Pf w0) A F) (figQ b n σ A F T Pf lo hi x k) := by
  have t38 := tok_38 hR.2.2.2
  have t1 := hR.2.2.2.1
  have t2 := hR.2.2.2.2.1
  refine sC_of rfl (Nat.le_of_ble_eq_true rfl) ?_
  show sE g_tt _ _ _ 0 [some (.ref 384), some (.int (iZ z)), some (.int (iZ lo)), some (.int (iZ hi))] [] (ms (pt σ T Pf w0) A F)
  refine q_aload_n dX7_figure_0 rfl rfl ?_
  refine sg7 (kf := 9) (v := .int (iZ (F 9))) dX7_figure_1 flX7_91 (show kd 384 = 7 from rfl) (by decide) rfl ?_
  refine z_iconst dX7_figure_4 ?_
  refine z_icmp_eq (tgt := 10) dX7_figure_5 (by decide) (by unfold inR; omega) (by unfold inR; omega) (fun c_1 => ?_) (fun c_1 => ?_)
  · refine q_aload_n dX7_figure_10 rfl rfl ?_
    refine sg7 (kf := 10) (v := .int (iZ (F 10))) dX7_figure_11 flX7_97 (show kd 384 = 7 from rfl) (by decide) rfl ?_
    refine q_iload_n dX7_figure_14 rfl rfl ?_
    refine q_iload_n dX7_figure_15 rfl rfl ?_
    refine s_callS (As := [.int (iZ (F 10)), .int (iZ lo), .int (iZ hi)]) (S := []) dX7_figure_16 okX7_isIn mlX7_66 rfl (by omega) rfl (Nat.le_of_ble_eq_true rfl) (m_isIn (d := d - 1) (v := F 10) (a := lo) (b := hi) (by unfold inR; omega) (by unfold inR; omega) (by unfold inR; omega) (ms (pt σ T Pf w0) A F)) (fun v_ σ_ hq => ?_)
    obtain ⟨rfl, e9⟩ := hq
    have e9 := e9.symm
    subst e9
    show sE g_tt _ _ _ 19 [some (.ref 384), some (.int (iZ z)), some (.int (iZ lo)), some (.int (iZ hi))] [.int (iZ (if lo ≤ F 10 ∧ F 10 ≤ hi then 1 else 0))] (ms (pt σ T Pf w0) A F)
    refine z_if_ne (tgt := 24) dX7_figure_19 (by decide) inR_01 (fun c_2 => ?_) (fun c_2 => ?_)
    · have c_2 := if01_1 c_2
      refine q_aload_n dX7_figure_24 rfl rfl ?_
      refine sg7 (kf := 2) (v := .ref 387) dX7_figure_25 flX7_16 (show kd 384 = 7 from rfl) (by decide) rfl ?_
      refine q_iload_n dX7_figure_28 rfl rfl ?_
      refine q_aload_n dX7_figure_29 rfl rfl ?_
      refine sg7 (kf := 10) (v := .int (iZ (F 10))) dX7_figure_30 flX7_97 (show kd 384 = 7 from rfl) (by decide) rfl ?_
      refine pt_st387 (k := x) dX7_figure_33 (by omega) (by omega) (by omega) ?_
      refine q_aload_n dX7_figure_34 rfl rfl ?_
      refine s_callV (ci := 7) (a := 384) (As := []) (S := []) dX7_figure_35 okX7_nextToken mlX7_162 rfl (by omega) rfl (Nat.le_of_ble_eq_true rfl) (show kd 384 = 7 from rfl) (by decide) rfl (m_nxt (d := d - 1) (by omega) σ A F (va_up T x (F 10)) Pf hn3 hb hb8 hR) (fun v_ σ_ hq => ?_)
      obtain ⟨rfl, w1, F9, e9, ld9, kp9⟩ := hq
      subst e9
      show sE g_tt _ _ _ 38 [some (.ref 384), some (.int (iZ z)), some (.int (iZ lo)), some (.int (iZ hi))] [] (ms (pt σ (va_up T x (F 10)) Pf w1) A F9)
      refine z_iconst dX7_figure_38 ?_
      exact s_iretZ dX7_figure_39 rfl (show figQ b n σ A F T Pf lo hi x k _ _ by unfold figQ; have q1 := t38.1.1 (by assumption); have q2 := t38.2 q1; rw [fg_c q1 (by omega), show nuA b n k = F 10 by omega]; exact ⟨rfl, w1, F9, rfl, ld9, kp9⟩)
    · have c_2 := if01_0 c_2
      refine z_iconst dX7_figure_22 ?_
      exact s_iretZ dX7_figure_23 rfl (show figQ b n σ A F T Pf lo hi x k _ _ by unfold figQ; have q1 := t38.1.1 (by assumption); have q2 := t38.2 q1; rw [fg_b q1 (by omega)]; exact ⟨rfl, w0, F, rfl, hR, kpT_rf F⟩)
  · refine z_iconst dX7_figure_8 ?_
    exact s_iretZ dX7_figure_9 rfl (show figQ b n σ A F T Pf lo hi x k _ _ by unfold figQ; rw [fg_a (fun z => c_1 (t38.1.2 z))]; exact ⟨rfl, w0, F, rfl, hR, kpT_rf F⟩)
/-- only the two numbers of the clause at x have changed -/
def hdQ (x : Nat) (T T1 : Nat → Int) : Prop := (∀ i, i ≠ x + 1 → i ≠ x + 2 → T1 i = T i) ∧ (inR (T (x + 1)) → inR (T (x + 2)) → inR (T1 (x + 1)) ∧ inR (T1 (x + 2)))
theorem hdQ_rf (x : Nat) (T : Nat → Int) : hdQ x T T := ⟨fun _ _ _ => rfl, fun a b => ⟨a, b⟩⟩
theorem hdQ_1 {x : Nat} {T T1 : Nat → Int} (h : hdQ x T T1) {v : Int} (hv : inR v) : hdQ x T (va_up T1 (x + 1) v) := ⟨fun i a b => by rw [va_up_ne _ _ a]; exact h.1 i a b, fun a b => by rw [va_up_self, va_up_ne _ _ (by omega)]; exact ⟨hv, (h.2 a b).2⟩⟩
theorem hdQ_2 {x : Nat} {T T1 : Nat → Int} (h : hdQ x T T1) {v : Int} (hv : inR v) : hdQ x T (va_up T1 (x + 2) v) := ⟨fun i a b => by rw [va_up_ne _ _ b]; exact h.1 i a b, fun a b => by rw [va_up_self, va_up_ne _ _ (by omega)]; exact ⟨(h.2 a b).1, hv⟩⟩
theorem nuA_r {f9 f10 wd t v : Int} (h : tokR f9 f10 wd t v) (q : t = 38) : inR v := by
  have a := h.2.1
  have b := h.2.2.2.2.2.2.1 q
  unfold inR
  omega
theorem fg_38 {tk nu : Nat → Int} {lo hi : Int} {k : Nat} (h : (fgE tk nu lo hi k).1 = 0) : tk k = 38 ∧ (fgE tk nu lo hi k).2 = k + 1 := by
  unfold fgE at *
  by_cases q : tk k = 38
  · rw [if_pos q] at *
    by_cases q2 : lo ≤ nu k ∧ nu k ≤ hi
    · rw [if_pos q2]; exact ⟨q, rfl⟩
    · rw [if_neg q2] at h; exact absurd h (show ¬ (2 : Int) = 0 by decide)
  · rw [if_neg q] at h; exact absurd h (show ¬ (1 : Int) = 0 by decide)
theorem fg_r {tk nu : Nat → Int} {lo hi : Int} {k : Nat} : 0 ≤ (fgE tk nu lo hi k).1 ∧ (fgE tk nu lo hi k).1 ≤ 2 := by
  unfold fgE
  repeat' split
  all_goals exact ⟨by simp, by simp⟩
theorem ah_a {tk nu : Nat → Int} {lo hi : Int} {k : Nat} (h : ¬ (fgE tk nu lo hi k).1 = 0) : ahE tk nu lo hi k = fgE tk nu lo hi k := by
  have e : xpE tk 8 (fgE tk nu lo hi k) = fgE tk nu lo hi k := by unfold xpE; rw [if_neg h]
  unfold ahE
  rw [e, if_neg h]
theorem ah_b {tk nu : Nat → Int} {lo hi : Int} {k : Nat} (h : (fgE tk nu lo hi k).1 = 0) (h2 : ¬ tk (k + 1) = 8) : ahE tk nu lo hi k = (1, k + 1) := by
  have f := (fg_38 h).2
  have e : xpE tk 8 (fgE tk nu lo hi k) = (1, k + 1) := by unfold xpE; rw [if_pos h, f, if_neg h2]
  unfold ahE
  rw [e]
  rfl
theorem ah_c {tk nu : Nat → Int} {lo hi : Int} {k : Nat} (h : (fgE tk nu lo hi k).1 = 0) (h2 : tk (k + 1) = 8) : ahE tk nu lo hi k = fgE tk nu 0 7 (k + 2) := by
  have f := (fg_38 h).2
  have e : xpE tk 8 (fgE tk nu lo hi k) = (0, k + 2) := by unfold xpE; rw [if_pos h, f, if_pos h2]
  unfold ahE
  rw [e]
  rfl
def ahQ (b : Nat → Int) (n : Nat) (σ : gS) (A F T Pf : Nat → Int) (x k : Nat) (q : Int × Nat) (j : Int) (r : Option Value) (σ' : gS) : Prop := r = some (.int (iZ q.1)) ∧ ∃ w1 T1 F1, σ' = ms (pt σ T1 Pf w1) A F1 ∧ ldR b n F1 w1 q.2 ∧ kpT F F1 ∧ hdQ x T T1 ∧ (q.1 = 0 → (1 ≤ j → T1 (x + 1) = nuA b n k) ∧ (2 ≤ j → T1 (x + 2) = nuA b n (k + 2)))
/-- figure, as a clause's only number -/
theorem fig_ah {b : Nat → Int} {n : Nat} {σ : gS} {A F T Pf : Nat → Int} {lo hi : Int} {x k : Nat} {w0 : Int} (hR : ldR b n F w0 k) {r : Option Value} {σ' : gS} (h : figQ b n σ A F T Pf lo hi (x + 1) k r σ') : ahQ b n σ A F T Pf x k (fgE (tkA b n) (nuA b n) lo hi k) 1 r σ' := by
  obtain ⟨h1, w1, F1, h2, h3, h4⟩ := h
  refine ⟨h1, w1, _, F1, h2, h3, h4, ?_, fun z => ⟨fun _ => by rw [if_pos z]; exact va_up_self _ _ _, fun j => absurd j (by decide)⟩⟩
  by_cases q : (fgE (tkA b n) (nuA b n) lo hi k).1 = 0
  · rw [if_pos q]; exact hdQ_1 (hdQ_rf x T) (nuA_r hR.2.2.2 (fg_38 q).1)
  · rw [if_neg q]; exact hdQ_rf x T
set_option maxHeartbeats 4000000 in
set_option maxRecDepth 100000 in
theorem m_atHouse {d : Nat} (hd : 3 ≤ d) (σ : gS) (A F T Pf : Nat → Int) {w0 : Int} {b : Nat → Int} {n k : Nat} (hR : ldR b n F w0 k) (hn3 : n ≤ 300) (hb : σ.2.1 388 = b) (hb8 : ∀ i, i < n → 0 ≤ b i ∧ b i < 256) {z : Int} {x : Nat} (hz : z = (x : Int)) (hx : x + 2 < 2724) {lo hi : Int} (hlo : 0 ≤ lo ∧ lo ≤ 1) (hhi : 0 ≤ hi ∧ hi ≤ 100) : sC mX7_atHouse d [.ref 384, .int (iZ z), .int (iZ lo), .int (iZ hi)] (ms (pt σ T Pf w0) A F) (ahQ b n σ A F T Pf x k (ahE (tkA b n) (nuA b n) lo hi k) 2) := by
  refine sC_of rfl (Nat.le_of_ble_eq_true rfl) ?_
  show sE g_tt _ _ _ 0 [some (.ref 384), some (.int (iZ z)), some (.int (iZ lo)), some (.int (iZ hi)), none] [] (ms (pt σ T Pf w0) A F)
  refine q_aload_n dX7_atHouse_0 rfl rfl ?_
  refine q_iload_n dX7_atHouse_1 rfl rfl ?_
  refine z_iconst dX7_atHouse_2 ?_
  refine z_iadd dX7_atHouse_3 ?_
  refine q_iload_n dX7_atHouse_4 rfl rfl ?_
  refine q_iload_n dX7_atHouse_5 rfl rfl ?_
  refine s_callV (ci := 7) (a := 384) (As := [.int (iZ (z + 1)), .int (iZ lo), .int (iZ hi)]) (S := []) dX7_atHouse_6 okX7_figure mlX7_212 rfl (by omega) rfl (Nat.le_of_ble_eq_true rfl) (show kd 384 = 7 from rfl) (by decide) rfl (m_figure (d := d - 1) (x := x + 1) (by omega) σ A F T Pf hR hn3 hb hb8 (by omega) (by omega) hlo hhi) (fun v_ σ_ hq => ?_)
  obtain ⟨rfl, w2, F2, e9, ld2, kp2⟩ := hq
  subst e9
  have hfr := fg_r (tk := tkA b n) (nu := nuA b n) (lo := lo) (hi := hi) (k := k)
  show sE g_tt _ _ _ 9 [some (.ref 384), some (.int (iZ z)), some (.int (iZ lo)), some (.int (iZ hi)), none] [.int (iZ ((fgE (tkA b n) (nuA b n) lo hi k).1))] (ms (pt σ (if (fgE (tkA b n) (nuA b n) lo hi k).1 = 0 then va_up T (x + 1) (nuA b n k) else T) Pf w2) A F2)
  refine q_istore dX7_atHouse_9 (by decide) ?_
  show sE g_tt _ _ _ 11 [some (.ref 384), some (.int (iZ z)), some (.int (iZ lo)), some (.int (iZ hi)), some (.int (iZ ((fgE (tkA b n) (nuA b n) lo hi k).1)))] [] (ms (pt σ (if (fgE (tkA b n) (nuA b n) lo hi k).1 = 0 then va_up T (x + 1) (nuA b n k) else T) Pf w2) A F2)
  refine q_iload dX7_atHouse_11 rfl ?_
  refine z_if_eq (tgt := 19) dX7_atHouse_13 (by decide) (by unfold inR; omega) (fun c_1 => ?_) (fun c_1 => ?_)
  · refine q_aload_n dX7_atHouse_19 rfl rfl ?_
    refine z_bipush dX7_atHouse_20 (by decide +kernel) ?_
    refine z_bipush dX7_atHouse_22 (by decide +kernel) ?_
    refine s_callS (As := [.int (iZ 97), .int (iZ 116)]) (S := [.ref 384]) dX7_atHouse_24 okX7_w2 mlX7_113 rfl (by omega) rfl (Nat.le_of_ble_eq_true rfl) (m_w2 (d := d - 1) (x := 97) (y := 116) (by omega) (by omega) (by omega) (ms (pt σ (if (fgE (tkA b n) (nuA b n) lo hi k).1 = 0 then va_up T (x + 1) (nuA b n k) else T) Pf w2) A F2)) (fun v_ σ_ hq => ?_)
    obtain ⟨rfl, e9⟩ := hq
    have e9 := e9.symm
    subst e9
    show sE g_tt _ _ _ 27 [some (.ref 384), some (.int (iZ z)), some (.int (iZ lo)), some (.int (iZ hi)), some (.int (iZ ((fgE (tkA b n) (nuA b n) lo hi k).1)))] [.long (lZ (97 * 256 + 116)), .ref 384] (ms (pt σ (if (fgE (tkA b n) (nuA b n) lo hi k).1 = 0 then va_up T (x + 1) (nuA b n k) else T) Pf w2) A F2)
    refine s_callV (ci := 7) (a := 384) (As := [.long (lZ (97 * 256 + 116))]) (S := []) dX7_atHouse_27 okX7_isWord mlX7_177 rfl (by omega) rfl (Nat.le_of_ble_eq_true rfl) (show kd 384 = 7 from rfl) (by decide) rfl (m_isW (d := d - 1) (x := 97 * 256 + 116) σ A F2 (if (fgE (tkA b n) (nuA b n) lo hi k).1 = 0 then va_up T (x + 1) (nuA b n k) else T) Pf (b := b) (n := n) (k := (fgE (tkA b n) (nuA b n) lo hi k).2) ld2 (j := 8) (by decide) (by decide +kernel)) (fun v_ σ_ hq => ?_)
    obtain ⟨rfl, e9⟩ := hq
    have e9 := e9.symm
    subst e9
    show sE g_tt _ _ _ 30 [some (.ref 384), some (.int (iZ z)), some (.int (iZ lo)), some (.int (iZ hi)), some (.int (iZ ((fgE (tkA b n) (nuA b n) lo hi k).1)))] [.int (iZ (if tkA b n ((fgE (tkA b n) (nuA b n) lo hi k).2) = ((8 : Nat) : Int) then 1 else 0))] (ms (pt σ (if (fgE (tkA b n) (nuA b n) lo hi k).1 = 0 then va_up T (x + 1) (nuA b n k) else T) Pf w2) A F2)
    refine z_if_ne (tgt := 35) dX7_atHouse_30 (by decide) inR_01 (fun c_2 => ?_) (fun c_2 => ?_)
    · have c_2 := if01_1 c_2
      refine q_aload_n dX7_atHouse_35 rfl rfl ?_
      refine s_callV (ci := 7) (a := 384) (As := []) (S := []) dX7_atHouse_36 okX7_nextToken mlX7_162 rfl (by omega) rfl (Nat.le_of_ble_eq_true rfl) (show kd 384 = 7 from rfl) (by decide) rfl (m_nxt (d := d - 1) (by omega) σ A F2 (if (fgE (tkA b n) (nuA b n) lo hi k).1 = 0 then va_up T (x + 1) (nuA b n k) else T) Pf hn3 hb hb8 ld2) (fun v_ σ_ hq => ?_)
      obtain ⟨rfl, w1, F9, e9, ld9, kp9⟩ := hq
      subst e9
      show sE g_tt _ _ _ 39 [some (.ref 384), some (.int (iZ z)), some (.int (iZ lo)), some (.int (iZ hi)), some (.int (iZ ((fgE (tkA b n) (nuA b n) lo hi k).1)))] [] (ms (pt σ (if (fgE (tkA b n) (nuA b n) lo hi k).1 = 0 then va_up T (x + 1) (nuA b n k) else T) Pf w1) A F9)
      refine q_aload_n dX7_atHouse_39 rfl rfl ?_
      refine q_iload_n dX7_atHouse_40 rfl rfl ?_
      refine z_iconst dX7_atHouse_41 ?_
      refine z_iadd dX7_atHouse_42 ?_
      refine z_iconst dX7_atHouse_43 ?_
      refine z_bipush dX7_atHouse_44 (by decide +kernel) ?_
      refine s_callV (ci := 7) (a := 384) (As := [.int (iZ (z + 2)), .int (iZ 0), .int (iZ 7)]) (S := []) dX7_atHouse_46 okX7_figure mlX7_212 rfl (by omega) rfl (Nat.le_of_ble_eq_true rfl) (show kd 384 = 7 from rfl) (by decide) rfl (m_figure (d := d - 1) (x := x + 2) (by omega) σ A F9 (if (fgE (tkA b n) (nuA b n) lo hi k).1 = 0 then va_up T (x + 1) (nuA b n k) else T) Pf ld9 hn3 hb hb8 (by omega) (by omega) (by omega) (by omega)) (fun v_ σ_ hq => ?_)
      obtain ⟨rfl, w3, F3, e9, ld3, kp3⟩ := hq
      subst e9
      show sE g_tt _ _ _ 49 [some (.ref 384), some (.int (iZ z)), some (.int (iZ lo)), some (.int (iZ hi)), some (.int (iZ ((fgE (tkA b n) (nuA b n) lo hi k).1)))] [.int (iZ ((fgE (tkA b n) (nuA b n) 0 7 ((fgE (tkA b n) (nuA b n) lo hi k).2 + 1)).1))] (ms (pt σ (if (fgE (tkA b n) (nuA b n) 0 7 ((fgE (tkA b n) (nuA b n) lo hi k).2 + 1)).1 = 0 then va_up (if (fgE (tkA b n) (nuA b n) lo hi k).1 = 0 then va_up T (x + 1) (nuA b n k) else T) (x + 2) (nuA b n ((fgE (tkA b n) (nuA b n) lo hi k).2 + 1)) else (if (fgE (tkA b n) (nuA b n) lo hi k).1 = 0 then va_up T (x + 1) (nuA b n k) else T)) Pf w3) A F3)
      exact s_iretZ dX7_atHouse_49 rfl (show ahQ b n σ A F T Pf x k (ahE (tkA b n) (nuA b n) lo hi k) 2 _ _ by
        have q1 : (fgE (tkA b n) (nuA b n) lo hi k).1 = 0 := by assumption
        have q2 := (fg_38 q1).2
        have q3 := c_2
        rw [q2] at q3 ld3 ld9 ⊢
        rw [ah_c q1 (by omega), if_pos q1]
        refine ⟨rfl, w3, _, F3, rfl, ld3, fun j a b c e => (kp3 j a b c e).trans ((kp9 j a b c e).trans (kp2 j a b c e)), ?_, fun z => ?_⟩
        · by_cases q4 : (fgE (tkA b n) (nuA b n) 0 7 (k + 1 + 1)).1 = 0
          · rw [if_pos q4]; exact hdQ_2 (hdQ_1 (hdQ_rf x T) (nuA_r hR.2.2.2 (fg_38 q1).1)) (nuA_r ld9.2.2.2 (fg_38 q4).1)
          · rw [if_neg q4]; exact hdQ_1 (hdQ_rf x T) (nuA_r hR.2.2.2 (fg_38 q1).1)
        · rw [if_pos z]; exact ⟨fun _ => (va_up_ne _ _ (by omega)).trans (va_up_self _ _ _), fun _ => va_up_self _ _ _⟩)
    · have c_2 := if01_0 c_2
      refine z_iconst dX7_atHouse_33 ?_
      exact s_iretZ dX7_atHouse_34 rfl (show ahQ b n σ A F T Pf x k (ahE (tkA b n) (nuA b n) lo hi k) 2 _ _ by
        have q1 : (fgE (tkA b n) (nuA b n) lo hi k).1 = 0 := by assumption
        have q2 := (fg_38 q1).2
        have q3 := c_2
        rw [q2] at q3 ld2
        rw [ah_b q1 (by omega), if_pos q1]
        exact ⟨rfl, w2, _, F2, rfl, ld2, kp2, hdQ_1 (hdQ_rf x T) (nuA_r hR.2.2.2 (fg_38 q1).1), fun z => absurd z (show ¬ (1 : Int) = 0 by decide)⟩)
  · refine q_iload dX7_atHouse_16 rfl ?_
    exact s_iretZ dX7_atHouse_18 rfl (show ahQ b n σ A F T Pf x k (ahE (tkA b n) (nuA b n) lo hi k) 2 _ _ by
      rw [ah_a (by assumption)]
      rw [if_neg (by assumption)]
      exact ⟨rfl, w2, T, F2, rfl, ld2, kp2, hdQ_rf x T, fun z => absurd z (by assumption)⟩)
