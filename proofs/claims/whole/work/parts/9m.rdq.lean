/-! ===== what the class's reader has done, by the tokens' sum ===== -/
/-- a sum has been read: behind B it is B'; s tokens more than instructions -/
def rdG (so : Int) (B : rB) (nd s : Nat) (r : rE) (B' : rB) : Prop := B'.1 = 0 ∧ B'.2.1 = B.2.1 ∧ B'.2.2.1 = r.2.1 ∧ B'.2.2.2.1 + B.2.2.1 + s ≤ B.2.2.2.1 + B'.2.2.1 ∧ B'.2.2.2.2.1 = (if so = 0 then B.2.2.2.2.1 else max B.2.2.2.2.1 r.2.2.2) ∧ (∀ i, i < B.2.2.2.1 → B'.2.2.2.2.2 i = B.2.2.2.2.2 i) ∧ segC B'.2.2.2.2.2 B.2.2.2.1 B'.2.2.2.1 nd r.2.2.1
def rdQ (n : Nat) (st : Nat → Int) (so : Int) (B : rB) (nd s : Nat) (r : rE) (B' : rB) : Prop := okB n B' ∧ (B.1 ≠ 0 → B'.1 = B.1 ∧ B'.2.1 = B.2.1) ∧ (B.1 = 0 → (r.1 = 0 → rdG so B nd s r B') ∧ (r.1 ≠ 0 → B'.1 = r.1 ∧ B'.2.1 = st r.2.1))
def adB (B : rB) : rB := (B.1, B.2.1, B.2.2.1 + 1, B.2.2.2)
section
variable {n : Nat} {tk st : Nat → Int} {so : Int} {B B1 B2 : rB} {nd s : Nat} {r r1 r2 : rE}
theorem okB_fl {c : Int} (hc : 0 < c ∧ c ≤ 6) (h : okB n B) : okB n (flB c st B) := by
  obtain ⟨h1, h2, h3, h4, h5, h6⟩ := h
  refine ⟨?_, h2, h3, h4, fun e => ?_, h6⟩
  · show inR (if B.1 = 0 then c else B.1)
    split
    · unfold inR; omega
    · exact h1
  · have e : (if B.1 = 0 then c else B.1) = 0 := e
    split at e
    · omega
    · exact absurd e (by assumption)
theorem okB_em {op v : Int} (hv : 0 ≤ op + 64 * v ∧ op + 64 * v ≤ 1000000) (h : okB n B) (hl : B.1 = 0 → B.2.2.2.1 < B.2.2.1) : okB n (emB op v B) := by
  obtain ⟨h1, h2, h3, h4, h5, h6⟩ := h
  refine ⟨h1, h2, ?_, fun i hi => ?_, fun e => ?_, h6⟩
  · show (if B.2.2.2.1 < 300 then B.2.2.2.1 + 1 else B.2.2.2.1) ≤ 300
    split <;> omega
  · show 0 ≤ (if B.2.2.2.1 < 300 then va_up B.2.2.2.2.2 B.2.2.2.1 (op + 64 * v) else B.2.2.2.2.2) i ∧ (if B.2.2.2.1 < 300 then va_up B.2.2.2.2.2 B.2.2.2.1 (op + 64 * v) else B.2.2.2.2.2) i ≤ 1000000
    split
    · by_cases q : i = B.2.2.2.1
      · rw [q, va_up_self]; exact hv
      · rw [va_up_ne _ _ q]; exact h4 i hi
    · exact h4 i hi
  · show (if B.2.2.2.1 < 300 then B.2.2.2.1 + 1 else B.2.2.2.1) ≤ B.2.2.1
    have := hl e
    split <;> omega
theorem okB_la {p : Int} (h : okB n B) : okB n (laB p B) := by
  obtain ⟨h1, h2, h3, h4, h5, h6⟩ := h
  refine ⟨h1, h2, h3, fun i hi => ?_, h5, h6⟩
  show 0 ≤ (if 0 ≤ p ∧ p < (B.2.2.2.1 : Int) then va_up B.2.2.2.2.2 p.toNat (B.2.2.2.2.2 p.toNat % 64 + 64 * (B.2.2.2.1 : Int)) else B.2.2.2.2.2) i ∧ (if 0 ≤ p ∧ p < (B.2.2.2.1 : Int) then va_up B.2.2.2.2.2 p.toNat (B.2.2.2.2.2 p.toNat % 64 + 64 * (B.2.2.2.1 : Int)) else B.2.2.2.2.2) i ≤ 1000000
  split
  · by_cases q : i = p.toNat
    · rw [q, va_up_self]; omega
    · rw [va_up_ne _ _ q]; exact h4 i hi
  · exact h4 i hi
theorem okB_ad (h : okB n B) (hk : B.2.2.1 < n) : okB n (adB B) := by
  obtain ⟨h1, h2, h3, h4, h5, h6⟩ := h
  exact ⟨h1, hk, h3, h4, fun e => Nat.le_succ_of_le (h5 e), h6⟩
theorem okB_ex {t : Int} (ht : t ≠ 39) (hn : tk n = 39) (h : okB n B) : okB n (exB t tk st B) := by
  unfold exB
  split
  · rename_i c
    have hk := h.2.1
    refine okB_ad h ?_
    rcases Nat.lt_or_ge B.2.2.1 n with q | q
    · exact q
    · exact absurd (c.2.symm.trans ((congrArg tk (show B.2.2.1 = n by omega)).trans hn)) ht
  · exact okB_fl (by omega) h
theorem rdQ_m (h : rdQ n st so B nd s r B1) {nd' s' : Nat} (h1 : nd ≤ nd') (h2 : s' ≤ s) : rdQ n st so B nd' s' r B1 := ⟨h.1, h.2.1, fun e => ⟨fun e2 => by
  obtain ⟨g1, g2, g3, g4, g5, g6, g7⟩ := (h.2.2 e).1 e2
  exact ⟨g1, g2, g3, by omega, g5, g6, segC_m g7 h1⟩, (h.2.2 e).2⟩⟩
theorem rdQ_ad (h : rdQ n st so (adB B) nd s r B1) : rdQ n st so B nd (s + 1) r B1 := ⟨h.1, h.2.1, fun e => ⟨fun e2 => by
  obtain ⟨g1, g2, g3, g4, g5, g6, g7⟩ := (h.2.2 e).1 e2
  have g4 : B1.2.2.2.1 + (B.2.2.1 + 1) + s ≤ B.2.2.2.1 + B1.2.2.1 := g4
  exact ⟨g1, g2, g3, by omega, g5, g6, g7⟩, (h.2.2 e).2⟩⟩
/-- behind a fault -/
theorem rdQ_bad (h : rdQ n st so B nd s r B1) (hr : B.1 = 0 → r.1 ≠ 0) {nd' s' : Nat} (h2 : okB n B2) (e : B2.1 = B1.1 ∧ B2.2.1 = B1.2.1) : rdQ n st so B nd' s' r B2 := ⟨h2, fun q => ⟨e.1.trans (h.2.1 q).1, e.2.trans (h.2.1 q).2⟩, fun q => ⟨fun z => absurd z (hr q), fun z => ⟨e.1.trans ((h.2.2 q).2 z).1, e.2.trans ((h.2.2 q).2 z).2⟩⟩⟩
theorem rdQ_exp {t : Int} (ht : t ≠ 39) (hn : tk n = 39) (h : rdQ n st so B nd s r B1) : rdQ n st so B nd (s + 1) (expc tk t r) (exB t tk st B1) := by
  refine ⟨okB_ex ht hn h.1, fun q => ?_, fun q => ?_⟩
  · have e := h.2.1 q
    have z : ¬ B1.1 = 0 := by rw [e.1]; exact q
    unfold exB
    rw [if_neg (fun w => z w.1)]
    unfold flB
    show (if B1.1 = 0 then (1 : Int) else B1.1) = B.1 ∧ (if B1.1 = 0 then st B1.2.2.1 else B1.2.1) = B.2.1
    rw [if_neg z, if_neg z]
    exact e
  · unfold expc
    by_cases c : r.1 = 0
    · obtain ⟨g1, g2, g3, g4, g5, g6, g7⟩ := (h.2.2 q).1 c
      rw [if_pos c]
      by_cases c2 : tk r.2.1 = t
      · rw [if_pos c2]
        refine ⟨fun _ => ?_, fun z => absurd rfl z⟩
        unfold exB
        rw [if_pos ⟨g1, by rw [g3]; exact c2⟩]
        exact ⟨g1, g2, by show B1.2.2.1 + 1 = r.2.1 + 1; rw [g3], by show B1.2.2.2.1 + B.2.2.1 + (s + 1) ≤ B.2.2.2.1 + (B1.2.2.1 + 1); omega, g5, g6, g7⟩
      · rw [if_neg c2]
        refine ⟨fun z => absurd z (by show ¬ (1 : Int) = 0; decide), fun _ => ?_⟩
        unfold exB
        rw [if_neg (fun w => c2 (by rw [← g3]; exact w.2))]
        unfold flB
        show (if B1.1 = 0 then (1 : Int) else B1.1) = 1 ∧ (if B1.1 = 0 then st B1.2.2.1 else B1.2.1) = st r.2.1
        rw [if_pos g1, if_pos g1, g3]
        exact ⟨rfl, rfl⟩
    · rw [if_neg c]
      refine ⟨fun z => absurd z c, fun z => ?_⟩
      have e := (h.2.2 q).2 c
      have z2 : ¬ B1.1 = 0 := by rw [e.1]; exact c
      unfold exB
      rw [if_neg (fun w => z2 w.1)]
      unfold flB
      show (if B1.1 = 0 then (1 : Int) else B1.1) = r.1 ∧ (if B1.1 = 0 then st B1.2.2.1 else B1.2.1) = st r.2.1
      rw [if_neg z2, if_neg z2]
      exact e
theorem em_g {op v : Int} (h : B.2.2.2.1 < 300) : emB op v B = (B.1, B.2.1, B.2.2.1, B.2.2.2.1 + 1, B.2.2.2.2.1, va_up B.2.2.2.2.2 B.2.2.2.1 (op + 64 * v)) := by unfold emB; rw [if_pos h, if_pos h]
theorem max0 {a b : Int} (h : 0 ≤ b) : max a (max 0 b) = max a b := by omega
theorem rdQ_un {op : Nat} (ho : op < 64) (ht : cTk op = 1) (h12 : op ≠ 12) (h14 : op ≠ 14) (h0 : okB n B) (hn : n ≤ 300) (hr : 0 ≤ r.2.2.2) (h : rdQ n st so B nd (s + 1) r B1) : rdQ n st so B nd s (onU (op : Int) 0 r) (emB (op : Int) 0 B1) := by
  have hb : B.1 = 0 → B.2.2.2.1 ≤ B.2.2.1 := h0.2.2.2.2.1
  have hk1 := h.1.2.1
  by_cases c : B.1 = 0 ∧ r.1 = 0
  · obtain ⟨g1, g2, g3, g4, g5, g6, g7⟩ := (h.2.2 c.1).1 c.2
    have hb := hb c.1
    have l3 : B1.2.2.2.1 < 300 := by omega
    refine ⟨okB_em (by omega) h.1 (fun _ => by omega), fun q => absurd c.1 q, fun q => ?_⟩
    unfold onU
    rw [if_pos c.2]
    refine ⟨fun _ => ?_, fun z => absurd rfl z⟩
    rw [em_g l3]
    have hij := g7.1
    refine ⟨g1, g2, g3, by show B1.2.2.2.1 + 1 + B.2.2.1 + s ≤ B.2.2.2.1 + B1.2.2.1; omega, ?_, fun i hi => ?_, ?_⟩
    · show B1.2.2.2.2.1 = if so = 0 then B.2.2.2.2.1 else max B.2.2.2.2.1 (max 0 r.2.2.2)
      rw [max0 hr]; exact g5
    · show va_up B1.2.2.2.2.2 B1.2.2.2.1 ((op : Int) + 64 * 0) i = _
      rw [va_up_ne _ _ (by omega)]; exact g6 i hi
    · show segC (va_up B1.2.2.2.2.2 B1.2.2.2.1 ((op : Int) + 64 * 0)) B.2.2.2.1 (B1.2.2.2.1 + 1) nd (vN (op : Int) r.2.2.1)
      exact segC_1 (v := 0) (segC_c g7 (fun k a b => va_up_ne _ _ (by omega))) (va_up_self _ _ _) ho ht h14 h12
  · have z : B.1 = 0 → r.1 ≠ 0 := fun a b => c ⟨a, b⟩
    have f1 : B1.1 ≠ 0 := by
      by_cases q : B.1 = 0
      · rw [((h.2.2 q).2 (z q)).1]; exact z q
      · rw [(h.2.1 q).1]; exact q
    have t := rdQ_bad h z (nd' := nd) (s' := s) (okB_em (op := (op : Int)) (v := 0) (by omega) h.1 (fun q => absurd q f1)) ⟨rfl, rfl⟩
    refine ⟨t.1, t.2.1, fun q => ?_⟩
    unfold onU
    rw [if_neg (z q)]
    exact t.2.2 q
end
section
variable {n : Nat} {tk st : Nat → Int} {so : Int} {B B1 B2 : rB} {nd s : Nat} {r r1 r2 : rE}
theorem rdQ_f1 (h : rdQ n st so B nd s r B1) (z : B.1 = 0 → r.1 ≠ 0) : B1.1 ≠ 0 := by
  by_cases q : B.1 = 0
  · rw [((h.2.2 q).2 (z q)).1]; exact z q
  · rw [(h.2.1 q).1]; exact q
def jnE (op : Int) (r1 r2 : rE) : rE := if r1.1 = 0 then (if r2.1 = 0 then (0, r2.2.1, vJ op r1.2.2.1 r2.2.2.1, max r1.2.2.2 r2.2.2.2) else r2) else r1
theorem far_2 {so a b c d e : Int} (h1 : b = if so = 0 then a else max a d) (h2 : c = if so = 0 then b else max b e) : c = if so = 0 then a else max a (max d e) := by
  by_cases q : so = 0
  · rw [if_pos q] at *; rw [h2, h1]
  · rw [if_neg q] at *; rw [h2, h1]; omega
theorem rdQ_join {op : Int} (ho : 0 ≤ op ∧ op < 64) (ht : cTk op.toNat = 2) (h12 : op ≠ 12) (h14 : op ≠ 14) (h0 : okB n B) (hn : n ≤ 300) {n1 n2 s1 s2 : Nat} (h1 : rdQ n st so B n1 s1 r1 B1) (h2 : rdQ n st so B1 n2 s2 r2 B2) (hs : s + 1 ≤ s1 + s2) (hn1 : n1 ≤ nd) (hn2 : n2 + 1 ≤ nd) (hb : op = 16 ∨ op = 17 → r1.1 = 0 → r2.1 = 0 → b01 r1.2.2.1 ∧ b01 r2.2.2.1) : rdQ n st so B nd s (jnE op r1 r2) (emB op 0 B2) := by
  have hk2 := h2.1.2.1
  by_cases c : B.1 = 0 ∧ r1.1 = 0
  · obtain ⟨g1, g2, g3, g4, g5, g6, g7⟩ := (h1.2.2 c.1).1 c.2
    have hb0 := h0.2.2.2.2.1 c.1
    have hij := g7.1
    by_cases c2 : r2.1 = 0
    · obtain ⟨k1, k2, k3, k4, k5, k6, k7⟩ := (h2.2.2 g1).1 c2
      have hjk := k7.1
      have l3 : B2.2.2.2.1 < 300 := by omega
      refine ⟨okB_em (by omega) h2.1 (fun _ => by omega), fun q => absurd c.1 q, fun q => ?_⟩
      unfold jnE
      rw [if_pos c.2, if_pos c2]
      refine ⟨fun _ => ?_, fun z => absurd rfl z⟩
      rw [em_g l3]
      refine ⟨k1, k2.trans g2, k3, by show B2.2.2.2.1 + 1 + B.2.2.1 + s ≤ B.2.2.2.1 + B2.2.2.1; omega, far_2 g5 k5, fun i hi => ?_, ?_⟩
      · show va_up B2.2.2.2.2.2 B2.2.2.2.1 (op + 64 * 0) i = _
        rw [va_up_ne _ _ (by omega), k6 i (by omega)]; exact g6 i hi
      · show segC (va_up B2.2.2.2.2.2 B2.2.2.2.1 (op + 64 * 0)) B.2.2.2.1 (B2.2.2.2.1 + 1) nd (vJ op r1.2.2.1 r2.2.2.1)
        refine segC_2 (op := op.toNat) (v := 0) (segC_c g7 (fun k a b => (va_up_ne _ _ (by omega)).trans (k6 k b))) (segC_c k7 (fun k a b => va_up_ne _ _ (by omega))) ((va_up_self _ _ _).trans (by omega)) (by omega) ht (by omega) (by omega) (fun z => hb (by omega) c.2 c2) hn1 hn2
    · have f2 := rdQ_f1 h2 (fun _ => c2)
      have e := (h2.2.2 g1).2 c2
      refine ⟨okB_em (by omega) h2.1 (fun q => absurd q f2), fun q => absurd c.1 q, fun q => ?_⟩
      unfold jnE
      rw [if_pos c.2, if_neg c2]
      exact ⟨fun z => absurd z c2, fun _ => e⟩
  · have z : B.1 = 0 → r1.1 ≠ 0 := fun a b => c ⟨a, b⟩
    have f1 := rdQ_f1 h1 z
    have e2 := h2.2.1 f1
    have f2 : B2.1 ≠ 0 := by rw [e2.1]; exact f1
    have t := rdQ_bad h1 z (nd' := nd) (s' := s) (B2 := emB op 0 B2) (okB_em (by omega) h2.1 (fun q => absurd q f2)) e2
    refine ⟨t.1, t.2.1, fun q => ?_⟩
    unfold jnE
    rw [if_neg (z q)]
    exact t.2.2 q
/-- a name or a number -/
theorem rdQ_leaf {op v : Int} (ho : 0 ≤ op ∧ op < 64) (hv : 0 ≤ v ∧ v ≤ 10000) (ht : cTk op.toNat = 0) (h12 : op ≠ 12) (h14 : op ≠ 14) (h0 : okB n B) (hn : n ≤ 300) (hk : B.2.2.1 < n) (hf : B.1 = 0) (h1 : 1 ≤ nd) : rdQ n st so B nd 0 (0, B.2.2.1 + 1, vM op v, 0) (adB (emB op v B)) ∧ adB (emB op v B) = emB op v (adB B) := by
  have hb0 := h0.2.2.2.2.1 hf
  have l3 : B.2.2.2.1 < 300 := by omega
  refine ⟨⟨?_, fun q => absurd hf q, fun _ => ⟨fun _ => ?_, fun z => absurd rfl z⟩⟩, rfl⟩
  · rw [show adB (emB op v B) = emB op v (adB B) from rfl]
    exact okB_em (by omega) (okB_ad h0 hk) (fun _ => by show B.2.2.2.1 < B.2.2.1 + 1; omega)
  · rw [em_g l3]
    refine ⟨hf, rfl, rfl, by show B.2.2.2.1 + 1 + B.2.2.1 + 0 ≤ B.2.2.2.1 + (B.2.2.1 + 1); omega, ?_, fun i hi => va_up_ne _ _ (by omega), ?_⟩
    · show B.2.2.2.2.1 = if so = 0 then B.2.2.2.2.1 else max B.2.2.2.2.1 0
      have := h0.2.2.2.2.2
      split
      · rfl
      · omega
    · show segC (va_up B.2.2.2.2.2 B.2.2.2.1 (op + 64 * v)) B.2.2.2.1 (B.2.2.2.1 + 1) nd (vM op v)
      exact segC_m (segC_0 (op := op.toNat) (v := v.toNat) ((va_up_self _ _ _).trans (by omega)) (by omega) ht (by omega) (by omega)) h1
/-- a fault is found -/
theorem rdQ_fail {c : Int} (hc : 0 < c ∧ c ≤ 5) (h0 : okB n B) : rdQ n st so B nd s (rF c B.2.2.1) (flB c st B) := by
  refine ⟨okB_fl (by omega) h0, fun q => ?_, fun q => ⟨fun z => absurd z (by show ¬ c = 0; omega), fun _ => ?_⟩⟩
  · unfold flB
    show (if B.1 = 0 then c else B.1) = B.1 ∧ (if B.1 = 0 then st B.2.2.1 else B.2.1) = B.2.1
    rw [if_neg q, if_neg q]; exact ⟨rfl, rfl⟩
  · unfold flB
    show (if B.1 = 0 then c else B.1) = c ∧ (if B.1 = 0 then st B.2.2.1 else B.2.1) = st B.2.2.1
    rw [if_pos q, if_pos q]; exact ⟨rfl, rfl⟩
theorem rdQ_none (h0 : okB n B) (hf : B.1 ≠ 0) : rdQ n st so B nd s r B := ⟨h0, fun _ => ⟨rfl, rfl⟩, fun q => absurd q hf⟩
/-- it asks for any house -/
def fbB (so : Int) (B : rB) : rB := (B.1, B.2.1, B.2.2.1, B.2.2.2.1, if so = 0 then B.2.2.2.2.1 else 1, B.2.2.2.2.2)
theorem okB_fb (h : okB n B) : okB n (fbB so B) := by
  obtain ⟨h1, h2, h3, h4, h5, h6⟩ := h
  refine ⟨h1, h2, h3, h4, h5, ?_⟩
  show (if so = 0 then B.2.2.2.2.1 else 1) = 0 ∨ (if so = 0 then B.2.2.2.2.1 else 1) = 1
  split
  · exact h6
  · exact Or.inr rfl
theorem rdQ_far {op : Int} (h0 : okB n B) (hr : 0 ≤ r.2.2.2 ∧ r.2.2.2 ≤ 1) (h : rdQ n st so (fbB so B) nd s (onU op 0 r) B1) : rdQ n st so B nd s (onU op 1 r) B1 := by
  refine ⟨h.1, h.2.1, fun q => ?_⟩
  have z := h.2.2 q
  have h6 := h0.2.2.2.2.2
  unfold onU at *
  by_cases c : r.1 = 0
  · rw [if_pos c] at *
    refine ⟨fun _ => ?_, fun w => absurd rfl w⟩
    obtain ⟨g1, g2, g3, g4, g5, g6, g7⟩ := z.1 rfl
    refine ⟨g1, g2, g3, g4, ?_, g6, g7⟩
    have g5 : B1.2.2.2.2.1 = if so = 0 then (if so = 0 then B.2.2.2.2.1 else 1) else max (if so = 0 then B.2.2.2.2.1 else 1) (max 0 r.2.2.2) := g5
    show B1.2.2.2.2.1 = if so = 0 then B.2.2.2.2.1 else max B.2.2.2.2.1 (max 1 r.2.2.2)
    rw [g5]
    by_cases d : so = 0
    · rw [if_pos d, if_pos d, if_pos d]
    · rw [if_neg d, if_neg d, if_neg d]; omega
  · rw [if_neg c] at *
    exact ⟨fun w => absurd w c, z.2⟩
end
section
variable {n : Nat} {tk st : Nat → Int} {so : Int} {B B1 : rB} {nd s : Nat} {r : rE}
theorem rdQ_room (h0 : okB n B) (h : rdQ n st so B nd (s + 1) r B1) : B1.1 = 0 → B1.2.2.2.1 < B1.2.2.1 := by
  intro e
  have a : B.1 = 0 := by
    rcases Decidable.em (B.1 = 0) with q | q
    · exact q
    · exact absurd ((h.2.1 q).1.symm.trans e) q
  have b : r.1 = 0 := by
    rcases Decidable.em (r.1 = 0) with q | q
    · exact q
    · exact absurd (((h.2.2 a).2 q).1.symm.trans e) q
  obtain ⟨g1, g2, g3, g4, g5, g6, g7⟩ := (h.2.2 a).1 b
  have := h0.2.2.2.2.1 a
  omega
def emP (B : rB) : Int := if B.2.2.2.1 < 300 then (B.2.2.2.1 : Int) else -1
def ifX (c f g : rE) : rE := if c.1 = 0 then (if f.1 = 0 then (if g.1 = 0 then (0, g.2.1, vI c.2.2.1 f.2.2.1 g.2.2.1, max c.2.2.2 (max f.2.2.2 g.2.2.2)) else g) else f) else c
theorem rdQ_if {B2 B5 B9 : rB} {c f g : rE} {n1 n2 n3 : Nat} (hn : n ≤ 300) (h0 : okB n B) (h1 : rdQ n st so B n1 2 c B2) (h2 : rdQ n st so (emB 12 0 B2) n2 1 f B5) (h3 : rdQ n st so (laB (emP B2) (emB 14 0 B5)) n3 1 g B9) (m1 : n1 ≤ nd) (m2 : n2 ≤ nd) (m3 : n3 ≤ nd) (m : 2 ≤ nd) : rdQ n st so B nd 0 (ifX c f g) (laB (emP B5) B9) := by
  by_cases c1 : B.1 = 0 ∧ c.1 = 0
  · obtain ⟨g1, g2, g3, g4, g5, g6, g7⟩ := (h1.2.2 c1.1).1 c1.2
    have hb0 := h0.2.2.2.2.1 c1.1
    have hk2 := h1.1.2.1
    have l2 : B2.2.2.2.1 < 300 := by omega
    have i2 := g7.1
    have e2 : emP B2 = (B2.2.2.2.1 : Int) := by unfold emP; rw [if_pos l2]
    rw [e2] at h3
    rw [em_g l2] at h2
    by_cases c2 : f.1 = 0
    · obtain ⟨k1, k2, k3, k4, k5, k6, k7⟩ := (h2.2.2 g1).1 c2
      have k4 : B5.2.2.2.1 + B2.2.2.1 + 1 ≤ B2.2.2.2.1 + 1 + B5.2.2.1 := k4
      have k6 : ∀ i, i < B2.2.2.2.1 + 1 → B5.2.2.2.2.2 i = va_up B2.2.2.2.2.2 B2.2.2.2.1 (12 + 64 * 0) i := k6
      have k7 : segC B5.2.2.2.2.2 (B2.2.2.2.1 + 1) B5.2.2.2.1 n2 f.2.2.1 := k7
      have i5 := k7.1
      have hk5 := h2.1.2.1
      have l5 : B5.2.2.2.1 < 300 := by omega
      have e5 : emP B5 = (B5.2.2.2.1 : Int) := by unfold emP; rw [if_pos l5]
      rw [e5]
      rw [em_g l5] at h3
      have e7 : laB (B2.2.2.2.1 : Int) (B5.1, B5.2.1, B5.2.2.1, B5.2.2.2.1 + 1, B5.2.2.2.2.1, va_up B5.2.2.2.2.2 B5.2.2.2.1 (14 + 64 * 0)) = (B5.1, B5.2.1, B5.2.2.1, B5.2.2.2.1 + 1, B5.2.2.2.2.1, va_up (va_up B5.2.2.2.2.2 B5.2.2.2.1 (14 + 64 * 0)) B2.2.2.2.1 (12 + 64 * ((B5.2.2.2.1 + 1 : Nat) : Int))) := by
        unfold laB
        show (B5.1, B5.2.1, B5.2.2.1, B5.2.2.2.1 + 1, B5.2.2.2.2.1, if 0 ≤ (B2.2.2.2.1 : Int) ∧ (B2.2.2.2.1 : Int) < ((B5.2.2.2.1 + 1 : Nat) : Int) then va_up (va_up B5.2.2.2.2.2 B5.2.2.2.1 (14 + 64 * 0)) (B2.2.2.2.1 : Int).toNat ((va_up B5.2.2.2.2.2 B5.2.2.2.1 (14 + 64 * 0)) (B2.2.2.2.1 : Int).toNat % 64 + 64 * ((B5.2.2.2.1 + 1 : Nat) : Int)) else va_up B5.2.2.2.2.2 B5.2.2.2.1 (14 + 64 * 0)) = _
        rw [if_pos (by omega), Int.toNat_natCast, va_up_ne (j := B2.2.2.2.1) _ _ (by omega), k6 _ (by omega), va_up_self]
        rfl
      rw [e7] at h3
      by_cases c3 : g.1 = 0
      · obtain ⟨x1, x2, x3, x4, x5, x6, x7⟩ := (h3.2.2 k1).1 c3
        have x4 : B9.2.2.2.1 + B5.2.2.1 + 1 ≤ B5.2.2.2.1 + 1 + B9.2.2.1 := x4
        have x6 : ∀ i, i < B5.2.2.2.1 + 1 → B9.2.2.2.2.2 i = va_up (va_up B5.2.2.2.2.2 B5.2.2.2.1 (14 + 64 * 0)) B2.2.2.2.1 (12 + 64 * ((B5.2.2.2.1 + 1 : Nat) : Int)) i := x6
        have x7 : segC B9.2.2.2.2.2 (B5.2.2.2.1 + 1) B9.2.2.2.1 n3 g.2.2.1 := x7
        have i9 := x7.1
        have e9 : laB (B5.2.2.2.1 : Int) B9 = (B9.1, B9.2.1, B9.2.2.1, B9.2.2.2.1, B9.2.2.2.2.1, va_up B9.2.2.2.2.2 B5.2.2.2.1 (14 + 64 * (B9.2.2.2.1 : Int))) := by
          unfold laB
          rw [if_pos (by omega), Int.toNat_natCast, x6 _ (by omega), va_up_ne (j := B5.2.2.2.1) _ _ (by omega), va_up_self]
          rfl
        refine ⟨okB_la h3.1, fun q => absurd c1.1 q, fun q => ?_⟩
        unfold ifX
        rw [if_pos c1.2, if_pos c2, if_pos c3, e9]
        refine ⟨fun _ => ?_, fun z => absurd rfl z⟩
        refine ⟨x1, x2.trans (k2.trans g2), x3, by show B9.2.2.2.1 + B.2.2.1 + 0 ≤ B.2.2.2.1 + B9.2.2.1; omega, far_2 g5 (far_2 k5 x5), fun i hi => ?_, ?_⟩
        · show va_up B9.2.2.2.2.2 B5.2.2.2.1 _ i = _
          rw [va_up_ne (j := i) _ _ (by omega), x6 i (by omega), va_up_ne (j := i) _ _ (by omega), va_up_ne (j := i) _ _ (by omega), k6 i (by omega), va_up_ne (j := i) _ _ (by omega)]
          exact g6 i hi
        · show segC (va_up B9.2.2.2.2.2 B5.2.2.2.1 (14 + 64 * (B9.2.2.2.1 : Int))) B.2.2.2.1 B9.2.2.2.1 nd (vI c.2.2.1 f.2.2.1 g.2.2.1)
          refine segC_if (j := B2.2.2.2.1) (k := B5.2.2.2.1) (segC_c g7 (fun k a b => ?_)) ?_ (segC_c k7 (fun k a b => ?_)) (va_up_self _ _ _) (segC_c x7 (fun k a b => va_up_ne _ _ (by omega))) m1 m2 m3 m
          · rw [va_up_ne (j := k) _ _ (by omega), x6 k (by omega), va_up_ne (j := k) _ _ (by omega), va_up_ne (j := k) _ _ (by omega), k6 k (by omega), va_up_ne (j := k) _ _ (by omega)]
          · rw [va_up_ne (j := B2.2.2.2.1) _ _ (by omega), x6 _ (by omega), va_up_self]
          · rw [va_up_ne (j := k) _ _ (by omega), x6 k (by omega), va_up_ne (j := k) _ _ (by omega), va_up_ne (j := k) _ _ (by omega)]
      · refine ⟨okB_la h3.1, fun q => absurd c1.1 q, fun q => ?_⟩
        unfold ifX
        rw [if_pos c1.2, if_pos c2, if_neg c3]
        exact ⟨fun z => absurd z c3, fun _ => (h3.2.2 k1).2 c3⟩
    · have f5 := (h2.2.2 g1).2 c2
      have z5 : B5.1 ≠ 0 := by rw [f5.1]; exact c2
      have f9 := h3.2.1 z5
      refine ⟨okB_la h3.1, fun q => absurd c1.1 q, fun q => ?_⟩
      unfold ifX
      rw [if_pos c1.2, if_neg c2]
      exact ⟨fun z => absurd z c2, fun _ => ⟨f9.1.trans f5.1, f9.2.trans f5.2⟩⟩
  · have z : B.1 = 0 → c.1 ≠ 0 := fun a b => c1 ⟨a, b⟩
    have f1 := rdQ_f1 h1 z
    have e2 := h2.2.1 f1
    have f5 : B5.1 ≠ 0 := by rw [e2.1]; exact f1
    have e9 := h3.2.1 f5
    have t := rdQ_bad h1 z (nd' := nd) (s' := 0) (B2 := laB (emP B5) B9) (okB_la h3.1) ⟨e9.1.trans e2.1, e9.2.trans e2.2⟩
    refine ⟨t.1, t.2.1, fun q => ?_⟩
    unfold ifX
    rw [if_neg (z q)]
    exact t.2.2 q
end
