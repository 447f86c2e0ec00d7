/-! ===== the model's pile against the levels ===== -/
/-- how it ends: fault, token, code -/
abbrev rR : Type := Int × Nat × List (Int × Int)
/-- the reader goes from s (wh: whole) to the end R -/
def gnR (tk nu : Nat → Int) (so : Int) (R : rR) (wh : Int) (s : pS) : Prop := ∃ (f : Nat) (s' : pS), f + s.1 ≤ 301 ∧ rnS tk nu so f wh s = some (R.1, s') ∧ s'.1 = R.2.1 ∧ (R.1 = 0 → s' = (R.2.1, [], 0, R.2.2))
def gneR (tk nu : Nat → Int) (so : Int) (R : rR) (q : Int × Int × pS) : Prop := (0 < q.1 ∧ R.1 = q.1 ∧ R.2.1 = q.2.2.1) ∨ (q.1 = 0 ∧ gnR tk nu so R q.2.1 q.2.2)
theorem m1_lt : ¬ (0 : Int) < -1 := by decide
theorem m1_0 : ¬ (-1 : Int) = 0 := by decide
theorem ne1_0 : ¬ (1 : Int) = 0 := by decide
section SIM
variable {tk nu : Nat → Int} {so : Int} {R : rR}
theorem gn_inB {wh : Int} {s : pS} (h : gnR tk nu so R wh s) : inB s := by
  obtain ⟨f, s', _, h, _⟩ := h
  cases f with
  | zero => cases h
  | succ f =>
    rw [rnS] at h
    by_cases q : inB s
    · exact q
    · rw [if_neg q] at h; cases h
theorem gn_bg {s : pS} {q : Int × Int × pS} (hb : inB s) (hk : s.1 ≤ 300) (e : bgS tk nu so s = q) (hq : q.1 = 0 → s.1 < q.2.2.1) (h : gneR tk nu so R q) : gnR tk nu so R 0 s := by
  rcases h with ⟨h1, h2, h3⟩ | ⟨h1, h⟩
  · refine ⟨1, q.2.2, by omega, ?_, h3.symm, fun z => by omega⟩
    rw [rnS, if_pos hb, if_pos rfl, e, if_pos h1, h2]
  · obtain ⟨f, s', hf, h, h3⟩ := h
    have := hq h1
    refine ⟨f + 1, s', by omega, ?_, h3⟩
    rw [rnS, if_pos hb, if_pos rfl, e, if_neg (by omega), if_pos h1]
    exact h
theorem gn_bh {s : pS} {q : Int × Int × pS} (hb : inB s) (hk : s.1 ≤ 300) (e : bhS tk s = q) (hq : q.1 = 0 → s.1 < q.2.2.1) (h : gneR tk nu so R q) : gnR tk nu so R 1 s := by
  rcases h with ⟨h1, h2, h3⟩ | ⟨h1, h⟩
  · refine ⟨1, q.2.2, by omega, ?_, h3.symm, fun z => by omega⟩
    rw [rnS, if_pos hb, if_neg ne1_0, e, if_pos h1, h2]
  · obtain ⟨f, s', hf, h, h3⟩ := h
    have := hq h1
    refine ⟨f + 1, s', by omega, ?_, h3⟩
    rw [rnS, if_pos hb, if_neg ne1_0, e, if_neg (by omega), if_pos h1]
    exact h
/-- nothing goes on: within something that is open that is a fault -/
theorem gn_fa {s : pS} (hb : inB s) (hk : s.1 ≤ 300) (e1 : btI (tk s.1) s.2.1 < 0) (e2 : ptI (tk s.1) s.2.1 (opN s.2.1) < 0) (ho : 0 ≤ opN s.2.1) (h1 : R.1 = 1) (h2 : R.2.1 = s.1) : gnR tk nu so R 1 s := by
  refine ⟨1, s, by omega, ?_, h2.symm, fun z => by omega⟩
  have e : bhS tk s = (-1, 1, s) := by
    unfold bhS
    rw [if_neg (by omega), if_pos e2]
  rw [rnS, if_pos hb, if_neg ne1_0, e, if_neg m1_lt, if_neg m1_0, if_pos ho, h1]
theorem gn_fin {k : Nat} {D : List (Int × Int)} (hb : inB (k, [], 0, D)) (hk : k ≤ 300) (h29 : tk k ≠ 29) (h30 : tk k ≠ 30) (h31 : tk k ≠ 31) (h32 : tk k ≠ 32) : gnR tk nu so (0, k, D) 1 (k, [], 0, D) := by
  refine ⟨1, (k, [], 0, D), by show 1 + k ≤ 301; omega, ?_, rfl, fun _ => rfl⟩
  have e : bhS tk (k, [], 0, D) = (-1, 1, (k, [], 0, D)) := by
    unfold bhS
    have e1 : btI (tk k) [] = -1 := by unfold btI; rw [if_neg h29, if_neg h30, if_neg h31, if_neg h32, if_pos (by decide)]
    have e2 : ptI (tk k) [] (opN []) = -1 := by unfold ptI; rfl
    show (if 0 ≤ btI (tk k) [] then _ else if ptI (tk k) [] (opN []) < 0 then _ else _) = _
    rw [e1, e2]
    rfl
  rw [rnS, if_pos hb, if_neg ne1_0, e, if_neg m1_lt, if_neg m1_0]
  rfl
theorem eo_up (s : pS) : s.1 ≤ (eoS tk s).2.2.1 := by
  unfold eoS eoQ
  repeat' split
  all_goals first | exact Nat.le_refl _ | exact Nat.le_succ _
theorem n0_lt : ¬ (0 : Int) < 0 := by decide
theorem eo_nn (s : pS) : ¬ (eoS tk s).1 < 0 := by
  unfold eoS eoQ
  by_cases q : (sP 7 s.2.1 s.2.2.1 s.2.2.2).1.headD 0 = 41
  · rw [if_pos q]
    by_cases q2 : tk s.1 = 10
    · rw [if_pos q2]; exact n0_lt
    · rw [if_neg q2]; show ¬ (1 : Int) < 0; decide
  · rw [if_neg q]; exact n0_lt
def eoR (tk nu : Nat → Int) (so : Int) (R : rR) (s : pS) : Prop := gneR tk nu so R (eoS tk s)
theorem sP_id {l : Int} {P : List Int} (h : P = [] ∨ rkF (P.headD 0) < l) (o : Int) (D : List (Int × Int)) : sP l P o D = (P, o, D) := by
  cases P with
  | nil => rfl
  | cons x P =>
    rcases h with h | h
    · cases h
    · have h : rkF x < l := h
      rw [sP, if_neg (by omega)]
theorem sP_go {l x : Int} (h : l ≤ rkF x) (h7 : rkF x ≠ 7) (h20 : x ≠ 20) (P : List Int) (o : Int) (D : List (Int × Int)) : sP l (x :: P) o D = sP l P o ((x, 0) :: D) := by
  rw [sP, if_pos h, if_neg (by omega)]
theorem sP_on {l x : Int} (h : l ≤ rkF x) (h7 : rkF x = 7 ∨ x = 20) (P : List Int) (o : Int) (D : List (Int × Int)) : sP l (x :: P) o D = sP l P (o - 1) ((x, 0) :: D) := by
  rw [sP, if_pos h, if_pos h7]
/-- behind a whole one, nothing waits for it: it goes on -/
theorem eo_bh {k : Nat} {P : List Int} {o : Int} {D : List (Int × Int)} (h : P = [] ∨ rkF (P.headD 0) < 7) (h41 : P.headD 0 ≠ 41) (g : gnR tk nu so R 1 (k, P, o, D)) : eoR tk nu so R (k, P, o, D) := by
  have e : eoS tk (k, P, o, D) = (0, 1, (k, P, o, D)) := by
    show eoQ (tk k) k (sP 7 P o D) = _
    rw [sP_id h]
    unfold eoQ
    exact if_neg h41
  unfold eoR
  rw [e]
  exact Or.inr ⟨rfl, g⟩
theorem eo_7 {k : Nat} {x : Int} {P : List Int} {o : Int} {D : List (Int × Int)} (hx : rkF x = 7) (g : eoR tk nu so R (k, P, o, (x, 0) :: D)) : eoR tk nu so R (k, x :: P, o + 1, D) := by
  have e : eoS tk (k, x :: P, o + 1, D) = eoS tk (k, P, o, (x, 0) :: D) := by
    show eoQ (tk k) k (sP 7 (x :: P) (o + 1) D) = eoQ (tk k) k (sP 7 P o ((x, 0) :: D))
    rw [sP_on (by omega) (Or.inl hx), show o + 1 - 1 = o by omega]
  unfold eoR at *
  rw [e]
  exact g
theorem eo_41 {k : Nat} {P : List Int} {o : Int} {D : List (Int × Int)} : (tk k = 10 → gnR tk nu so R 0 (k + 1, 4 :: P, o, D) → eoR tk nu so R (k, 41 :: P, o, D)) ∧ (tk k ≠ 10 → R.1 = 1 → R.2.1 = k → eoR tk nu so R (k, 41 :: P, o, D)) := by
  have e : eoS tk (k, 41 :: P, o, D) = if tk k = 10 then (0, 0, (k + 1, 4 :: P, o, D)) else (1, 1, (k, 41 :: P, o, D)) := by
    show eoQ (tk k) k (sP 7 (41 :: P) o D) = _
    rw [sP_id (Or.inr (show rkF 41 < 7 by decide))]
    rfl
  unfold eoR
  rw [e]
  refine ⟨fun h g => ?_, fun h h1 h2 => ?_⟩
  · rw [if_pos h]; exact Or.inr ⟨rfl, g⟩
  · rw [if_neg h]; exact Or.inl ⟨show (0 : Int) < 1 by decide, h1, h2⟩
theorem opN_lt {x : Int} (h : x < 40) (P : List Int) : opN (x :: P) = opN P := by rw [opN, if_neg (by omega)]
theorem opN_ge {x : Int} (h : 40 ≤ x) (P : List Int) : opN (x :: P) = x := by rw [opN, if_pos h]
theorem cmP_hi {x : Int} (h : 4 < rkF x) (P : List Int) : cmP (x :: P) = cmP P := by rw [cmP, if_pos h]
/-- what waits and binds as closely as what comes is as written already -/
theorem gn_drop {k : Nat} {x : Int} {P : List Int} {o : Int} {D : List (Int × Int)} (h40 : x < 40) (hx : rkF x = 6 ∨ (rkF x = 5 ∧ tk k ≠ 31 ∧ tk k ≠ 32)) (hl : P.length + 1 ≤ 150) (h : gnR tk nu so R 1 (k, P, o, (x, 0) :: D)) : gnR tk nu so R 1 (k, x :: P, o, D) := by
  have hB := gn_inB h
  have hB2 : inB (k, x :: P, o, D) := by
    unfold inB at *
    simp only [List.length_cons] at *
    omega
  have e1 := opN_lt h40 P
  have e2 : cmP (x :: P) = cmP P := cmP_hi (by omega) P
  have e3 : btI (tk k) (x :: P) = btI (tk k) P := by unfold btI; rw [e1, e2]
  have e4 : ptI (tk k) (x :: P) (opN (x :: P)) = ptI (tk k) P (opN P) := by unfold ptI; rw [e1, e2]
  have h20 : x ≠ 20 := by
    intro e
    subst e
    have : rkF 20 = 3 := by decide
    omega
  have hs : ∀ l, l ≤ rkF x → sP l (x :: P) o D = sP l P o ((x, 0) :: D) := fun l q => sP_go q (by omega) h20 P o D
  by_cases q : btI (tk k) P < 0 ∧ ptI (tk k) P (opN P) < 0
  · obtain ⟨f, s', hf, h, h3⟩ := h
    cases f with
    | zero => cases h
    | succ f =>
      have eb : bhS tk (k, P, o, (x, 0) :: D) = (-1, 1, (k, P, o, (x, 0) :: D)) := by
        unfold bhS
        rw [if_neg (by show ¬ 0 ≤ btI (tk k) P; omega), if_pos q.2]
      have eb2 : bhS tk (k, x :: P, o, D) = (-1, 1, (k, x :: P, o, D)) := by
        unfold bhS
        rw [if_neg (by show ¬ 0 ≤ btI (tk k) (x :: P); omega), if_pos (by show ptI (tk k) (x :: P) (opN (x :: P)) < 0; omega)]
      rw [rnS, if_pos hB, if_neg ne1_0, eb, if_neg m1_lt, if_neg m1_0] at h
      by_cases ho : 0 ≤ opN P
      · rw [if_pos ho] at h
        have h := Option.some.inj h
        have a1 : R.1 = 1 := (congrArg Prod.fst h).symm
        have a2 : s' = (k, P, o, (x, 0) :: D) := (congrArg Prod.snd h).symm
        refine ⟨f + 1, (k, x :: P, o, D), hf, ?_, ?_, fun z => by omega⟩
        · rw [rnS, if_pos hB2, if_neg ne1_0, eb2, if_neg m1_lt, if_neg m1_0, if_pos (by show 0 ≤ opN (x :: P); omega), a1]
        · rw [← h3.1, a2]
      · rw [if_neg ho] at h
        refine ⟨f + 1, s', hf, ?_, h3⟩
        rw [rnS, if_pos hB2, if_neg ne1_0, eb2, if_neg m1_lt, if_neg m1_0, if_neg (by show ¬ 0 ≤ opN (x :: P); omega)]
        show some (0, (k, sP 1 (x :: P) o D)) = _
        rw [hs 1 (by omega)]
        exact h
  · have eb : bhS tk (k, x :: P, o, D) = bhS tk (k, P, o, (x, 0) :: D) := by
      unfold bhS
      show (if 0 ≤ btI (tk k) (x :: P) then (0, 0, (k + 1, btI (tk k) (x :: P) :: (sP (if rkF (btI (tk k) (x :: P)) = 4 then 5 else rkF (btI (tk k) (x :: P))) (x :: P) o D).1, (sP (if rkF (btI (tk k) (x :: P)) = 4 then 5 else rkF (btI (tk k) (x :: P))) (x :: P) o D).2)) else if ptI (tk k) (x :: P) (opN (x :: P)) < 0 then (-1, 1, (k, x :: P, o, D)) else if ptI (tk k) (x :: P) (opN (x :: P)) = 0 then eoS tk (k + 1, (sP 1 (x :: P) o D).1.tail, (sP 1 (x :: P) o D).2.1 - 1, if opN (x :: P) = 44 then (3, 0) :: (sP 1 (x :: P) o D).2.2 else (sP 1 (x :: P) o D).2.2) else (0, 0, (k + 1, ptI (tk k) (x :: P) (opN (x :: P)) :: (sP 1 (x :: P) o D).1.tail, (sP 1 (x :: P) o D).2))) = _
      rw [e3, e4, e1, hs 1 (by omega)]
      by_cases q1 : 0 ≤ btI (tk k) P
      · have hv : (if rkF (btI (tk k) P) = 4 then 5 else rkF (btI (tk k) P)) ≤ rkF x := by
          unfold btI at q1 ⊢
          have z6 : rkF 6 = 5 := by decide
          have z7 : rkF 7 = 5 := by decide
          have z8 : rkF 8 = 6 := by decide
          have z9 : rkF 9 = 6 := by decide
          have z21 : rkF 21 = 2 := by decide
          have z22 : rkF 22 = 1 := by decide
          by_cases t29 : tk k = 29
          · rw [if_pos t29, z6]; omega
          rw [if_neg t29] at q1 ⊢
          by_cases t30 : tk k = 30
          · rw [if_pos t30, z7]; omega
          rw [if_neg t30] at q1 ⊢
          by_cases t31 : tk k = 31
          · rw [if_pos t31, z8]; omega
          rw [if_neg t31] at q1 ⊢
          by_cases t32 : tk k = 32
          · rw [if_pos t32, z9]; omega
          rw [if_neg t32] at q1 ⊢
          by_cases h42 : opN P = 42
          · rw [if_neg (show ¬ ¬ opN P = 42 from fun z => z h42)] at q1 ⊢
            by_cases hc : cmP P = 0
            · rw [if_pos hc] at q1 ⊢
              have : rkF (cpI (tk k)) = 4 := by
                have := (cpI_in q1).1
                unfold rkF
                rw [if_neg (by omega), if_neg (by omega), if_neg (by omega), if_neg (by omega), if_pos (by omega)]
              rw [if_pos this]; omega
            · rw [if_neg hc] at q1 ⊢
              by_cases t17 : tk k = 17
              · rw [if_pos t17, z21]; omega
              rw [if_neg t17] at q1 ⊢
              by_cases t16 : tk k = 16
              · rw [if_pos t16, z22]; omega
              rw [if_neg t16] at q1
              omega
          · rw [if_pos h42] at q1
            omega
        rw [if_pos q1, hs _ hv]
        exact (if_pos q1).symm
      · have q2 : ¬ ptI (tk k) P (opN P) < 0 := fun q2 => q ⟨by omega, q2⟩
        rw [if_neg q1, if_neg q2]
        exact ((if_neg q1).trans (if_neg q2)).symm
    obtain ⟨f, s', hf, h, h3⟩ := h
    cases f with
    | zero => cases h
    | succ f =>
      have nn : ¬ (bhS tk (k, P, o, (x, 0) :: D)).1 < 0 := by
        by_cases q1 : 0 ≤ btI (tk k) P
        · unfold bhS
          rw [if_pos (by exact q1)]
          exact n0_lt
        · have q2 : ¬ ptI (tk k) P (opN P) < 0 := fun q2 => q ⟨by omega, q2⟩
          unfold bhS
          rw [if_neg (by exact q1), if_neg (by exact q2)]
          split
          · exact eo_nn _
          · exact n0_lt
      refine ⟨f + 1, s', hf, ?_, h3⟩
      rw [rnS, if_pos hB, if_neg ne1_0] at h
      rw [rnS, if_pos hB2, if_neg ne1_0, eb]
      by_cases z1 : 0 < (bhS tk (k, P, o, (x, 0) :: D)).1
      · rw [if_pos z1] at h ⊢
        exact h
      · have z2 : (bhS tk (k, P, o, (x, 0) :: D)).1 = 0 := by omega
        rw [if_neg z1, if_pos z2] at h ⊢
        exact h
/-- behind a whole ask -/
def gAk (tk nu : Nat → Int) (so : Int) (R : rR) (k : Nat) (P : List Int) (o : Int) (D : List (Int × Int)) : Prop :=
  (tk k = 17 → gnR tk nu so R 0 (k + 1, 21 :: (sP 2 P o D).1, (sP 2 P o D).2)) ∧ (tk k = 16 → gnR tk nu so R 0 (k + 1, 22 :: (sP 1 P o D).1, (sP 1 P o D).2)) ∧ (tk k = 13 → gnR tk nu so R 0 (k + 1, 43 :: (sP 1 P o D).1.tail, (sP 1 P o D).2)) ∧ (tk k ≠ 17 → tk k ≠ 16 → tk k ≠ 13 → R.1 = 1 ∧ R.2.1 = k)
theorem gA_not {k : Nat} {P : List Int} {o : Int} {D : List (Int × Int)} (h : gAk tk nu so R k P o ((20, 0) :: D)) : gAk tk nu so R k (20 :: P) (o + 1) D := by
  unfold gAk at *
  rw [sP_on (show (2 : Int) ≤ rkF 20 by decide) (Or.inr rfl), sP_on (show (1 : Int) ≤ rkF 20 by decide) (Or.inr rfl), show o + 1 - 1 = o by omega]
  exact h
theorem gA_and {k : Nat} {P : List Int} {o : Int} {D : List (Int × Int)} (h : gAk tk nu so R k P o ((21, 0) :: D)) : gAk tk nu so R k (21 :: P) o D := by
  unfold gAk at *
  rw [sP_go (show (2 : Int) ≤ rkF 21 by decide) (by decide) (by decide), sP_go (show (1 : Int) ≤ rkF 21 by decide) (by decide) (by decide)]
  exact h
theorem gA_or {k : Nat} {P : List Int} {o : Int} {D : List (Int × Int)} (h17 : tk k ≠ 17) (h : gAk tk nu so R k P o ((22, 0) :: D)) : gAk tk nu so R k (22 :: P) o D := by
  unfold gAk at *
  rw [sP_go (show (1 : Int) ≤ rkF 22 by decide) (by decide) (by decide)]
  exact ⟨fun e => absurd e h17, h.2⟩
theorem gn_cmp {k : Nat} {x : Int} {P : List Int} {o : Int} {D : List (Int × Int)} (hx : 10 ≤ x ∧ x ≤ 15) (h42 : opN P = 42) (hB : inB (k, x :: P, o, D)) (hk : k ≤ 300) (h29 : tk k ≠ 29) (h30 : tk k ≠ 30) (h31 : tk k ≠ 31) (h32 : tk k ≠ 32) (h : gAk tk nu so R k P o ((x, 0) :: D)) : gnR tk nu so R 1 (k, x :: P, o, D) := by
  have r4 : rkF x = 4 := by
    unfold rkF
    rw [if_neg (by omega), if_neg (by omega), if_neg (by omega), if_neg (by omega), if_pos (by omega)]
  have e1 : opN (x :: P) = 42 := (opN_lt (by omega) P).trans h42
  have e2 : cmP (x :: P) = 1 := by rw [cmP, if_neg (by omega), if_pos r4]
  have hs : ∀ l, l ≤ 4 → sP l (x :: P) o D = sP l P o ((x, 0) :: D) := fun l q => sP_go (by omega) (by omega) (by omega) P o D
  have e3 : btI (tk k) (x :: P) = if tk k = 17 then 21 else if tk k = 16 then 22 else -1 := by
    unfold btI
    rw [if_neg h29, if_neg h30, if_neg h31, if_neg h32, e1, if_neg (by omega), e2, if_neg (by omega)]
  have e4 : ptI (tk k) (x :: P) (opN (x :: P)) = if tk k = 13 then 43 else -1 := by
    unfold ptI
    rw [e1, if_neg (by omega), if_pos rfl, e2]
    by_cases q : tk k = 13
    · rw [if_pos ⟨q, rfl⟩, if_pos q]
    · rw [if_neg (fun z => q z.1), if_neg q]
  by_cases t17 : tk k = 17
  · refine gn_bh (q := (0, 0, (k + 1, 21 :: (sP 2 P o ((x, 0) :: D)).1, (sP 2 P o ((x, 0) :: D)).2))) hB hk ?_ (fun _ => Nat.lt_succ_self _) (Or.inr ⟨rfl, h.1 t17⟩)
    unfold bhS
    show (if 0 ≤ btI (tk k) (x :: P) then (0, 0, (k + 1, btI (tk k) (x :: P) :: (sP (if rkF (btI (tk k) (x :: P)) = 4 then 5 else rkF (btI (tk k) (x :: P))) (x :: P) o D).1, (sP (if rkF (btI (tk k) (x :: P)) = 4 then 5 else rkF (btI (tk k) (x :: P))) (x :: P) o D).2)) else _) = _
    rw [e3, if_pos t17, if_pos (by decide), show (if rkF 21 = 4 then (5 : Int) else rkF 21) = 2 by decide, hs 2 (by omega)]
  · rw [if_neg t17] at e3
    by_cases t16 : tk k = 16
    · refine gn_bh (q := (0, 0, (k + 1, 22 :: (sP 1 P o ((x, 0) :: D)).1, (sP 1 P o ((x, 0) :: D)).2))) hB hk ?_ (fun _ => Nat.lt_succ_self _) (Or.inr ⟨rfl, h.2.1 t16⟩)
      unfold bhS
      show (if 0 ≤ btI (tk k) (x :: P) then (0, 0, (k + 1, btI (tk k) (x :: P) :: (sP (if rkF (btI (tk k) (x :: P)) = 4 then 5 else rkF (btI (tk k) (x :: P))) (x :: P) o D).1, (sP (if rkF (btI (tk k) (x :: P)) = 4 then 5 else rkF (btI (tk k) (x :: P))) (x :: P) o D).2)) else _) = _
      rw [e3, if_pos t16, if_pos (by decide), show (if rkF 22 = 4 then (5 : Int) else rkF 22) = 1 by decide, hs 1 (by omega)]
    · rw [if_neg t16] at e3
      by_cases t13 : tk k = 13
      · rw [if_pos t13] at e4
        refine gn_bh (q := (0, 0, (k + 1, 43 :: (sP 1 P o ((x, 0) :: D)).1.tail, (sP 1 P o ((x, 0) :: D)).2))) hB hk ?_ (fun _ => Nat.lt_succ_self _) (Or.inr ⟨rfl, h.2.2.1 t13⟩)
        unfold bhS
        show (if 0 ≤ btI (tk k) (x :: P) then _ else if ptI (tk k) (x :: P) (opN (x :: P)) < 0 then (-1, 1, (k, x :: P, o, D)) else if ptI (tk k) (x :: P) (opN (x :: P)) = 0 then _ else (0, 0, (k + 1, ptI (tk k) (x :: P) (opN (x :: P)) :: (sP 1 (x :: P) o D).1.tail, (sP 1 (x :: P) o D).2))) = _
        rw [e3, if_neg (by decide), e4, if_neg (by decide), if_neg (by decide), hs 1 (by omega)]
      · rw [if_neg t13] at e4
        have z := h.2.2.2 t17 t16 t13
        exact gn_fa hB hk (by show btI (tk k) (x :: P) < 0; omega) (by show ptI (tk k) (x :: P) (opN (x :: P)) < 0; omega) (by show 0 ≤ opN (x :: P); omega) z.1 z.2
end SIM
