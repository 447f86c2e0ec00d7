/-! ===== the class's reader: clauses, pure ===== -/
/-- from B (no fault) it came by q to B' -/
def bqR (st : Nat → Int) (B : rB) (q : Int × Nat) (B' : rB) : Prop := (q.1 = 0 → B' = (0, B.2.1, q.2, B.2.2.2)) ∧ (q.1 ≠ 0 → B'.1 = q.1 ∧ B'.2.1 = st q.2)
theorem bq_ad {st : Nat → Int} {B : rB} (h : B.1 = 0) : bqR st B (0, B.2.2.1 + 1) (adB B) := ⟨fun _ => by unfold adB; rw [h], fun z => absurd rfl z⟩
theorem fl_n {c : Int} {st : Nat → Int} {B : rB} (h : B.1 ≠ 0) : flB c st B = B := by unfold flB; rw [if_neg h, if_neg h]
theorem bq_ex {tk st : Nat → Int} {t : Int} {B B' : rB} {q : Int × Nat} (h : bqR st B q B') : bqR st B (xpE tk t q) (exB t tk st B') := by
  unfold xpE
  by_cases z : q.1 = 0
  · have e := h.1 z
    rw [if_pos z, e]
    unfold exB
    by_cases y : tk q.2 = t
    · rw [if_pos y, if_pos ⟨rfl, y⟩]
      exact ⟨fun _ => rfl, fun z => absurd rfl z⟩
    · rw [if_neg y, if_neg (fun w => y w.2)]
      exact ⟨fun w => absurd w (show ¬ (1 : Int) = 0 by decide), fun _ => ⟨rfl, rfl⟩⟩
  · have e := h.2 z
    rw [if_neg z]
    have n0 : B'.1 ≠ 0 := by rw [e.1]; exact z
    unfold exB
    rw [if_neg (fun w => n0 w.1), fl_n n0]
    exact h
theorem bq_nu {tk nu st : Nat → Int} {lo hi : Int} {B B' : rB} {q : Int × Nat} (h : bqR st B q B') : bqR st B (if q.1 = 0 then fgE tk nu lo hi q.2 else q) (nuB lo hi tk nu st B') := by
  by_cases z : q.1 = 0
  · have e := h.1 z
    rw [if_pos z, e]
    unfold nuB fgE
    by_cases y : tk q.2 = 38
    · rw [if_pos y, if_neg (show ¬ ¬ tk q.2 = 38 from fun w => w y)]
      by_cases y2 : lo ≤ nu q.2 ∧ nu q.2 ≤ hi
      · rw [if_pos y2, if_neg (show ¬ (nu q.2 < lo ∨ hi < nu q.2) by omega), if_pos rfl]
        exact ⟨fun _ => rfl, fun z => absurd rfl z⟩
      · rw [if_neg y2, if_pos (show nu q.2 < lo ∨ hi < nu q.2 by omega)]
        exact ⟨fun w => absurd w (show ¬ (2 : Int) = 0 by decide), fun _ => ⟨rfl, rfl⟩⟩
    · rw [if_neg y, if_pos (show ¬ tk q.2 = 38 from y)]
      exact ⟨fun w => absurd w (show ¬ (1 : Int) = 0 by decide), fun _ => ⟨rfl, rfl⟩⟩
  · have e := h.2 z
    rw [if_neg z]
    have n0 : B'.1 ≠ 0 := by rw [e.1]; exact z
    unfold nuB
    rw [fl_n n0, fl_n n0, if_neg n0]
    split
    · exact h
    split
    · exact h
    · exact h
/-- a deed read is the clause of the tokens -/
theorem dd_cl {a : Int} {tk nu st : Nat → Int} {B B' : rB} {f s : Int} (ha : 2 ≤ a ∧ a ≤ 7) (h0 : B.1 = 0) (h : ddR a tk nu st B B' f s) : bqR st B (clE tk nu a (B.2.2.1 + 1)) B' ∧ ((clE tk nu a (B.2.2.1 + 1)).1 = 0 → (a ≠ 6 → f = nu (B.2.2.1 + 1)) ∧ (a = 3 ∨ a = 4 → s = nu (B.2.2.1 + 3)) ∧ (a = 6 → f = 0) ∧ (a ≠ 3 → a ≠ 4 → s = 0)) := by
  obtain ⟨h1, h2, h3, h4, h5⟩ := h
  have b0 := bq_ad (st := st) h0
  have ah : ∀ lo hi, (ahE tk nu lo hi (B.2.2.1 + 1)) = (if (xpE tk 8 (fgE tk nu lo hi (B.2.2.1 + 1))).1 = 0 then fgE tk nu 0 7 (xpE tk 8 (fgE tk nu lo hi (B.2.2.1 + 1))).2 else xpE tk 8 (fgE tk nu lo hi (B.2.2.1 + 1))) := fun _ _ => rfl
  have two : ∀ lo hi, bqR st B (xpE tk 8 (fgE tk nu lo hi (B.2.2.1 + 1))) (exB 8 tk st (nuB lo hi tk nu st (adB B))) := fun lo hi => bq_ex (bq_nu b0)
  have sec : ∀ lo hi, (clE tk nu a (B.2.2.1 + 1)).1 = 0 → boE tk nu a (B.2.2.1 + 1) = ahE tk nu lo hi (B.2.2.1 + 1) → nu (exB 8 tk st (nuB lo hi tk nu st (adB B))).2.2.1 = nu (B.2.2.1 + 3) := by
    intro lo hi q e
    have q2 : (ahE tk nu lo hi (B.2.2.1 + 1)).1 = 0 := by
      unfold clE at q
      rw [e] at q
      unfold xpE at q
      by_cases z : (ahE tk nu lo hi (B.2.2.1 + 1)).1 = 0
      · exact z
      · rw [if_neg z] at q; exact absurd q z
    by_cases z : (xpE tk 8 (fgE tk nu lo hi (B.2.2.1 + 1))).1 = 0
    · have t := (two lo hi).1 z
      have f0 : (fgE tk nu lo hi (B.2.2.1 + 1)).1 = 0 := by
        unfold xpE at z
        by_cases w : (fgE tk nu lo hi (B.2.2.1 + 1)).1 = 0
        · exact w
        · rw [if_neg w] at z; exact absurd z w
      have f1 := (fg_38 f0).2
      have e2 : (xpE tk 8 (fgE tk nu lo hi (B.2.2.1 + 1))).2 = B.2.2.1 + 3 := by
        unfold xpE at z ⊢
        rw [if_pos f0] at z ⊢
        by_cases w : tk (fgE tk nu lo hi (B.2.2.1 + 1)).2 = 8
        · rw [if_pos w]; show (fgE tk nu lo hi (B.2.2.1 + 1)).2 + 1 = _; omega
        · rw [if_neg w] at z; exact absurd z (show ¬ (1 : Int) = 0 by decide)
      rw [t, e2]
    · rw [ah, if_neg z] at q2
      exact absurd q2 z
  rcases (by omega : a = 2 ∨ a = 3 ∨ a = 4 ∨ a = 5 ∨ a = 6 ∨ a = 7) with e | e | e | e | e | e <;> subst e
  · obtain ⟨e1, e2, e3⟩ := h1 (Or.inl rfl)
    subst e1
    exact ⟨bq_ex (bq_nu b0), fun _ => ⟨fun _ => e2, fun z => by omega, fun z => by omega, fun _ _ => e3⟩⟩
  · obtain ⟨e1, e2, e3⟩ := h3 rfl
    subst e1
    exact ⟨bq_ex (bq_nu (two 0 40)), fun q => ⟨fun _ => e2, fun _ => e3.trans (sec 0 40 q rfl), fun z => by omega, fun z => absurd rfl z⟩⟩
  · obtain ⟨e1, e2, e3⟩ := h4 rfl
    subst e1
    exact ⟨bq_ex (bq_nu (two 1 20)), fun q => ⟨fun _ => e2, fun _ => e3.trans (sec 1 20 q rfl), fun z => by omega, fun _ z => absurd rfl z⟩⟩
  · obtain ⟨e1, e2, e3⟩ := h1 (Or.inr rfl)
    subst e1
    exact ⟨bq_ex (bq_nu b0), fun _ => ⟨fun _ => e2, fun z => by omega, fun z => by omega, fun _ _ => e3⟩⟩
  · obtain ⟨e1, e2, e3⟩ := h5 rfl
    subst e1
    exact ⟨bq_ex b0, fun _ => ⟨fun z => absurd rfl z, fun z => by omega, fun _ => e2, fun _ _ => e3⟩⟩
  · obtain ⟨e1, e2, e3⟩ := h2 rfl
    subst e1
    exact ⟨bq_ex (bq_nu b0), fun _ => ⟨fun _ => e2, fun z => by omega, fun z => by omega, fun _ _ => e3⟩⟩
theorem ex_222 {t : Int} {tk st : Nat → Int} {B : rB} : (exB t tk st B).2.2.2 = B.2.2.2 := by unfold exB; split <;> rfl
theorem nu_222 {lo hi : Int} {tk nu st : Nat → Int} {B : rB} : (nuB lo hi tk nu st B).2.2.2 = B.2.2.2 := by
  unfold nuB
  repeat' split
  all_goals rfl
theorem ad_222 {B : rB} : (adB B).2.2.2 = B.2.2.2 := rfl
theorem dd_222 {a : Int} {tk nu st : Nat → Int} {B B' : rB} {f s : Int} (ha : 2 ≤ a ∧ a ≤ 7) (h : ddR a tk nu st B B' f s) : B'.2.2.2 = B.2.2.2 := by
  obtain ⟨h1, h2, h3, h4, h5⟩ := h
  rcases (by omega : a = 2 ∨ a = 3 ∨ a = 4 ∨ a = 5 ∨ a = 6 ∨ a = 7) with e | e | e | e | e | e <;> subst e
  · rw [(h1 (Or.inl rfl)).1, ex_222, nu_222, ad_222]
  · rw [(h3 rfl).1, ex_222, nu_222, ex_222, nu_222, ad_222]
  · rw [(h4 rfl).1, ex_222, nu_222, ex_222, nu_222, ad_222]
  · rw [(h1 (Or.inr rfl)).1, ex_222, nu_222, ad_222]
  · rw [(h5 rfl).1, ex_222, ad_222]
  · rw [(h2 rfl).1, ex_222, nu_222, ad_222]
/-- a law's clause -/
theorem ex_xp {tk : Nat → Int} {t : Int} {r : rE} : (expc tk t r).1 = (xpE tk t (r.1, r.2.1)).1 ∧ (expc tk t r).2.1 = (xpE tk t (r.1, r.2.1)).2 ∧ ((expc tk t r).1 = 0 → r.1 = 0 ∧ (expc tk t r).2.2 = r.2.2) := by
  unfold expc xpE
  by_cases q : r.1 = 0
  · rw [if_pos q, if_pos (show (r.1, r.2.1).1 = 0 from q)]
    by_cases w : tk r.2.1 = t
    · rw [if_pos w, if_pos (show tk (r.1, r.2.1).2 = t from w)]; exact ⟨rfl, rfl, fun _ => ⟨q, rfl⟩⟩
    · rw [if_neg w, if_neg (show ¬ tk (r.1, r.2.1).2 = t from w)]; exact ⟨rfl, rfl, fun z => absurd z (show ¬ (1 : Int) = 0 by decide)⟩
  · rw [if_neg q, if_neg (show ¬ (r.1, r.2.1).1 = 0 from q)]; exact ⟨rfl, rfl, fun z => absurd z q⟩
theorem bo_law {tk nu : Nat → Int} {a : Int} (ha : a ≤ 1) (k : Nat) : boE tk nu a k = ((lwE tk nu a k).1, (lwE tk nu a k).2.1) := by
  unfold boE
  rw [if_neg (by omega), if_neg (by omega), if_neg (by omega), if_neg (by omega), if_neg (by omega), if_neg (by omega)]
/-- the clauses' rows of the class -/
def clsC (tk nu R2 R3 R4 : Nat → Int) : List Nat → Prop
  | [] => True
  | k :: cs => (R2 cs.length = tk k ∧ (2 ≤ tk k → tk k ≠ 6 → R3 cs.length = nu (k + 1)) ∧ (tk k = 3 ∨ tk k = 4 → R4 cs.length = nu (k + 3)) ∧ inR (R3 cs.length) ∧ inR (R4 cs.length)) ∧ clsC tk nu R2 R3 R4 cs
theorem clsC_up {tk nu R2 R3 R4 S2 S3 S4 : Nat → Int} : ∀ {cs : List Nat}, clsC tk nu R2 R3 R4 cs → (∀ i, i < cs.length → S2 i = R2 i ∧ S3 i = R3 i ∧ S4 i = R4 i) → clsC tk nu S2 S3 S4 cs := by
  intro cs
  induction cs with
  | nil => intro _ _; trivial
  | cons k cs ih =>
    intro h e
    have e0 := e cs.length (by rw [List.length_cons]; omega)
    refine ⟨?_, ih h.2 (fun i hi => e i (by rw [List.length_cons]; omega))⟩
    rw [e0.1, e0.2.1, e0.2.2]
    exact h.1
/-- a law of the text at x: sort a, numbers f1, f2 -/
def lawC (tk nu : Nat → Int) (I C : Nat → Int) (l : Nat) (a : Int) (f1 f2 : Nat) (cs : List Nat) : Prop := (lwK tk a cs = 0 → I f1 = -1) ∧ (lwK tk a cs ≠ 0 → ∃ i j : Nat, I f1 = (i : Int) ∧ I f2 = (j : Int) ∧ j ≤ l ∧ segC C i j 55 (lwE tk nu a (lwK tk a cs)).2.2.1)
/-- the text at x between clauses -/
def cTI (σ : gS) (x n : Nat) (tk st nu : Nat → Int) (so : Int) (B : rB) (cs : List Nat) : Prop := rdK σ x n tk st nu ∧ rdR σ x tk so σ B ∧ okB n B ∧ B.1 = 0 ∧ σ.1 x 9 = ((cs.length : Nat) : Int) ∧ cs.length ≤ 24 ∧ clsC tk nu (σ.2.1 (x + 2)) (σ.2.1 (x + 3)) (σ.2.1 (x + 4)) cs ∧ lawC tk nu (σ.1 x) B.2.2.2.2.2 B.2.2.2.1 0 2 3 cs ∧ lawC tk nu (σ.1 x) B.2.2.2.2.2 B.2.2.2.1 1 4 5 cs ∧ (B.2.2.2.2.1 = 0 → lwK tk 0 cs ≠ 0 → (lwE tk nu 0 (lwK tk 0 cs)).2.2.2 = 0)
/-- behind a clause -/
def cqC (σ1 : gS) (x n : Nat) (tk st nu : Nat → Int) (B : rB) (cs : List Nat) (σ' : gS) : Prop := chg (txP x) σ1 σ' ∧ ∃ B' so', rdK σ' x n tk st nu ∧ rdR σ' x tk so' σ' B' ∧ (∀ i, i < 300 → 0 ≤ B'.2.2.2.2.2 i ∧ B'.2.2.2.2.2 i ≤ 1000000) ∧ (inR (σ1.1 x 3) → inR (σ1.1 x 5) → inR (σ'.1 x 3) ∧ inR (σ'.1 x 5)) ∧ ((oneE tk nu B.2.2.1 cs).1 ≠ 0 → B'.1 = (oneE tk nu B.2.2.1 cs).1 ∧ B'.2.1 = st (oneE tk nu B.2.2.1 cs).2) ∧ ((oneE tk nu B.2.2.1 cs).1 = 0 → cTI σ' x n tk st nu so' B' (B.2.2.1 :: cs) ∧ B'.2.1 = B.2.1 ∧ B'.2.2.1 = (oneE tk nu B.2.2.1 cs).2)
section
variable {σ1 σ' : gS} {x n : Nat} {tk st nu : Nat → Int} {so : Int} {B : rB} {cs : List Nat}
theorem cq_fl (I : cTI σ1 x n tk st nu so B cs) {c : Int} (hc : c ≠ 0) (e : oneE tk nu B.2.2.1 cs = (c, B.2.2.1)) (rd2 : rdR σ1 x tk so σ' (flB c st B)) : cqC σ1 x n tk st nu B cs σ' := by
  obtain ⟨K2, r2⟩ := rd_self I.1 rd2
  refine ⟨chg_rdP rd2.1, _, so, K2, r2, I.2.2.1.2.2.2.1, fun a b => ?_, fun _ => ?_, fun z => ?_⟩
  · have e1 := rd2.2.2.2.2.2.2.2.2.2.2.2
    rw [e1 3 (by decide) (by decide), e1 5 (by decide) (by decide)]
    exact ⟨a, b⟩
  · rw [e]
    unfold flB
    rw [if_pos I.2.2.2.1, if_pos I.2.2.2.1]
    exact ⟨rfl, rfl⟩
  · rw [e] at z
    exact absurd z hc
theorem one_cl {s : Int} (hs : tk B.2.2.1 = s) (h7 : s ≤ 7) (h1 : s ≤ 1 → lwK tk s cs = 0) (h24 : cs.length < 24) : oneE tk nu B.2.2.1 cs = clE tk nu s (B.2.2.1 + 1) := by
  unfold oneE
  rw [hs, if_neg (by omega), if_neg (fun z => z.2 (h1 z.1)), if_neg (by omega)]
theorem lw_c {k : Nat} {a : Int} (h : tk k ≠ a) : lwK tk a (k :: cs) = lwK tk a cs := by rw [lwK, if_neg h]
theorem lawC_k {I I' C C' : Nat → Int} {l l' : Nat} {a : Int} {f1 f2 k : Nat} (h : lawC tk nu I C l a f1 f2 cs) (ht : tk k ≠ a) (e1 : I' f1 = I f1) (e2 : I' f2 = I f2) (hl : l ≤ l') (hC : ∀ i, i < l → C' i = C i) : lawC tk nu I' C' l' a f1 f2 (k :: cs) := by
  unfold lawC
  rw [lw_c ht, e1, e2]
  refine ⟨h.1, fun z => ?_⟩
  obtain ⟨i, j, a1, a2, a3, a4⟩ := h.2 z
  exact ⟨i, j, a1, a2, by omega, segC_c a4 (fun q _ w => hC q (by omega))⟩
theorem cq_de (I : cTI σ1 x n tk st nu so B cs) {a : Int} (ha : tk B.2.2.1 = a) (h2 : 2 ≤ a ∧ a ≤ 7) (h24 : cs.length < 24) (hlt : B.2.2.1 < n) (hnu : ∀ k, 0 ≤ nu k ∧ nu k ≤ 10000) (h : ∃ B' f s, rdK σ' x n tk st nu ∧ rdR σ' x tk so σ' B' ∧ ddR a tk nu st B B' f s ∧ clQ σ1 σ' x cs.length a f s (fun j => σ1.1 x j)) : cqC σ1 x n tk st nu B cs σ' := by
  obtain ⟨B', f, s, K2, r2, dd, c1, c9, c2, c3, c4, cj⟩ := h
  obtain ⟨K, rd, ok, b0, i9, i24, ic, l0, l1, fr⟩ := I
  obtain ⟨q1, q2⟩ := dd_cl h2 b0 dd
  have e := one_cl (nu := nu) (cs := cs) ha h2.2 (fun z => by omega) h24
  have cok := cl_ok (a := a) K.2.2.1 K.2.2.2.1 (fun k => (hnu k).1) (show B.2.2.1 + 1 ≤ n from hlt)
  unfold cqC
  rw [e]
  refine ⟨c1, B', so, K2, r2, by rw [dd_222 h2 dd]; exact ok.2.2.2.1, fun a b => ⟨by rw [cj 3 (by decide) (by decide) (by decide)]; exact a, by rw [cj 5 (by decide) (by decide) (by decide)]; exact b⟩, fun z => q1.2 z, fun z => ?_⟩
  have eB := q1.1 z
  obtain ⟨f1, s1, f6, s6⟩ := q2 z
  subst eB
  have h0 : tk B.2.2.1 ≠ 0 := by omega
  have h1 : tk B.2.2.1 ≠ 1 := by omega
  have fr' : inR f := by
    by_cases z6 : a = 6
    · rw [f6 z6]; unfold inR; omega
    · rw [f1 z6]; have := hnu (B.2.2.1 + 1); unfold inR; omega
  have sr' : inR s := by
    by_cases z3 : a = 3 ∨ a = 4
    · rw [s1 z3]; have := hnu (B.2.2.1 + 3); unfold inR; omega
    · rw [s6 (by omega) (by omega)]; unfold inR; omega
  refine ⟨⟨K2, r2, ⟨by show inR 0; unfold inR; omega, cok.2.1, ok.2.2.1, ok.2.2.2.1, fun _ => by have := ok.2.2.2.2.1 b0; have := cok.2.2.1; show B.2.2.2.1 ≤ (clE tk nu a (B.2.2.1 + 1)).2; omega, ok.2.2.2.2.2⟩, rfl, by rw [c9, List.length_cons]; omega, by rw [List.length_cons]; omega, ⟨?_, ?_⟩, lawC_k l0 h0 (cj 2 (by decide) (by decide) (by decide)) (cj 3 (by decide) (by decide) (by decide)) (Nat.le_refl _) (fun _ _ => rfl), lawC_k l1 h1 (cj 4 (by decide) (by decide) (by decide)) (cj 5 (by decide) (by decide) (by decide)) (Nat.le_refl _) (fun _ _ => rfl), ?_⟩, rfl, rfl⟩
  · rw [c2, c3, c4, va_up_self, va_up_self, va_up_self, ha]
    exact ⟨rfl, fun _ z => f1 z, s1, fr', sr'⟩
  · rw [c2, c3, c4]
    exact clsC_up ic (fun i hi => ⟨va_up_ne _ _ (by omega), va_up_ne _ _ (by omega), va_up_ne _ _ (by omega)⟩)
  · rw [lw_c h0]
    exact fr
theorem cq_lw (I : cTI σ1 x n tk st nu so B cs) {a v : Int} {f1 f2 : Nat} (hav : (a = 0 ∧ v = 1 ∧ f1 = 2 ∧ f2 = 3) ∨ (a = 1 ∧ v = 0 ∧ f1 = 4 ∧ f2 = 5)) (ha : tk B.2.2.1 = a) (hno : lwK tk a cs = 0) (h24 : cs.length < 24) (h : ∃ B', rdK σ' x n tk st nu ∧ rdR σ' x tk v σ' B' ∧ rdQ n st v B 55 2 (expc tk 35 (lwE tk nu a (B.2.2.1 + 1))) B' ∧ ∃ l3 : Nat, B'.2.2.2.1 = l3 ∧ clQ σ1 σ' x cs.length a 0 0 (fun j => if j = f1 then (B.2.2.2.1 : Int) else if j = f2 then (l3 : Int) else σ1.1 x j)) : cqC σ1 x n tk st nu B cs σ' := by
  obtain ⟨B', K2, r2, ⟨okB', -, rq⟩, l3, el, c1, c9, c2, c3, c4, cj⟩ := h
  obtain ⟨K, rd, ok, b0, i9, i24, ic, l0, l1, fr⟩ := I
  have rq := rq b0
  have e := one_cl (nu := nu) (cs := cs) ha (by omega) (fun _ => hno) h24
  have bl := bo_law (tk := tk) (nu := nu) (a := a) (by omega) (B.2.2.1 + 1)
  obtain ⟨x1, x2, x3⟩ := ex_xp (tk := tk) (t := 35) (r := lwE tk nu a (B.2.2.1 + 1))
  have ec : clE tk nu a (B.2.2.1 + 1) = xpE tk 35 ((lwE tk nu a (B.2.2.1 + 1)).1, (lwE tk nu a (B.2.2.1 + 1)).2.1) := by unfold clE; rw [bl]
  unfold cqC
  rw [e, ec, ← x1, ← x2]
  refine ⟨c1, B', v, K2, r2, okB'.2.2.2.1, fun a b => ?_, fun z => rq.2 z, fun z => ?_⟩
  · rw [cj 3 (by decide) (by decide) (by decide), cj 5 (by decide) (by decide) (by decide)]
    have l300 := okB'.2.2.1
    rcases hav with ⟨ea, ev, e1, e2⟩ | ⟨ea, ev, e1, e2⟩
    · subst e1 e2
      exact ⟨show inR (l3 : Int) by unfold inR; omega, b⟩
    · subst e1 e2
      exact ⟨a, show inR (l3 : Int) by unfold inR; omega⟩
  obtain ⟨g1, g2, g3, g4, g5, g6, g7⟩ := rq.1 z
  obtain ⟨x4, x5⟩ := x3 z
  have x5a : (expc tk 35 (lwE tk nu a (B.2.2.1 + 1))).2.2.1 = (lwE tk nu a (B.2.2.1 + 1)).2.2.1 := congrArg Prod.fst x5
  have x5b : (expc tk 35 (lwE tk nu a (B.2.2.1 + 1))).2.2.2 = (lwE tk nu a (B.2.2.1 + 1)).2.2.2 := congrArg Prod.snd x5
  rw [x5a] at g7
  rw [x5b] at g5
  have hle : B.2.2.2.1 ≤ B'.2.2.2.1 := g7.1
  have ek : lwK tk a (B.2.2.1 :: cs) = B.2.2.1 + 1 := by rw [lwK, if_pos ha]
  have self : ∀ I' : Nat → Int, I' f1 = (B.2.2.2.1 : Int) → I' f2 = (l3 : Int) → lawC tk nu I' B'.2.2.2.2.2 B'.2.2.2.1 a f1 f2 (B.2.2.1 :: cs) := by
    intro I' a1 a2
    unfold lawC
    rw [ek]
    exact ⟨fun z => by omega, fun _ => ⟨B.2.2.2.1, l3, a1, a2, by omega, by rw [← el]; exact g7⟩⟩
  refine ⟨⟨K2, r2, okB', g1, by rw [c9, List.length_cons]; omega, by rw [List.length_cons]; omega, ⟨?_, ?_⟩, ?_, ?_, ?_⟩, g2, g3⟩
  · rw [c2, c3, c4, va_up_self, va_up_self, va_up_self, ha]
    refine ⟨rfl, fun z => by omega, fun z => by omega, ?_, ?_⟩ <;> (unfold inR; omega)
  · rw [c2, c3, c4]
    exact clsC_up ic (fun i hi => ⟨va_up_ne _ _ (by omega), va_up_ne _ _ (by omega), va_up_ne _ _ (by omega)⟩)
  · rcases hav with ⟨ea, ev, e1, e2⟩ | ⟨ea, ev, e1, e2⟩
    · subst ea e1 e2
      exact self _ (cj 2 (by decide) (by decide) (by decide)) (cj 3 (by decide) (by decide) (by decide))
    · subst e1 e2
      exact lawC_k l0 (by omega) (cj 2 (by decide) (by decide) (by decide)) (cj 3 (by decide) (by decide) (by decide)) hle g6
  · rcases hav with ⟨ea, ev, e1, e2⟩ | ⟨ea, ev, e1, e2⟩
    · subst e1 e2
      exact lawC_k l1 (by omega) (cj 4 (by decide) (by decide) (by decide)) (cj 5 (by decide) (by decide) (by decide)) hle g6
    · subst ea e1 e2
      exact self _ (cj 4 (by decide) (by decide) (by decide)) (cj 5 (by decide) (by decide) (by decide))
  · rcases hav with ⟨ea, ev, e1, e2⟩ | ⟨ea, ev, e1, e2⟩
    · subst ea ev
      rw [ek]
      rw [if_neg (by decide)] at g5
      intro z1 _
      have r0 := ((okL_lev tk nu 0 8).2.1 (B.2.2.1 + 1)).2.2.1
      have r0 : 0 ≤ (lwE tk nu 0 (B.2.2.1 + 1)).2.2.2 := r0.1
      omega
    · subst ea ev
      rw [if_pos rfl] at g5
      rw [lw_c (by omega), g5]
      exact fr
end
