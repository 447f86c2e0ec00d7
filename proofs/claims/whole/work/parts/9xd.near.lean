/-! ===== a law that doesn't look far ===== -/
def nrF (f : vF) : Prop := ∀ A B j, j < 8 → gd 100000 4 A → gd 100000 4 B → nmE A B j → f A j = f B j
def nrE (r : rE) : Prop := 0 ≤ r.2.2.2 ∧ (r.2.2.2 = 0 → nrF r.2.2.1)
theorem nr_F (c : Int) (k : Nat) : nrE (rF c k) := ⟨Int.le_refl 0, fun _ _ _ _ _ _ _ _ => rfl⟩
theorem nr_J (op : Int) {f g : vF} (hf : nrF f) (hg : nrF g) : nrF (vJ op f g) := fun A B j hj a b e => by unfold vJ; rw [hf A B j hj a b e, hg A B j hj a b e]
theorem nr_I {c f g : vF} (hc : nrF c) (hf : nrF f) (hg : nrF g) : nrF (vI c f g) := fun A B j hj a b e => by unfold vI; rw [hc A B j hj a b e, hf A B j hj a b e, hg A B j hj a b e]
theorem nr_N {op : Int} (ho : op.toNat ≠ 11) {f : vF} (hf : nrF f) : nrF (vN op f) := fun A B j hj a b e => by
  unfold vN cCh
  rw [hf A B j hj a b e, if_neg ho, if_neg ho]
theorem nr_M (op v : Int) : nrF (vM op v) := by
  intro A B j hj a b e
  have ka : mHk A (j : Int) = mNm A j 3 := by
    show mHk A (j : Int) = A (11 + j)
    unfold mHk
    rw [if_pos (by omega)]
    congr 1
  have kb : mHk B (j : Int) = mNm B j 3 := by
    show mHk B (j : Int) = B (11 + j)
    unfold mHk
    rw [if_pos (by omega)]
    congr 1
  have ca := cCn_bits a.1.1 a.1.2 (j : Int)
  have cb := cCn_bits b.1.1 b.1.2 (j : Int)
  have e0 : A 5 = B 5 := e 0 (by decide)
  have e1 : A 7 = B 7 := e 1 (by decide)
  have e3 := e 3 (by decide)
  have e4 : cCn A (j : Int) (A 0).toNat = cCn B (j : Int) (B 0).toNat := by rw [← ca, ← cb]; exact e 4 (by decide)
  have e5 : mHk A ((j : Int) - 1) = mHk B ((j : Int) - 1) := e 5 (by decide)
  have e6 : mHk A ((j : Int) + 1) = mHk B ((j : Int) + 1) := e 6 (by decide)
  have e7 : A 9 = B 9 := e 7 (by decide)
  unfold vM cNa
  rw [ka, kb, e0, e1, e3, e4, e5, e6, e7]
theorem nr_jn {op : Int} {k : Nat} {r s : rE} (h : nrE r) (h2 : nrE s) : nrE (0, k, vJ op r.2.2.1 s.2.2.1, max r.2.2.2 s.2.2.2) := by
  have a := h.1
  have b := h2.1
  refine ⟨by show 0 ≤ max r.2.2.2 s.2.2.2; omega, fun z => ?_⟩
  have z : max r.2.2.2 s.2.2.2 = 0 := z
  exact nr_J op (h.2 (by omega)) (h2.2 (by omega))
theorem nr_chL {p : Nat → rE} {tk : Nat → Int} {a b : Int} (hp : ∀ k, nrE (p k)) : ∀ m r, nrE r → nrE (chL p tk a b m r) := by
  intro m
  induction m with
  | zero => intro r h; exact h
  | succ m ih =>
    intro r h
    rw [chL]
    split
    · split
      · exact ih _ (nr_jn h (hp _))
      · exact hp _
    · exact h
theorem nr_ch {p : Nat → rE} {tk : Nat → Int} {a b : Int} (hp : ∀ k, nrE (p k)) (k : Nat) : nrE (ch p tk a b k) := by
  unfold ch
  split
  · exact nr_chL hp 300 _ (hp k)
  · exact hp k
theorem nr_exp {tk : Nat → Int} {t : Int} {r : rE} (h : nrE r) : nrE (expc tk t r) := by
  unfold expc
  repeat' split
  · exact h
  · exact nr_F _ _
  · exact h
theorem nr_U {op far : Int} (ho : op.toNat = 11 → far = 1) (hf : 0 ≤ far) {r : rE} (h : nrE r) : nrE (onU op far r) := by
  unfold onU
  split
  · have a := h.1
    refine ⟨by show 0 ≤ max far r.2.2.2; omega, fun z => ?_⟩
    have z : max far r.2.2.2 = 0 := z
    exact nr_N (fun y => by have := ho y; omega) (h.2 (by omega))
  · exact h
def nrL (l : lQ) : Prop := (∀ k, nrE (l.1 k)) ∧ (∀ k, nrE (l.2.1 k)) ∧ (∀ k, nrE (l.2.2.1 k)) ∧ ∀ k, nrE (l.2.2.2 k)
theorem nr_on {tk nu : Nat → Int} {so ok : Int} {low : lQ} (hl : nrL low) (k : Nat) : nrE (onB tk nu so ok low k) := by
  have z : ∀ op v : Int, nrE (0, k + 1, vM op v, 0) := fun op v => ⟨Int.le_refl 0, fun _ => nr_M op v⟩
  unfold onB
  split
  · split
    · exact nr_F _ _
    · exact z _ _
  split
  · split
    · exact nr_F _ _
    · exact nr_exp (hl.2.1 _)
  split
  · split
    · exact nr_F _ _
    · exact nr_U (fun y => absurd y (by decide)) (by decide) (hl.1 _)
  split
  · split
    · exact nr_F _ _
    · exact nr_U (fun _ => rfl) (by decide) (hl.1 _)
  split
  · split
    · exact nr_F _ _
    · have q := nr_exp (tk := tk) (t := 10) (hl.1 (k + 1))
      unfold ovR
      split
      · split
        · exact nr_jn q (hl.1 _)
        · exact hl.1 _
      · exact q
  split
  · split
    · exact nr_F _ _
    · have q := nr_exp (tk := tk) (t := 13) (hl.2.2.2 (k + 1))
      generalize expc tk 13 (low.2.2.2 (k + 1)) = c at *
      unfold ifT
      split
      · have q2 := nr_exp (tk := tk) (t := 14) (hl.2.1 c.2.1)
        generalize expc tk 14 (low.2.1 c.2.1) = f at *
        unfold ifE
        split
        · have q3 := nr_exp (tk := tk) (t := 15) (hl.2.1 f.2.1)
          generalize expc tk 15 (low.2.1 f.2.1) = g at *
          split
          · have a := q.1
            have b := q2.1
            have d := q3.1
            refine ⟨by show 0 ≤ max c.2.2.2 (max f.2.2.2 g.2.2.2); omega, fun z => ?_⟩
            have z : max c.2.2.2 (max f.2.2.2 g.2.2.2) = 0 := z
            exact nr_I (q.2 (by omega)) (q2.2 (by omega)) (q3.2 (by omega))
          · exact q3
        · exact q2
      · exact q
  split
  · exact nr_F _ _
  · split
    · exact z _ _
    · exact nr_F _ _
theorem nr_cm {tk : Nat → Int} {sum : Nat → rE} (hs : ∀ k, nrE (sum k)) {r : rE} (h : nrE r) : nrE (cmR tk sum r) := by
  unfold cmR
  split
  · split
    · exact nr_F _ _
    · split
      · exact nr_jn h (hs _)
      · exact hs _
  · exact h
theorem nr_mk {tk nu : Nat → Int} {so ok : Int} {low : lQ} (hl : nrL low) : nrL (mkQ tk nu so ok low) := by
  have o := nr_on (tk := tk) (nu := nu) (so := so) (ok := ok) hl
  have s : ∀ k, nrE (smB tk (onB tk nu so ok low) k) := nr_ch (nr_ch o)
  have a : ∀ k, nrE (akB tk ok low (smB tk (onB tk nu so ok low)) k) := fun k => by
    unfold akB
    split
    · split
      · exact nr_F _ _
      · exact nr_U (fun y => absurd y (by decide)) (by decide) (hl.2.2.1 _)
    · exact nr_cm s (s k)
  exact ⟨o, s, a, nr_ch (nr_ch a)⟩
theorem nr_lev (tk nu : Nat → Int) (so : Int) : ∀ v, nrL (lev tk nu so v) := by
  intro v
  induction v with
  | zero => exact nr_mk ⟨fun k => nr_F _ k, fun k => nr_F _ k, fun k => nr_F _ k, fun k => nr_F _ k⟩
  | succ v ih => exact nr_mk ih
/-! ===== what a text says ===== -/
noncomputable def wT (tk nu : Nat → Int) (cs : List Nat) : vF := fun A h => if lwK tk 0 cs = 0 then 0 else mCut ((lwE tk nu 0 (lwK tk 0 cs)).2.2.1 A h)
noncomputable def vT (tk nu : Nat → Int) (cs : List Nat) : vF := fun A h => if lwK tk 1 cs = 0 then 1 + A 7 else mCut ((lwE tk nu 1 (lwK tk 1 cs)).2.2.1 A h)
theorem mCut_ran (v : Int) : 0 ≤ mCut v ∧ mCut v ≤ 9 := by
  unfold mCut
  repeat' split
  all_goals omega
theorem cOut_1 (v : Int) : cOut [v] = mCut v := by
  show max 0 (min 9 v) = mCut v
  unfold mCut
  repeat' split
  all_goals omega
theorem pt_law {tk nu I C : Nat → Int} {L : Nat} {a : Int} {f1 f2 : Nat} {cs : List Nat} (hL : L ≤ 300) (hC : ∀ i, i < 300 → 0 ≤ C i ∧ C i ≤ 1000000) (h : lawC tk nu I C L a f1 f2 cs) {wo : vF} : ptOK C (L : Int) (I f1) (I f2) 100000 4 wo (fun A h => if lwK tk a cs = 0 then wo A h else mCut ((lwE tk nu a (lwK tk a cs)).2.2.1 A h)) := by
  by_cases q : lwK tk a cs = 0
  · exact Or.inl ⟨h.1 q, fun A h => if_pos q⟩
  · obtain ⟨i, j, a1, a2, a3, a4⟩ := h.2 q
    refine Or.inr ⟨opC C, vaC C, i, j, a1, a2, a4.1, by omega, by omega, fun k hk => ?_, fun A h g hh => ?_⟩
    · have := hC k (by omega)
      unfold opC vaC
      omega
    · obtain ⟨m, hm⟩ := segC_run a4 (by decide) A h g hh
      exact ⟨m, _, hm, by rw [cOut_1]; exact if_neg q⟩
theorem law_txF {σ : gS} {x : Nat} {tk nu : Nat → Int} {cs : List Nat} (hx : kd x = 4) (h : txF σ x tk nu cs) (h3 : inR (σ.1 x 3)) (h5 : inR (σ.1 x 5)) (hC : ∀ i, i < 300 → 0 ≤ σ.2.1 (x + 1) i ∧ σ.2.1 (x + 1) i ≤ 1000000) : txOK σ x 100000 4 (wT tk nu cs) (vT tk nu cs) ∧ inR (σ.1 x 10) ∧ (σ.1 x 10 = 0 → nearW 100000 4 (wT tk nu cs)) ∧ (∀ A h, gd 100000 4 A → h < 8 → 0 ≤ wT tk nu cs A h ∧ wT tk nu cs A h ≤ 9) ∧ ∀ A h, gd 100000 4 A → h < 8 → 0 ≤ vT tk nu cs A h ∧ vT tk nu cs A h ≤ 9 := by
  obtain ⟨h9, h24, hc, L, e1, hL, l0, l1, f01, fr⟩ := h
  refine ⟨⟨hx, by rw [e1]; unfold inR; omega, h3, h5, by rw [e1]; exact pt_law hL hC l0, by rw [e1]; exact pt_law hL hC l1⟩, by unfold inR; omega, fun z => ?_, fun A h g hh => ?_, fun A h g hh => ?_⟩
  · intro A B j hj a b e
    unfold wT
    by_cases q : lwK tk 0 cs = 0
    · rw [if_pos q, if_pos q]
    · rw [if_neg q, if_neg q]
      exact congrArg mCut (((nr_lev tk nu 0 8).2.1 (lwK tk 0 cs)).2 (fr z q) A B j hj a b e)
  · unfold wT
    split
    · omega
    · exact mCut_ran _
  · unfold vT
    have := g.2.2.2.2.2.2.2.1
    split
    · omega
    · exact mCut_ran _
