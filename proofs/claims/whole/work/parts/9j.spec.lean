/-! ===== what a sum is, by its tokens ===== -/
abbrev vF : Type := (Nat → Int) → Nat → Int
/-- fault (0: none), token, value, whether it asks for any house -/
abbrev rE : Type := Int × Nat × vF × Int
def rF (c : Int) (k : Nat) : rE := (c, k, fun _ _ => 0, 0)
def vJ (op : Int) (f g : vF) : vF := fun A h => mClip (cJn op.toNat (f A h) (g A h))
def vN (op : Int) (f : vF) : vF := fun A h => mClip (cCh A op.toNat (f A h))
def vM (op v : Int) : vF := fun A h => mClip (cNa A h op.toNat v.toNat)
def vI (c f g : vF) : vF := fun A h => if c A h = 0 then g A h else f A h
/-- on behind r, m times at most: p again behind a or b -/
def chL (p : Nat → rE) (tk : Nat → Int) (a b : Int) : Nat → rE → rE
  | 0, r => r
  | m + 1, r => if tk r.2.1 = a ∨ tk r.2.1 = b then (if (p (r.2.1 + 1)).1 = 0 then chL p tk a b m (0, (p (r.2.1 + 1)).2.1, vJ (tk r.2.1) r.2.2.1 (p (r.2.1 + 1)).2.2.1, max r.2.2.2 (p (r.2.1 + 1)).2.2.2) else p (r.2.1 + 1)) else r
def ch (p : Nat → rE) (tk : Nat → Int) (a b : Int) (k : Nat) : rE := if (p k).1 = 0 then chL p tk a b 300 (p k) else p k
/-- one, sum, ask, either of a level -/
abbrev lQ : Type := (Nat → rE) × (Nat → rE) × (Nat → rE) × (Nat → rE)
def expc (tk : Nat → Int) (t : Int) (r : rE) : rE := if r.1 = 0 then (if tk r.2.1 = t then (0, r.2.1 + 1, r.2.2) else rF 1 r.2.1) else r
def onU (op far : Int) (r : rE) : rE := if r.1 = 0 then (0, r.2.1, vN op r.2.2.1, max far r.2.2.2) else r
def ovR (low : lQ) (r : rE) : rE := if r.1 = 0 then (if (low.1 r.2.1).1 = 0 then (0, (low.1 r.2.1).2.1, vJ 9 r.2.2.1 (low.1 r.2.1).2.2.1, max r.2.2.2 (low.1 r.2.1).2.2.2) else low.1 r.2.1) else r
/-- the rest of an if: behind then (c), behind else (c, f) -/
def ifE (tk : Nat → Int) (low : lQ) (c f : rE) : rE := if f.1 = 0 then (if (expc tk 15 (low.2.1 f.2.1)).1 = 0 then (0, (expc tk 15 (low.2.1 f.2.1)).2.1, vI c.2.2.1 f.2.2.1 (expc tk 15 (low.2.1 f.2.1)).2.2.1, max c.2.2.2 (max f.2.2.2 (expc tk 15 (low.2.1 f.2.1)).2.2.2)) else expc tk 15 (low.2.1 f.2.1)) else f
def ifT (tk : Nat → Int) (low : lQ) (c : rE) : rE := if c.1 = 0 then ifE tk low c (expc tk 14 (low.2.1 c.2.1)) else c
noncomputable def onB (tk nu : Nat → Int) (so : Int) (ok : Int) (low : lQ) (k : Nat) : rE :=
  if tk k = 38 then (if 9999 < nu k then rF 2 k else (0, k + 1, vM 38 (nu k), 0))
  else if tk k = 33 then (if ok = 0 then rF 3 k else expc tk 34 (low.2.1 (k + 1)))
  else if tk k = 30 then (if ok = 0 then rF 3 k else onU 41 0 (low.1 (k + 1)))
  else if tk k = 11 then (if ok = 0 then rF 3 k else onU 11 1 (low.1 (k + 1)))
  else if tk k = 9 then (if ok = 0 then rF 3 k else ovR low (expc tk 10 (low.1 (k + 1))))
  else if tk k = 12 then (if ok = 0 then rF 3 k else ifT tk low (expc tk 13 (low.2.2.2 (k + 1))))
  else if nmI (tk k) < 0 then rF 1 k
  else @ite _ (isOfP (nmI (tk k)) so) (Classical.propDecidable _) (0, k + 1, vM (tk k) 0, 0) (rF 5 k)
def cmR (tk : Nat → Int) (sum : Nat → rE) (r : rE) : rE := if r.1 = 0 then (if cpI (tk r.2.1) < 0 then rF 1 r.2.1 else if (sum (r.2.1 + 1)).1 = 0 then (0, (sum (r.2.1 + 1)).2.1, vJ (tk r.2.1) r.2.2.1 (sum (r.2.1 + 1)).2.2.1, max r.2.2.2 (sum (r.2.1 + 1)).2.2.2) else sum (r.2.1 + 1)) else r
def akB (tk : Nat → Int) (ok : Int) (low : lQ) (sum : Nat → rE) (k : Nat) : rE := if tk k = 18 then (if ok = 0 then rF 3 k else onU 18 0 (low.2.2.1 (k + 1))) else cmR tk sum (sum k)
def smB (tk : Nat → Int) (one : Nat → rE) : Nat → rE := ch (ch one tk 31 32) tk 29 30
def eiB (tk : Nat → Int) (ask : Nat → rE) : Nat → rE := ch (ch ask tk 17 17) tk 16 16
noncomputable def mkQ (tk nu : Nat → Int) (so ok : Int) (low : lQ) : lQ := (onB tk nu so ok low, smB tk (onB tk nu so ok low), akB tk ok low (smB tk (onB tk nu so ok low)), eiB tk (akB tk ok low (smB tk (onB tk nu so ok low))))
/-- with v more that may be opened -/
noncomputable def lev (tk nu : Nat → Int) (so : Int) : Nat → lQ
  | 0 => mkQ tk nu so 0 (rF 1, rF 1, rF 1, rF 1)
  | v + 1 => mkQ tk nu so 1 (lev tk nu so v)
/-- a sum takes a token at least; its values are within bounds -/
def okE (k : Nat) (r : rE) : Prop := (k ≤ r.2.1 ∧ (r.1 = 0 → k < r.2.1)) ∧ (0 ≤ r.1 ∧ r.1 ≤ 5) ∧ (0 ≤ r.2.2.2 ∧ r.2.2.2 ≤ 1) ∧ ∀ A h, mil (r.2.2.1 A h)
theorem mil_clip (x : Int) : mil (mClip x) := mClip_ran x
theorem mil_0 : mil 0 := ⟨by decide, by decide⟩
theorem okE_F {c : Int} (hc : 0 < c ∧ c ≤ 5) (k : Nat) : okE k (rF c k) := ⟨⟨Nat.le_refl _, fun h => absurd h (by show ¬ c = 0; omega)⟩, ⟨by show 0 ≤ c; omega, hc.2⟩, ⟨by show (0 : Int) ≤ 0; omega, by show (0 : Int) ≤ 1; omega⟩, fun _ _ => mil_0⟩
theorem okE_m {k j : Nat} {r : rE} (h : okE j r) (hk : k ≤ j) : okE k r := ⟨⟨by have := h.1.1; omega, fun e => by have := h.1.2 e; omega⟩, h.2⟩
theorem okE_chL {p : Nat → rE} {tk : Nat → Int} {a b : Int} (hp : ∀ k, okE k (p k)) : ∀ m k r, okE k r → okE k (chL p tk a b m r) := by
  intro m
  induction m with
  | zero => intro k r h; exact h
  | succ m ih =>
    intro k r h
    rw [chL]
    split
    · have q := hp (r.2.1 + 1)
      have h1 := h.1.1
      split
      · rename_i e
        have q1 := q.1.2 e
        refine ih k _ ⟨⟨by show k ≤ (p (r.2.1 + 1)).2.1; omega, fun _ => by show k < (p (r.2.1 + 1)).2.1; omega⟩, ⟨by show (0 : Int) ≤ 0; omega, by show (0 : Int) ≤ 5; omega⟩, ?_, fun A h => mil_clip _⟩
        have := h.2.2.1
        have := q.2.2.1
        show 0 ≤ max r.2.2.2 (p (r.2.1 + 1)).2.2.2 ∧ max r.2.2.2 (p (r.2.1 + 1)).2.2.2 ≤ 1
        omega
      · exact okE_m q (by omega)
    · exact h
theorem okE_ch {p : Nat → rE} {tk : Nat → Int} {a b : Int} (hp : ∀ k, okE k (p k)) (k : Nat) : okE k (ch p tk a b k) := by
  unfold ch
  split
  · exact okE_chL hp 300 k _ (hp k)
  · exact hp k
theorem okE_exp {tk : Nat → Int} {t : Int} {k : Nat} {r : rE} (h : okE k r) : okE k (expc tk t r) := by
  unfold expc
  split
  · have h1 := h.1.1
    split
    · exact ⟨⟨by show k ≤ r.2.1 + 1; omega, fun _ => by show k < r.2.1 + 1; omega⟩, ⟨by show (0 : Int) ≤ 0; omega, by show (0 : Int) ≤ 5; omega⟩, h.2.2⟩
    · exact okE_m (okE_F ⟨by decide, by decide⟩ _) h1
  · exact h
theorem okE_U {op far : Int} (hf : 0 ≤ far ∧ far ≤ 1) {k : Nat} {r : rE} (h : okE k r) : okE k (onU op far r) := by
  unfold onU
  split
  · rename_i e
    refine ⟨⟨h.1.1, fun _ => h.1.2 e⟩, ⟨by show (0 : Int) ≤ 0; omega, by show (0 : Int) ≤ 5; omega⟩, ?_, fun A h => mil_clip _⟩
    have := h.2.2.1
    show 0 ≤ max far r.2.2.2 ∧ max far r.2.2.2 ≤ 1
    omega
  · exact h
def okL (l : lQ) : Prop := (∀ k, okE k (l.1 k)) ∧ (∀ k, okE k (l.2.1 k)) ∧ (∀ k, okE k (l.2.2.1 k)) ∧ ∀ k, okE k (l.2.2.2 k)
theorem okE_on {tk nu : Nat → Int} {so ok : Int} {low : lQ} (hl : okL low) (k : Nat) : okE k (onB tk nu so ok low k) := by
  have F := fun (c : Int) (hc : 0 < c ∧ c ≤ 5) => okE_F hc k
  have z : ∀ f : vF, (∀ A h, mil (f A h)) → okE k (0, k + 1, f, 0) := fun f hf => ⟨⟨by show k ≤ k + 1; omega, fun _ => by show k < k + 1; omega⟩, ⟨by show (0 : Int) ≤ 0; omega, by show (0 : Int) ≤ 5; omega⟩, ⟨by show (0 : Int) ≤ 0; omega, by show (0 : Int) ≤ 1; omega⟩, hf⟩
  unfold onB
  split
  · split
    · exact F 2 (by omega)
    · exact z _ (fun _ _ => mil_clip _)
  split
  · split
    · exact F 3 (by omega)
    · exact okE_exp (okE_m (hl.2.1 (k + 1)) (by omega))
  split
  · split
    · exact F 3 (by omega)
    · exact okE_U (by omega) (okE_m (hl.1 (k + 1)) (by omega))
  split
  · split
    · exact F 3 (by omega)
    · exact okE_U (by omega) (okE_m (hl.1 (k + 1)) (by omega))
  split
  · split
    · exact F 3 (by omega)
    · have q := okE_exp (tk := tk) (t := 10) (okE_m (hl.1 (k + 1)) (show k ≤ k + 1 by omega))
      unfold ovR
      split
      · have h1 := q.1.1
        have q2 := hl.1 (expc tk 10 (low.1 (k + 1))).2.1
        split
        · rename_i e
          have q3 := q2.1.2 e
          refine ⟨⟨by show k ≤ (low.1 (expc tk 10 (low.1 (k + 1))).2.1).2.1; omega, fun _ => by show k < (low.1 (expc tk 10 (low.1 (k + 1))).2.1).2.1; omega⟩, ⟨by show (0 : Int) ≤ 0; omega, by show (0 : Int) ≤ 5; omega⟩, ?_, fun A h => mil_clip _⟩
          have a1 := q.2.2.1
          have a2 := q2.2.2.1
          show 0 ≤ max (expc tk 10 (low.1 (k + 1))).2.2.2 (low.1 (expc tk 10 (low.1 (k + 1))).2.1).2.2.2 ∧ max (expc tk 10 (low.1 (k + 1))).2.2.2 (low.1 (expc tk 10 (low.1 (k + 1))).2.1).2.2.2 ≤ 1
          omega
        · exact okE_m q2 h1
      · exact q
  split
  · split
    · exact F 3 (by omega)
    · have q := okE_exp (tk := tk) (t := 13) (okE_m (hl.2.2.2 (k + 1)) (show k ≤ k + 1 by omega))
      generalize expc tk 13 (low.2.2.2 (k + 1)) = c at *
      unfold ifT
      split
      · have h1 := q.1.1
        have q2 := okE_exp (tk := tk) (t := 14) (hl.2.1 c.2.1)
        generalize expc tk 14 (low.2.1 c.2.1) = f at *
        unfold ifE
        split
        · have h2 := q2.1.1
          have q3 := okE_exp (tk := tk) (t := 15) (hl.2.1 f.2.1)
          generalize expc tk 15 (low.2.1 f.2.1) = g at *
          split
          · rename_i e
            have q4 := q3.1.2 e
            refine ⟨⟨by show k ≤ g.2.1; omega, fun _ => by show k < g.2.1; omega⟩, ⟨by show (0 : Int) ≤ 0; omega, by show (0 : Int) ≤ 5; omega⟩, ?_, fun A h => ?_⟩
            · have a1 := q.2.2.1
              have a2 := q2.2.2.1
              have a3 := q3.2.2.1
              show 0 ≤ max c.2.2.2 (max f.2.2.2 g.2.2.2) ∧ max c.2.2.2 (max f.2.2.2 g.2.2.2) ≤ 1
              omega
            · show mil (if c.2.2.1 A h = 0 then g.2.2.1 A h else f.2.2.1 A h)
              split
              · exact q3.2.2.2 A h
              · exact q2.2.2.2 A h
          · exact okE_m q3 (by omega)
        · exact okE_m q2 h1
      · exact q
  split
  · exact F 1 (by omega)
  · split
    · exact z _ (fun _ _ => mil_clip _)
    · exact F 5 (by omega)
theorem okE_cm {tk : Nat → Int} {sum : Nat → rE} (hs : ∀ k, okE k (sum k)) {k : Nat} {r : rE} (h : okE k r) : okE k (cmR tk sum r) := by
  unfold cmR
  split
  · have h1 := h.1.1
    split
    · exact okE_m (okE_F ⟨by decide, by decide⟩ _) h1
    · have q := hs (r.2.1 + 1)
      split
      · rename_i e
        have q1 := q.1.2 e
        refine ⟨⟨by show k ≤ (sum (r.2.1 + 1)).2.1; omega, fun _ => by show k < (sum (r.2.1 + 1)).2.1; omega⟩, ⟨by show (0 : Int) ≤ 0; omega, by show (0 : Int) ≤ 5; omega⟩, ?_, fun A h => mil_clip _⟩
        have a1 := h.2.2.1
        have a2 := q.2.2.1
        show 0 ≤ max r.2.2.2 (sum (r.2.1 + 1)).2.2.2 ∧ max r.2.2.2 (sum (r.2.1 + 1)).2.2.2 ≤ 1
        omega
      · exact okE_m q (by omega)
  · exact h
theorem okL_mk {tk nu : Nat → Int} {so ok : Int} {low : lQ} (hl : okL low) : okL (mkQ tk nu so ok low) := by
  have o := okE_on (tk := tk) (nu := nu) (so := so) (ok := ok) hl
  have s : ∀ k, okE k (smB tk (onB tk nu so ok low) k) := okE_ch (okE_ch o)
  have a : ∀ k, okE k (akB tk ok low (smB tk (onB tk nu so ok low)) k) := fun k => by
    unfold akB
    split
    · split
      · exact okE_F ⟨by decide, by decide⟩ _
      · exact okE_U (by omega) (okE_m (hl.2.2.1 (k + 1)) (by omega))
    · exact okE_cm s (s k)
  exact ⟨o, s, a, okE_ch (okE_ch a)⟩
theorem okL_lev (tk nu : Nat → Int) (so : Int) : ∀ v, okL (lev tk nu so v) := by
  intro v
  induction v with
  | zero => exact okL_mk ⟨fun k => okE_F ⟨by decide, by decide⟩ k, fun k => okE_F ⟨by decide, by decide⟩ k, fun k => okE_F ⟨by decide, by decide⟩ k, fun k => okE_F ⟨by decide, by decide⟩ k⟩
  | succ v ih => exact okL_mk ih
