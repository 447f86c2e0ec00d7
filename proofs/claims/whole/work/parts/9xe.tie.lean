/-! ===== the model's text says the same ===== -/
/-- no law twice; each clause good -/
def uqC (tk nu : Nat → Int) : List Nat → Prop
  | [] => True
  | k :: cs => ((0 ≤ tk k ∧ tk k ≤ 7) ∧ (tk k ≤ 1 → lwK tk (tk k) cs = 0) ∧ (boE tk nu (tk k) (k + 1)).1 = 0) ∧ uqC tk nu cs
theorem one_uq {tk nu : Nat → Int} {k : Nat} {cs : List Nat} (h : (oneE tk nu k cs).1 = 0) : tk k ≤ 7 ∧ (tk k ≤ 1 → lwK tk (tk k) cs = 0) ∧ (boE tk nu (tk k) (k + 1)).1 = 0 := by
  unfold oneE at h
  by_cases q : 7 < tk k
  · rw [if_pos q] at h; exact absurd h (show ¬ (1 : Int) = 0 by decide)
  rw [if_neg q] at h
  by_cases q2 : tk k ≤ 1 ∧ lwK tk (tk k) cs ≠ 0
  · rw [if_pos q2] at h; exact absurd h (show ¬ (4 : Int) = 0 by decide)
  rw [if_neg q2] at h
  by_cases q3 : 24 ≤ cs.length
  · rw [if_pos q3] at h; exact absurd h (show ¬ (6 : Int) = 0 by decide)
  rw [if_neg q3] at h
  refine ⟨by omega, fun z => Classical.not_not.1 (fun y => q2 ⟨z, y⟩), ?_⟩
  unfold clE xpE at h
  by_cases q4 : (boE tk nu (tk k) (k + 1)).1 = 0
  · exact q4
  · rw [if_neg q4] at h; exact absurd h q4
theorem tx_uq {tk nu : Nat → Int} (h0 : ∀ k, 0 ≤ tk k) : ∀ (f k : Nat) (cs : List Nat), uqC tk nu cs → uqC tk nu (txE tk nu f k cs).2.2 := by
  intro f
  induction f with
  | zero => intro k cs h; exact h
  | succ f ih =>
    intro k cs h
    rw [txE]
    by_cases q : tk k = 39
    · rw [if_pos q]; exact h
    rw [if_neg q]
    by_cases q2 : (oneE tk nu k cs).1 = 0
    · rw [if_pos q2]
      have o := one_uq q2
      exact ih _ _ ⟨⟨⟨h0 k, o.1⟩, o.2⟩, h⟩
    · rw [if_neg q2]; exact h
/-- the value of clause i -/
noncomputable def vlK (tk nu : Nat → Int) (A : Nat → Int) (h : Nat) : List Nat → Nat → Int
  | [], _ => 0
  | k :: cs, i => if i = cs.length then (lwE tk nu (tk k) (k + 1)).2.2.1 A h else vlK tk nu A h cs i
theorem say_no {T : Nat → Int} {tx : Nat} {s wo : Int} {val : Nat → Int} : ∀ (f k : Nat), (∀ i, k ≤ i → i < k + f → T (681 * tx + 1 + 3 * i) ≠ s) → mSayF T tx s wo val f k = wo := by
  intro f
  induction f with
  | zero => intro k _; rfl
  | succ f ih => intro k h; rw [mSayF, if_neg (h k (by omega) (by omega))]; exact ih (k + 1) (fun i a b => h i (by omega) (by omega))
theorem say_at {T : Nat → Int} {tx : Nat} {s wo : Int} {val : Nat → Int} {i0 : Nat} (he : T (681 * tx + 1 + 3 * i0) = s) : ∀ (f k : Nat), k ≤ i0 → i0 < k + f → (∀ i, k ≤ i → i < i0 → T (681 * tx + 1 + 3 * i) ≠ s) → mSayF T tx s wo val f k = mCut (val i0) := by
  intro f
  induction f with
  | zero => intro k a b; omega
  | succ f ih =>
    intro k a b h
    rw [mSayF]
    by_cases q : k = i0
    · rw [if_pos (by rw [q]; exact he), q]
    · rw [if_neg (h k (by omega) (by omega))]
      exact ih (k + 1) (by omega) (by omega) (fun i c d => h i (by omega) d)
theorem cls_no {tk nu T : Nat → Int} {D : List (Int × Int)} {tx : Nat} {s : Int} : ∀ {cs : List Nat}, clsM tk nu T D tx cs → lwK tk s cs = 0 → ∀ i, i < cs.length → T (681 * tx + 1 + 3 * i) ≠ s := by
  intro cs
  induction cs with
  | nil => intro _ _ i hi; exact absurd hi (by show ¬ i < 0; omega)
  | cons k cs ih =>
    intro h h0 i hi
    rw [List.length_cons] at hi
    rw [lwK] at h0
    by_cases q : tk k = s
    · rw [if_pos q] at h0; omega
    · rw [if_neg q] at h0
      by_cases e : i = cs.length
      · rw [e, h.1.1]; exact q
      · exact ih h.2 h0 i (by omega)
theorem cls_at {tk nu T : Nat → Int} {D : List (Int × Int)} {tx : Nat} {s : Int} (hs : s ≤ 1) (A : Nat → Int) (h : Nat) : ∀ {cs : List Nat}, clsM tk nu T D tx cs → uqC tk nu cs → lwK tk s cs ≠ 0 → ∃ i0, i0 < cs.length ∧ T (681 * tx + 1 + 3 * i0) = s ∧ vlK tk nu A h cs i0 = (lwE tk nu s (lwK tk s cs)).2.2.1 A h ∧ ∀ i, i < cs.length → i ≠ i0 → T (681 * tx + 1 + 3 * i) ≠ s := by
  intro cs
  induction cs with
  | nil => intro _ _ z; exact absurd rfl z
  | cons k cs ih =>
    intro hc hu hz
    rw [lwK] at hz ⊢
    by_cases q : tk k = s
    · rw [if_pos q]
      refine ⟨cs.length, by rw [List.length_cons]; omega, by rw [hc.1.1]; exact q, ?_, fun i a b => ?_⟩
      · rw [vlK, if_pos rfl, q]
      · rw [List.length_cons] at a
        have u := hu.1.2.1 (by omega)
        rw [q] at u
        exact cls_no hc.2 u i (by omega)
    · rw [if_neg q] at hz ⊢
      obtain ⟨i0, b1, b2, b3, b4⟩ := ih hc.2 hu.2 hz
      refine ⟨i0, by rw [List.length_cons]; omega, b2, ?_, fun i a b => ?_⟩
      · rw [vlK, if_neg (by omega)]; exact b3
      · rw [List.length_cons] at a
        by_cases e : i = cs.length
        · rw [e, hc.1.1]; exact q
        · exact b4 i (by omega) b
theorem cls_ok {tk nu T : Nat → Int} {D : List (Int × Int)} {tx : Nat} (htx : tx < 4) (hD : dR T (681 * tx + 73) D) (hDl : D.length ≤ 300) {A nm : Nat → Int} {h : Nat} (hA : nmOK A nm h) {s : Int} (hs : s ≤ 1) : ∀ {cs : List Nat}, clsM tk nu T D tx cs → ∀ i, i < cs.length → T (681 * tx + 1 + 3 * i) = s → clOK A nm T tx i (vlK tk nu A h cs i) := by
  intro cs
  induction cs with
  | nil => intro _ i hi; exact absurd hi (by show ¬ i < 0; omega)
  | cons k cs ih =>
    intro hc i hi e
    rw [List.length_cons] at hi
    by_cases q : i = cs.length
    · obtain ⟨c1, c2, c3, c4⟩ := hc.1
      rw [q] at e ⊢
      rw [c1] at e
      obtain ⟨i0, je, d1, d2, d3⟩ := c4 (by omega)
      have dl := lwM_len d3
      obtain ⟨G, E, D0, g1, g2, g3, g4⟩ := d3
      have pv := g4.2 A nm h hA
      rw [vlK, if_pos rfl]
      refine ⟨i0, je, d1, d2, dl.1, by omega, pv.1, fun J R => ?_⟩
      rw [g1] at hD
      have dr := dR_run (A := A) (nm := nm) (dR_tl hD) (J, R, 0, 0)
      have gl : E.length ≤ 300 := by omega
      have p2 := pv.2 (J, R, 0, 0) ⟨by show 0 + E.length ≤ 330; omega, by show 0 + E.length ≤ 330; omega⟩
      rw [show je - i0 = E.length by omega, ← g2, dr.1]
      exact ⟨dr.2 p2.1, p2.2.2.1⟩
    · rw [vlK, if_neg q]
      exact ih hc.2 i (by omega) e
/-- what the model's row says of slot tx -/
theorem say_tx {tk nu T : Nat → Int} {D : List (Int × Int)} {tx : Nat} {cs : List Nat} (htx : tx < 4) (h0 : T (681 * tx) = ((cs.length : Nat) : Int)) (h24 : cs.length ≤ 24) (h73 : ∀ i, i < 73 → inR (T (681 * tx + i))) (hD : dR T (681 * tx + 73) D) (hDl : D.length ≤ 300) (hc : clsM tk nu T D tx cs) (hu : uqC tk nu cs) {A : Nat → Int} {h : Nat} (g : gd 100000 4 A) (hh : h < 8) : sayOK A T (tx : Int) 0 0 h (wT tk nu cs A h) ∧ sayOK A T (tx : Int) 1 (1 + A 7) h (vT tk nu cs A h) := by
  have main : ∀ s wo : Int, (s = 0 ∨ s = 1) → sayOK A T (tx : Int) s wo h (if lwK tk s cs = 0 then wo else mCut ((lwE tk nu s (lwK tk s cs)).2.2.1 A h)) := by
    intro s wo hs
    refine Or.inr ⟨tx, cs.length, vlK tk nu A h cs, rfl, htx, h0, h24, fun k hk => by rw [show 681 * tx + 1 + 3 * k = 681 * tx + (1 + 3 * k) by omega]; exact h73 _ (by omega), fun nm hn k hk e => cls_ok htx hD hDl ⟨g, hh, hn⟩ (by omega) hc k hk e, ?_⟩
    by_cases q : lwK tk s cs = 0
    · rw [if_pos q, say_no _ _ (fun i a b => cls_no hc q i (by omega))]
    · obtain ⟨i0, b1, b2, b3, b4⟩ := cls_at (by omega) A h hc hu q
      rw [if_neg q, say_at b2 _ _ (by omega) (by omega) (fun i a b => b4 i (by omega) (by omega)), b3]
  exact ⟨main 0 0 (Or.inl rfl), main 1 (1 + A 7) (Or.inr rfl)⟩
/-- a good clause of the tokens, as numbers -/
theorem clV_of {tk nu : Nat → Int} {k : Nat} {v w : Int} (h : (0 ≤ tk k ∧ tk k ≤ 7) ∧ (boE tk nu (tk k) (k + 1)).1 = 0) (hv : inR v) (hw : inR w) (h1 : 2 ≤ tk k → tk k ≠ 6 → v = nu (k + 1)) (h2 : tk k = 3 ∨ tk k = 4 → w = nu (k + 3)) : clV (tk k) v w := by
  obtain ⟨hr, hb⟩ := h
  have ah : ∀ lo hi, (ahE tk nu lo hi (k + 1)).1 = 0 → (lo ≤ nu (k + 1) ∧ nu (k + 1) ≤ hi) ∧ 0 ≤ nu (k + 3) ∧ nu (k + 3) ≤ 7 := by
    intro lo hi z
    by_cases f : (fgE tk nu lo hi (k + 1)).1 = 0
    · by_cases t : tk (k + 1 + 1) = 8
      · rw [ah_c f t] at z
        exact ⟨fg_in f, fg_in z⟩
      · rw [ah_b f t] at z
        exact absurd z (show ¬ (1 : Int) = 0 by decide)
    · rw [ah_a f] at z
      exact absurd z f
  refine ⟨hr, ⟨hv, hw⟩, fun e => ?_, fun e => ?_, fun e => ?_, fun e => ?_, fun e => ?_⟩
  · rw [h1 (by omega) (by omega)]
    unfold boE at hb
    rw [if_pos e] at hb
    exact fg_in hb
  · rw [h1 (by omega) (by omega), h2 (Or.inl e)]
    unfold boE at hb
    rw [if_neg (by omega), if_pos e] at hb
    exact ah _ _ hb
  · rw [h1 (by omega) (by omega), h2 (Or.inr e)]
    unfold boE at hb
    rw [if_neg (by omega), if_neg (by omega), if_pos e] at hb
    exact ah _ _ hb
  · rw [h1 (by omega) (by omega)]
    unfold boE at hb
    rw [if_neg (by omega), if_neg (by omega), if_neg (by omega), if_pos e] at hb
    exact fg_in hb
  · rw [h1 (by omega) (by omega)]
    unfold boE at hb
    rw [if_neg (by omega), if_neg (by omega), if_neg (by omega), if_neg (by omega), if_neg (by omega), if_pos e] at hb
    exact fg_in hb
theorem mAct_eq {s v w v' w' : Int} (h1 : 2 ≤ s → s ≠ 6 → v' = v) (h2 : s = 3 ∨ s = 4 → w' = w) (W V : wF) (A F : Nat → Int) : mAct W V s v' w' A F = mAct W V s v w A F := by
  unfold mAct
  by_cases e2 : s = 2
  · rw [if_pos e2, if_pos e2, h1 (by omega) (by omega)]
  rw [if_neg e2, if_neg e2]
  by_cases e3 : s = 3
  · rw [if_pos e3, if_pos e3, h1 (by omega) (by omega), h2 (by omega)]
  rw [if_neg e3, if_neg e3]
  by_cases e4 : s = 4
  · rw [if_pos e4, if_pos e4, h1 (by omega) (by omega), h2 (by omega)]
  rw [if_neg e4, if_neg e4]
  by_cases e5 : s = 5
  · rw [if_pos e5, if_pos e5, h1 (by omega) (by omega)]
  rw [if_neg e5, if_neg e5]
  by_cases e6 : s = 6
  · rw [if_pos e6, if_pos e6]
  rw [if_neg e6, if_neg e6]
  by_cases e7 : s = 7
  · rw [if_pos e7, if_pos e7, h1 (by omega) (by omega)]
  rw [if_neg e7, if_neg e7]
/-- class and model have the same clauses -/
theorem sc_cls {tk nu T R2 R3 R4 : Nat → Int} {D : List (Int × Int)} {tx : Nat} (h73 : ∀ i, i < 73 → inR (T (681 * tx + i))) : ∀ {cs : List Nat}, cs.length ≤ 24 → clsM tk nu T D tx cs → clsC tk nu R2 R3 R4 cs → uqC tk nu cs → ∀ k, k < cs.length → clV (T (681 * tx + 1 + 3 * k)) (T (681 * tx + 1 + 3 * k + 1)) (T (681 * tx + 1 + 3 * k + 2)) ∧ R2 k = T (681 * tx + 1 + 3 * k) ∧ clV (T (681 * tx + 1 + 3 * k)) (R3 k) (R4 k) ∧ ∀ W V A F, mAct W V (T (681 * tx + 1 + 3 * k)) (R3 k) (R4 k) A F = mAct W V (T (681 * tx + 1 + 3 * k)) (T (681 * tx + 1 + 3 * k + 1)) (T (681 * tx + 1 + 3 * k + 2)) A F := by
  intro cs
  induction cs with
  | nil => intro _ _ _ _ k hk; exact absurd hk (by show ¬ k < 0; omega)
  | cons c cs ih =>
    intro h24 hM hC hu k hk
    rw [List.length_cons] at h24 hk
    by_cases q : k = cs.length
    · obtain ⟨m1, m2, m3, -⟩ := hM.1
      obtain ⟨c1, c2, c3, c4, c5⟩ := hC.1
      have i1 : inR (T (681 * tx + 1 + 3 * cs.length + 1)) := by rw [show 681 * tx + 1 + 3 * cs.length + 1 = 681 * tx + (2 + 3 * cs.length) by omega]; exact h73 _ (by omega)
      have i2 : inR (T (681 * tx + 1 + 3 * cs.length + 2)) := by rw [show 681 * tx + 1 + 3 * cs.length + 2 = 681 * tx + (3 + 3 * cs.length) by omega]; exact h73 _ (by omega)
      have hg : (0 ≤ tk c ∧ tk c ≤ 7) ∧ (boE tk nu (tk c) (c + 1)).1 = 0 := ⟨hu.1.1, hu.1.2.2⟩
      rw [q, m1]
      exact ⟨clV_of hg i1 i2 m2 m3, c1, clV_of hg c4 c5 c2 c3, mAct_eq (fun a b => by rw [m2 a b, c2 a b]) (fun a => by rw [m3 a, c3 a])⟩
    · exact ih (by omega) hM.2 hC.2 hu.2 k (by omega)
theorem scN_tx {σ : gS} {T tk nu : Nat → Int} {x tx : Nat} {cs : List Nat} {D : List (Int × Int)} (hx : kd x = 4) (hF : txF σ x tk nu cs) (h0 : T (681 * tx) = ((cs.length : Nat) : Int)) (h73 : ∀ i, i < 73 → inR (T (681 * tx + i))) (hc : clsM tk nu T D tx cs) (hu : uqC tk nu cs) : scN σ T x tx cs.length :=
  ⟨hx, hF.2.1, h0, hF.1, sc_cls h73 hF.2.1 hc hF.2.2.1 hu⟩
