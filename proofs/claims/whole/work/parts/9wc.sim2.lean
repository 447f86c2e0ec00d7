/-! ===== the model's reader keeps to the levels ===== -/
/-- from beg the reader comes by r to fin: at a fault beg ends so; else a piece E more -/
def zR (n k : Nat) (pc : List (Int × Int) → vF → Prop) (ex : Nat → Prop) (beg : rR → Prop) (fin : rR → Nat → List (Int × Int) → Prop) (D : List (Int × Int)) (r : rE) : Prop :=
  r.2.1 ≤ n ∧ (r.1 ≠ 0 → beg (r.1, r.2.1, [])) ∧ (r.1 = 0 → k < r.2.1 ∧ ex r.2.1 ∧ ∃ E, E.length + k ≤ r.2.1 ∧ pc E r.2.2.1 ∧ ∀ R, fin R r.2.1 (E ++ D) → beg R)
theorem zR_map {n k k' : Nat} {pc : List (Int × Int) → vF → Prop} {ex ex' : Nat → Prop} {beg beg' : rR → Prop} {fin fin' : rR → Nat → List (Int × Int) → Prop} {D : List (Int × Int)} {r : rE} (h : zR n k pc ex beg fin D r) (hk : k' ≤ k) (hb : ∀ R, beg R → beg' R) (he : ∀ j, ex j → ex' j) (hf : ∀ R j D', ex j → j ≤ n → D'.length + k ≤ j + D.length → fin' R j D' → fin R j D') : zR n k' pc ex' beg' fin' D r := by
  obtain ⟨h1, h2, h3⟩ := h
  refine ⟨h1, fun q => hb _ (h2 q), fun q => ?_⟩
  obtain ⟨a, b, E, c, d, e⟩ := h3 q
  exact ⟨by omega, he _ b, E, by omega, d, fun R g => hb R (e R (hf R _ _ b h1 (by rw [List.length_append]; omega) g))⟩
theorem zR_F {n k j : Nat} {pc : List (Int × Int) → vF → Prop} {ex : Nat → Prop} {beg : rR → Prop} {fin : rR → Nat → List (Int × Int) → Prop} {D : List (Int × Int)} {c : Int} (hj : j ≤ n) (hc : c ≠ 0) (h : beg (c, j, [])) : zR n k pc ex beg fin D (rF c j) := ⟨hj, fun _ => h, fun q => absurd q hc⟩
theorem zR_exp {n k k' : Nat} {tk : Nat → Int} {t : Int} {pc : List (Int × Int) → vF → Prop} {ex : Nat → Prop} {beg : rR → Prop} {fin fin' : rR → Nat → List (Int × Int) → Prop} {D : List (Int × Int)} {r : rE} (h : zR n k pc ex beg fin D r) (hk : k' ≤ k) (h39 : tk n = 39) (ht : t ≠ 39) (hy : ∀ R j D', ex j → j < n → D'.length + k ≤ j + D.length → tk j = t → fin' R (j + 1) D' → fin R j D') (hno : ∀ j D', ex j → j ≤ n → D'.length + k ≤ j + D.length → tk j ≠ t → fin (1, j, []) j D') : zR n k' pc (fun _ => True) beg fin' D (expc tk t r) := by
  obtain ⟨h1, h2, h3⟩ := h
  unfold expc
  by_cases q : r.1 = 0
  · rw [if_pos q]
    obtain ⟨a, b, E, c, d, e⟩ := h3 q
    clear h3
    have hl : (E ++ D).length + k ≤ r.2.1 + D.length := by rw [List.length_append]; omega
    by_cases qt : tk r.2.1 = t
    · rw [if_pos qt]
      have hlt : r.2.1 < n := by
        rcases Nat.lt_or_ge r.2.1 n with z | z
        · exact z
        · rw [show r.2.1 = n by omega, h39] at qt
          exact absurd qt.symm ht
      exact ⟨hlt, fun z => absurd rfl z, fun _ => ⟨by show k' < r.2.1 + 1; omega, trivial, E, by show E.length + k' ≤ r.2.1 + 1; omega, d, fun R g => e R (hy R _ _ b hlt hl qt g)⟩⟩
    · rw [if_neg qt]
      exact zR_F h1 (by decide) (e _ (hno _ _ b h1 hl qt))
  · rw [if_neg q]
    exact ⟨h1, h2, fun z => absurd z q⟩
theorem zR_un {n k : Nat} {x op far : Int} {pc pc' : List (Int × Int) → vF → Prop} {ex : Nat → Prop} {beg : rR → Prop} {fin fin' : rR → Nat → List (Int × Int) → Prop} {D : List (Int × Int)} {r : rE} (h : zR n (k + 1) pc ex beg fin D r) (hp : ∀ E f, pc E f → pc' ((x, 0) :: E) (vN op f)) (hf : ∀ R j D', fin' R j ((x, 0) :: D') → fin R j D') : zR n k pc' ex beg fin' D (onU op far r) := by
  obtain ⟨h1, h2, h3⟩ := h
  unfold onU
  by_cases q : r.1 = 0
  · rw [if_pos q]
    obtain ⟨a, b, E, c, d, e⟩ := h3 q
    clear h3
    exact ⟨h1, fun z => absurd rfl z, fun _ => ⟨by show k < r.2.1; omega, b, (x, 0) :: E, by show E.length + 1 + k ≤ r.2.1; omega, hp E _ d, fun R g => e R (hf R _ _ g)⟩⟩
  · rw [if_neg q]
    exact ⟨h1, h2, fun z => absurd z q⟩
theorem zR_chL {n k c : Nat} {tk : Nat → Int} {p : Nat → rE} {a b : Int} {x : Int → Int} {pc : List (Int × Int) → vF → Prop} {ex : Nat → Prop} {beg : rR → Prop} {fin : rR → Nat → List (Int × Int) → Prop} {D : List (Int × Int)} (h39 : tk n = 39) (ha : a ≠ 39) (hb : b ≠ 39) (hc : c + D.length + (n - k) ≤ 300) (hs : ∀ j D1, j < n → ex j → (tk j = a ∨ tk j = b) → c + D1.length + (n - j) ≤ 300 → zR n (j + 1) pc ex (fun R => fin R j D1) (fun R j' D2 => fin R j' ((x (tk j), 0) :: D2)) D1 (p (j + 1))) (hj : ∀ t E f G g, (t = a ∨ t = b) → pc E f → pc G g → pc ((x t, 0) :: (G ++ E)) (vJ t f g)) : ∀ (m : Nat) (r : rE), n < r.2.1 + m → zR n k pc ex beg fin D r → r.1 = 0 → zR n k pc (fun j => ex j ∧ tk j ≠ a ∧ tk j ≠ b) beg fin D (chL p tk a b m r) := by
  intro m
  induction m with
  | zero => intro r hm h _; have := h.1; omega
  | succ m ih =>
    intro r hm h hr
    obtain ⟨h1, h2, h3⟩ := h
    obtain ⟨q1, q2, E, q3, q4, q5⟩ := h3 hr
    clear h3
    rw [chL]
    by_cases t : tk r.2.1 = a ∨ tk r.2.1 = b
    · rw [if_pos t]
      have hlt : r.2.1 < n := by
        rcases Nat.lt_or_ge r.2.1 n with z | z
        · exact z
        · exfalso
          rw [show r.2.1 = n by omega, h39] at t
          rcases t with t | t
          · exact ha t.symm
          · exact hb t.symm
      obtain ⟨s1, s2, s3⟩ := hs r.2.1 (E ++ D) hlt q2 t (by rw [List.length_append]; omega)
      by_cases z : (p (r.2.1 + 1)).1 = 0
      · rw [if_pos z]
        obtain ⟨w1, w2, G, w3, w4, w5⟩ := s3 z
        clear s3
        refine ih _ (by show n < (p (r.2.1 + 1)).2.1 + m; omega) ⟨s1, fun z => absurd rfl z, fun _ => ⟨by show k < (p (r.2.1 + 1)).2.1; omega, w2, (x (tk r.2.1), 0) :: (G ++ E), ?_, hj _ _ _ _ _ t q4 w4, fun R g => q5 R (w5 R ?_)⟩⟩ rfl
        · show (G ++ E).length + 1 + k ≤ (p (r.2.1 + 1)).2.1
          rw [List.length_append]
          omega
        · rw [← List.append_assoc]
          exact g
      · rw [if_neg z]
        exact ⟨s1, fun _ => q5 _ (s2 z), fun y => absurd y z⟩
    · rw [if_neg t]
      exact ⟨h1, h2, fun _ => ⟨q1, ⟨q2, fun z => t (Or.inl z), fun z => t (Or.inr z)⟩, E, q3, q4, q5⟩⟩
theorem zR_ch {n k c : Nat} {tk : Nat → Int} {p : Nat → rE} {a b : Int} {x : Int → Int} {pc : List (Int × Int) → vF → Prop} {ex : Nat → Prop} {beg : rR → Prop} {fin : rR → Nat → List (Int × Int) → Prop} {D : List (Int × Int)} (hn : n ≤ 300) (h39 : tk n = 39) (ha : a ≠ 39) (hb : b ≠ 39) (hc : c + D.length + (n - k) ≤ 300) (hs : ∀ j D1, j < n → ex j → (tk j = a ∨ tk j = b) → c + D1.length + (n - j) ≤ 300 → zR n (j + 1) pc ex (fun R => fin R j D1) (fun R j' D2 => fin R j' ((x (tk j), 0) :: D2)) D1 (p (j + 1))) (hj : ∀ t E f G g, (t = a ∨ t = b) → pc E f → pc G g → pc ((x t, 0) :: (G ++ E)) (vJ t f g)) (h : zR n k pc ex beg fin D (p k)) : zR n k pc (fun j => ex j ∧ tk j ≠ a ∧ tk j ≠ b) beg fin D (ch p tk a b k) := by
  unfold ch
  by_cases q : (p k).1 = 0
  · rw [if_pos q]
    exact zR_chL h39 ha hb hc hs hj 300 (p k) (by have := (h.2.2 q).1; omega) h q
  · rw [if_neg q]
    exact ⟨h.1, h.2.1, fun z => absurd z q⟩
def fitS (n k : Nat) (P : List Int) (D : List (Int × Int)) (m : Nat) : Prop := k ≤ n ∧ P.length + D.length + (n - k) ≤ 300 ∧ P.length ≤ m
section SIM2
variable {tk nu : Nat → Int} {so : Int} {n : Nat}
def zO (tk nu : Nat → Int) (so : Int) (n : Nat) (o : Int) (m : Nat) (one : Nat → rE) : Prop := ∀ k P D, fitS n k P D (m + 5) → (askA P → tk k ≠ 18) → zR n k mPv (fun _ => True) (fun R => gnR tk nu so R 0 (k, P, o, D)) (fun R j D' => eoR tk nu so R (j, P, o, D')) D (one k)
def zPr (tk nu : Nat → Int) (so : Int) (n : Nat) (o : Int) (m : Nat) (pro : Nat → rE) : Prop := ∀ k P D, fitS n k P D (m + 4) → (P = [] ∨ rkF (P.headD 0) ≤ 5) → P.headD 0 ≠ 41 → (askA P → tk k ≠ 18) → zR n k mPv (fun j => True ∧ tk j ≠ 31 ∧ tk j ≠ 32) (fun R => gnR tk nu so R 0 (k, P, o, D)) (fun R j D' => gnR tk nu so R 1 (j, P, o, D')) D (pro k)
def zS (tk nu : Nat → Int) (so : Int) (n : Nat) (o : Int) (m : Nat) (sum : Nat → rE) : Prop := ∀ k P D, fitS n k P D (m + 3) → (P = [] ∨ rkF (P.headD 0) ≤ 4) → P.headD 0 ≠ 41 → (askA P → tk k ≠ 18) → zR n k mPv (fun j => (True ∧ tk j ≠ 31 ∧ tk j ≠ 32) ∧ tk j ≠ 29 ∧ tk j ≠ 30) (fun R => gnR tk nu so R 0 (k, P, o, D)) (fun R j D' => gnR tk nu so R 1 (j, P, o, D')) D (sum k)
def zA (tk nu : Nat → Int) (so : Int) (n : Nat) (o : Int) (m : Nat) (ask : Nat → rE) : Prop := ∀ k P D, fitS n k P D (m + 2) → askA P → zR n k mPw (fun _ => True) (fun R => gnR tk nu so R 0 (k, P, o, D)) (fun R j D' => gAk tk nu so R j P o D') D (ask k)
def zBo (tk nu : Nat → Int) (so : Int) (n : Nat) (o : Int) (m : Nat) (both : Nat → rE) : Prop := ∀ k P D, fitS n k P D (m + 1) → askA P → rkF (P.headD 0) ≤ 1 → zR n k mPw (fun j => True ∧ tk j ≠ 17 ∧ tk j ≠ 17) (fun R => gnR tk nu so R 0 (k, P, o, D)) (fun R j D' => gAk tk nu so R j P o D') D (both k)
def zI (tk nu : Nat → Int) (so : Int) (n : Nat) (o : Int) (m : Nat) (either : Nat → rE) : Prop := ∀ k P D, fitS n k (42 :: P) D m → zR n k mPw (fun j => (True ∧ tk j ≠ 17 ∧ tk j ≠ 17) ∧ tk j ≠ 16 ∧ tk j ≠ 16) (fun R => gnR tk nu so R 0 (k, 42 :: P, o, D)) (fun R j D' => gAk tk nu so R j (42 :: P) o D') D (either k)
theorem fits_B {k : Nat} {P : List Int} {o : Int} {D : List (Int × Int)} {m : Nat} (h : fitS n k P D m) (hm : m ≤ 150) (ho : 0 ≤ o ∧ o ≤ 8) : inB (k, P, o, D) := by
  unfold fitS at h
  refine ⟨by show P.length ≤ 150; omega, by show P.length + D.length ≤ 300; omega, by show -300 ≤ o; omega, by show o ≤ 300; omega⟩
theorem bh_bt {k : Nat} {P : List Int} {o x : Int} {D : List (Int × Int)} {R : rR} (hb : btI (tk k) P = x) (hx : 0 ≤ x) (hr : P = [] ∨ rkF (P.headD 0) < (if rkF x = 4 then 5 else rkF x)) (hB : inB (k, P, o, D)) (hk : k ≤ 300) (h : gnR tk nu so R 0 (k + 1, x :: P, o, D)) : gnR tk nu so R 1 (k, P, o, D) := by
  refine gn_bh (q := (0, 0, (k + 1, x :: P, o, D))) hB hk ?_ (fun _ => Nat.lt_succ_self _) (Or.inr ⟨rfl, h⟩)
  unfold bhS
  show (if 0 ≤ btI (tk k) P then (0, 0, (k + 1, btI (tk k) P :: (sP (if rkF (btI (tk k) P) = 4 then 5 else rkF (btI (tk k) P)) P o D).1, (sP (if rkF (btI (tk k) P) = 4 then 5 else rkF (btI (tk k) P)) P o D).2)) else _) = _
  rw [hb, if_pos hx, sP_id hr]
theorem sim_pr {o : Int} {m : Nat} (ho : 0 ≤ o ∧ o ≤ 8) (hm : m ≤ 48) (hn : n ≤ 300) (h39 : tk n = 39) {one : Nat → rE} (h : zO tk nu so n o m one) : zPr tk nu so n o m (ch one tk 31 32) := by
  intro k P D hf hr h41 hask
  have hf0 := hf
  unfold fitS at hf
  refine zR_ch (c := P.length) (x := twI) hn h39 (by decide) (by decide) hf.2.1 (fun j D1 hj _ ht hl => ?_) (fun t E f G g ht a b => mPv_two (by omega) a b) (zR_map (h k P D ⟨hf.1, hf.2.1, by omega⟩ hask) (Nat.le_refl _) (fun _ g => g) (fun _ g => g) (fun R j D' _ _ _ g => eo_bh (by rcases hr with hr | hr; exact Or.inl hr; exact Or.inr (by omega)) h41 g))
  have hx : twI (tk j) = 8 ∨ twI (tk j) = 9 := by unfold twI; rcases ht with e | e <;> rw [e] <;> decide
  have hrk : rkF (twI (tk j)) = 6 := by rcases hx with e | e <;> rw [e] <;> decide
  have hbt : btI (tk j) P = twI (tk j) := by unfold btI twI; rcases ht with e | e <;> rw [e] <;> rfl
  have hB : inB (j, P, o, D1) := fits_B (n := n) (m := m + 5) ⟨by omega, hl, by omega⟩ (by omega) ho
  refine zR_map (h (j + 1) (twI (tk j) :: P) D1 ⟨hj, by rw [List.length_cons]; omega, by rw [List.length_cons]; omega⟩ ?_) (Nat.le_refl _) (fun R g => bh_bt hbt (by omega) ?_ hB (by omega) g) (fun _ g => g) (fun R j' D' _ _ _ g => eo_bh (Or.inr ?_) ?_ (gn_drop (by omega) (Or.inl hrk) (by omega) g))
  · rintro ⟨-, q | q⟩
    · have q : 40 ≤ twI (tk j) := q
      omega
    · have q : 1 ≤ rkF (twI (tk j)) ∧ rkF (twI (tk j)) ≤ 3 := q
      omega
  · rw [if_neg (by omega), hrk]
    rcases hr with hr | hr
    · exact Or.inl hr
    · exact Or.inr (by omega)
  · show rkF (twI (tk j)) < 7
    omega
  · show twI (tk j) ≠ 41
    omega
theorem sim_sum {o : Int} {m : Nat} (ho : 0 ≤ o ∧ o ≤ 8) (hm : m ≤ 48) (hn : n ≤ 300) (h39 : tk n = 39) {pro : Nat → rE} (h : zPr tk nu so n o m pro) : zS tk nu so n o m (ch pro tk 29 30) := by
  intro k P D hf hr h41 hask
  have hf0 := hf
  unfold fitS at hf
  refine zR_ch (c := P.length) (x := twI) hn h39 (by decide) (by decide) hf.2.1 (fun j D1 hj _ ht hl => ?_) (fun t E f G g ht a b => mPv_two (by omega) a b) (h k P D ⟨hf.1, hf.2.1, by omega⟩ (by rcases hr with hr | hr; exact Or.inl hr; exact Or.inr (by omega)) h41 hask)
  have hx : twI (tk j) = 6 ∨ twI (tk j) = 7 := by unfold twI; rcases ht with e | e <;> rw [e] <;> decide
  have hrk : rkF (twI (tk j)) = 5 := by rcases hx with e | e <;> rw [e] <;> decide
  have hbt : btI (tk j) P = twI (tk j) := by unfold btI twI; rcases ht with e | e <;> rw [e] <;> rfl
  have hB : inB (j, P, o, D1) := fits_B (n := n) (m := m + 5) ⟨by omega, hl, by omega⟩ (by omega) ho
  refine zR_map (h (j + 1) (twI (tk j) :: P) D1 ⟨hj, by rw [List.length_cons]; omega, by rw [List.length_cons]; omega⟩ (Or.inr ?_) ?_ ?_) (Nat.le_refl _) (fun R g => bh_bt hbt (by omega) ?_ hB (by omega) g) (fun _ g => g) (fun R j' D' hx' _ _ g => gn_drop (by omega) (Or.inr ⟨hrk, hx'.2⟩) (by omega) g)
  · show rkF (twI (tk j)) ≤ 5
    omega
  · show twI (tk j) ≠ 41
    omega
  · rintro ⟨-, q | q⟩
    · have q : 40 ≤ twI (tk j) := q
      omega
    · have q : 1 ≤ rkF (twI (tk j)) ∧ rkF (twI (tk j)) ≤ 3 := q
      omega
  · rw [if_neg (by omega), hrk]
    rcases hr with hr | hr
    · exact Or.inl hr
    · exact Or.inr (by omega)
theorem askA_r {P : List Int} (h : askA P) : rkF (P.headD 0) ≤ 3 ∧ P.headD 0 ≠ 41 ∧ cmP P = 0 ∧ P ≠ [] := by
  obtain ⟨h1, h2⟩ := h
  cases P with
  | nil => exact absurd h1 (by decide)
  | cons x P =>
    have h2 : 40 ≤ x ∨ (1 ≤ rkF x ∧ rkF x ≤ 3) := h2
    show rkF x ≤ 3 ∧ x ≠ 41 ∧ cmP (x :: P) = 0 ∧ _
    have e : rkF x ≤ 3 := by
      rcases h2 with q | q
      · unfold rkF; rw [if_pos q]; omega
      · exact q.2
    refine ⟨e, ?_, ?_, fun z => by cases z⟩
    · rintro rfl
      exact absurd h1 (by rw [opN_ge (by decide)]; decide)
    · rw [cmP, if_neg (by omega), if_neg (by omega)]
theorem askA_c {P : List Int} {x : Int} (h : opN P = 42) (hx : x = 20 ∨ x = 21 ∨ x = 22) : askA (x :: P) := by
  refine ⟨(opN_lt (by omega) P).trans h, Or.inr ?_⟩
  show 1 ≤ rkF x ∧ rkF x ≤ 3
  rcases hx with e | e | e <;> subst e <;> decide
theorem sim_cm {o : Int} {m : Nat} (ho : 0 ≤ o ∧ o ≤ 8) (hm : m ≤ 48) (hn : n ≤ 300) (h39 : tk n = 39) {sum : Nat → rE} (h : zS tk nu so n o m sum) {k : Nat} {P : List Int} {D : List (Int × Int)} (hf : fitS n k P D (m + 2)) (ha : askA P) (h18 : tk k ≠ 18) : zR n k mPw (fun _ => True) (fun R => gnR tk nu so R 0 (k, P, o, D)) (fun R j D' => gAk tk nu so R j P o D') D (cmR tk sum (sum k)) := by
  have r := askA_r ha
  unfold fitS at hf
  obtain ⟨h1, h2, h3⟩ := h k P D ⟨hf.1, hf.2.1, by omega⟩ (Or.inr (by omega)) r.2.1 (fun _ => h18)
  unfold cmR
  by_cases q : (sum k).1 = 0
  · rw [if_pos q]
    generalize sum k = r1 at *
    obtain ⟨q1, ⟨⟨-, t31, t32⟩, t29, t30⟩, E, q3, q4, q5⟩ := h3 q
    clear h3
    have hl : P.length + (E ++ D).length + (n - r1.2.1) ≤ 300 := by rw [List.length_append]; omega
    have hB : inB (r1.2.1, P, o, E ++ D) := fits_B (n := n) (m := m + 5) ⟨h1, hl, by omega⟩ (by omega) ho
    have hbt : btI (tk r1.2.1) P = cpI (tk r1.2.1) := by
      unfold btI
      rw [if_neg t29, if_neg t30, if_neg t31, if_neg t32, if_neg (fun z => z ha.1), if_pos r.2.2.1]
    by_cases c : cpI (tk r1.2.1) < 0
    · rw [if_pos c]
      refine zR_F h1 (by decide) (q5 _ (gn_fa hB (by show r1.2.1 ≤ 300; omega) (by show btI (tk r1.2.1) P < 0; omega) ?_ (by show 0 ≤ opN P; rw [ha.1]; decide) rfl rfl))
      show ptI (tk r1.2.1) P (opN P) < 0
      unfold ptI
      rw [ha.1, if_neg (by decide), if_pos rfl, if_neg (by rw [r.2.2.1]; omega)]
      decide
    · rw [if_neg c]
      have c2 := cpI_in (t := tk r1.2.1) (by omega)
      have hlt : r1.2.1 < n := by
        rcases Nat.lt_or_ge r1.2.1 n with z | z
        · exact z
        · exfalso
          rw [show r1.2.1 = n by omega, h39] at c2
          omega
      have r4 : rkF (cpI (tk r1.2.1)) = 4 := by
        unfold rkF
        rw [if_neg (by omega), if_neg (by omega), if_neg (by omega), if_neg (by omega), if_pos (by omega)]
      obtain ⟨s1, s2, s3⟩ := h (r1.2.1 + 1) (cpI (tk r1.2.1) :: P) (E ++ D) ⟨hlt, by rw [List.length_cons]; omega, by rw [List.length_cons]; omega⟩ (Or.inr (by show rkF (cpI (tk r1.2.1)) ≤ 4; omega)) (by show cpI (tk r1.2.1) ≠ 41; omega) (by
        rintro ⟨-, z | z⟩
        · have z : 40 ≤ cpI (tk r1.2.1) := z
          omega
        · have z : 1 ≤ rkF (cpI (tk r1.2.1)) ∧ rkF (cpI (tk r1.2.1)) ≤ 3 := z
          omega)
      have bt : ∀ R, gnR tk nu so R 0 (r1.2.1 + 1, cpI (tk r1.2.1) :: P, o, E ++ D) → gnR tk nu so R 1 (r1.2.1, P, o, E ++ D) := fun R g => bh_bt hbt (by omega) (Or.inr (by rw [if_pos r4]; omega)) hB (by omega) g
      by_cases z : (sum (r1.2.1 + 1)).1 = 0
      · rw [if_pos z]
        obtain ⟨w1, ⟨⟨-, u31, u32⟩, u29, u30⟩, G, w3, w4, w5⟩ := s3 z
        clear s3
        refine ⟨s1, fun y => absurd rfl y, fun _ => ⟨by show k < (sum (r1.2.1 + 1)).2.1; omega, trivial, (cpI (tk r1.2.1), 0) :: (G ++ E), ?_, mPw_cmp (by omega) q4 w4, fun R g => q5 R (bt R (w5 R (gn_cmp c2.1 ha.1 ?_ (by omega) u29 u30 u31 u32 ?_)))⟩⟩
        · show (G ++ E).length + 1 + k ≤ (sum (r1.2.1 + 1)).2.1
          rw [List.length_append]
          omega
        · refine fits_B (n := n) (m := m + 5) ⟨s1, ?_, by rw [List.length_cons]; omega⟩ (by omega) ho
          rw [List.length_cons, List.length_append, List.length_append]
          omega
        · rw [← List.append_assoc]
          exact g
      · rw [if_neg z]
        exact ⟨s1, fun _ => q5 _ (bt _ (s2 z)), fun y => absurd y z⟩
  · rw [if_neg q]
    exact ⟨h1, h2, fun z => absurd z q⟩
theorem sim_bo {o : Int} {m : Nat} (hn : n ≤ 300) (h39 : tk n = 39) {ask : Nat → rE} (h : zA tk nu so n o m ask) : zBo tk nu so n o m (ch ask tk 17 17) := by
  intro k P D hf ha hr
  unfold fitS at hf
  refine zR_ch (c := P.length) (x := twI) hn h39 (by decide) (by decide) hf.2.1 (fun j D1 hj _ ht hl => ?_) (fun t E f G g ht a b => mPw_join (by omega) a b) (h k P D ⟨hf.1, hf.2.1, by omega⟩ ha)
  have ht : tk j = 17 := by omega
  rw [ht]
  refine zR_map (h (j + 1) (21 :: P) D1 ⟨hj, by rw [List.length_cons]; omega, by rw [List.length_cons]; omega⟩ (askA_c ha.1 (by omega))) (Nat.le_refl _) (fun R g => ?_) (fun _ g => g) (fun R j' D' _ _ _ g => gA_and g)
  refine ⟨fun _ => ?_, fun e => by omega, fun e => by omega, fun e => absurd ht e⟩
  rw [sP_id (Or.inr (by omega))]
  exact g
theorem sim_ei {o : Int} {m : Nat} (hn : n ≤ 300) (h39 : tk n = 39) {both : Nat → rE} (h : zBo tk nu so n o m both) : zI tk nu so n o m (ch both tk 16 16) := by
  intro k P D hf
  unfold fitS at hf
  have ha : askA (42 :: P) := ⟨opN_ge (by decide) P, Or.inl (show (40 : Int) ≤ 42 by decide)⟩
  refine zR_ch (c := (42 :: P).length) (x := twI) hn h39 (by decide) (by decide) hf.2.1 (fun j D1 hj hx ht hl => ?_) (fun t E f G g ht a b => mPw_join (by omega) a b) (h k (42 :: P) D ⟨hf.1, hf.2.1, by omega⟩ ha (by show rkF 42 ≤ 1; decide))
  have ht : tk j = 16 := by omega
  rw [ht]
  refine zR_map (h (j + 1) (22 :: 42 :: P) D1 ⟨hj, by rw [List.length_cons]; omega, by rw [List.length_cons]; omega⟩ (askA_c ha.1 (by omega)) (by show rkF 22 ≤ 1; decide)) (Nat.le_refl _) (fun R g => ?_) (fun _ g => g) (fun R j' D' hx' _ _ g => gA_or hx'.2.1 g)
  refine ⟨fun e => by omega, fun _ => ?_, fun e => by omega, fun _ e => absurd ht e⟩
  rw [sP_id (Or.inr (by show rkF 42 < 1; decide))]
  exact g
end SIM2
