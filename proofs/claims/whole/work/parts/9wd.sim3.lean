/-! ===== one, ask; all levels ===== -/
section SIM3
variable {tk nu : Nat → Int} {so : Int} {n : Nat} {k : Nat} {P : List Int} {o : Int} {D : List (Int × Int)}
theorem bg_num (h : tk k = 38) (h9 : ¬ 9999 < nu k) : bgS tk nu so (k, P, o, D) = eoS tk (k + 1, P, o, (0, nu k) :: D) := by
  unfold bgS
  rw [if_neg (by rintro ⟨-, z⟩; exact h9 z), if_neg (by rintro ⟨z, -⟩; revert z; show 0 ≤ nmI (tk k) → False; rw [h]; decide), if_pos (Or.inl h), if_pos h]
theorem bg_big (h : tk k = 38) (h9 : 9999 < nu k) : bgS tk nu so (k, P, o, D) = (2, 0, (k, P, o, D)) := by
  unfold bgS
  rw [if_pos ⟨h, h9⟩]
theorem nm_ne {t : Int} (h : 0 ≤ nmI t) : t ≠ 38 ∧ t ≠ 39 := by
  refine ⟨?_, ?_⟩ <;> (rintro rfl; exact absurd h (by decide))
theorem bg_name (h : 0 ≤ nmI (tk k)) (hi : isOfP (nmI (tk k)) so) : bgS tk nu so (k, P, o, D) = eoS tk (k + 1, P, o, (1, nmI (tk k)) :: D) := by
  unfold bgS
  rw [if_neg (by rintro ⟨z, -⟩; exact (nm_ne h).1 z), if_neg (by rintro ⟨-, z⟩; exact z hi), if_pos (Or.inr h), if_neg (nm_ne h).1]
theorem bg_noname (h : 0 ≤ nmI (tk k)) (hi : ¬ isOfP (nmI (tk k)) so) : bgS tk nu so (k, P, o, D) = (5, 0, (k, P, o, D)) := by
  unfold bgS
  rw [if_neg (by rintro ⟨z, -⟩; exact (nm_ne h).1 z), if_pos ⟨h, hi⟩]
theorem bg_op {x : Int} (h : (tk k = 33 ∧ x = 40) ∨ (tk k = 30 ∧ x = 5) ∨ (tk k = 9 ∧ x = 41) ∨ (tk k = 11 ∧ x = 2) ∨ (tk k = 12 ∧ x = 42) ∨ (tk k = 18 ∧ x = 20 ∧ askA P)) : bgS tk nu so (k, P, o, D) = opS x (k, P, o, D) := by
  have hn : nmI (tk k) = -1 ∧ tk k ≠ 38 := by
    rcases h with ⟨h, -⟩ | ⟨h, -⟩ | ⟨h, -⟩ | ⟨h, -⟩ | ⟨h, -⟩ | ⟨h, -⟩ <;> rw [h] <;> decide
  unfold bgS
  rw [if_neg (by rintro ⟨z, -⟩; exact hn.2 z), if_neg (by rintro ⟨z, -⟩; revert z; show 0 ≤ nmI (tk k) → False; rw [hn.1]; decide), if_neg (by show ¬ (tk k = 38 ∨ 0 ≤ nmI (tk k)); rw [hn.1]; rintro (z | z); exact hn.2 z; exact absurd z (by decide))]
  show (if tk k = 33 then opS 40 (k, P, o, D) else if tk k = 30 then opS 5 (k, P, o, D) else if tk k = 9 then opS 41 (k, P, o, D) else if tk k = 11 then opS 2 (k, P, o, D) else if tk k = 12 then opS 42 (k, P, o, D) else @ite _ (tk k = 18 ∧ askA P) (Classical.propDecidable _) (opS 20 (k, P, o, D)) (1, 0, (k, P, o, D))) = _
  rcases h with ⟨h, e⟩ | ⟨h, e⟩ | ⟨h, e⟩ | ⟨h, e⟩ | ⟨h, e⟩ | ⟨h, e, a⟩ <;> subst e
  · rw [if_pos h]
  · rw [if_neg (by omega), if_pos h]
  · rw [if_neg (by omega), if_neg (by omega), if_pos h]
  · rw [if_neg (by omega), if_neg (by omega), if_neg (by omega), if_pos h]
  · rw [if_neg (by omega), if_neg (by omega), if_neg (by omega), if_neg (by omega), if_pos h]
  · rw [if_neg (by omega), if_neg (by omega), if_neg (by omega), if_neg (by omega), if_neg (by omega), if_pos ⟨h, a⟩]
theorem bg_bad (hn : nmI (tk k) < 0) (h38 : tk k ≠ 38) (h33 : tk k ≠ 33) (h30 : tk k ≠ 30) (h9 : tk k ≠ 9) (h11 : tk k ≠ 11) (h12 : tk k ≠ 12) (h18 : askA P → tk k ≠ 18) : bgS tk nu so (k, P, o, D) = (1, 0, (k, P, o, D)) := by
  unfold bgS
  rw [if_neg (by rintro ⟨z, -⟩; exact h38 z), if_neg (by rintro ⟨z, -⟩; revert z; show 0 ≤ nmI (tk k) → False; omega), if_neg (by show ¬ (tk k = 38 ∨ 0 ≤ nmI (tk k)); omega), if_neg h33, if_neg h30, if_neg h9, if_neg h11, if_neg h12, if_neg (by rintro ⟨a, b⟩; exact h18 b a)]
theorem gn_f1 {c : Int} (hb : inB (k, P, o, D)) (hk : k ≤ 300) (hc : 0 < c) (e : bgS tk nu so (k, P, o, D) = (c, 0, (k, P, o, D))) : gnR tk nu so (c, k, []) 0 (k, P, o, D) := gn_bg hb hk e (fun z => by have z : c = 0 := z; omega) (Or.inl ⟨hc, rfl, rfl⟩)
theorem gn_o8 {x : Int} (hb : inB (k, P, o, D)) (hk : k ≤ 300) (e : bgS tk nu so (k, P, o, D) = opS x (k, P, o, D)) (ho : o = 8) : gnR tk nu so (3, k, []) 0 (k, P, o, D) := gn_f1 hb hk (by decide) (by rw [e]; unfold opS; exact if_pos ho)
theorem gn_o {x : Int} {R : rR} (hb : inB (k, P, o, D)) (hk : k ≤ 300) (e : bgS tk nu so (k, P, o, D) = opS x (k, P, o, D)) (ho : o ≠ 8) (g : gnR tk nu so R 0 (k + 1, x :: P, o + 1, D)) : gnR tk nu so R 0 (k, P, o, D) := gn_bg (q := (0, 0, (k + 1, x :: P, o + 1, D))) hb hk (by rw [e]; unfold opS; exact if_neg ho) (fun _ => Nat.lt_succ_self _) (Or.inr ⟨rfl, g⟩)
theorem gn_e1 {R : rR} {D1 : List (Int × Int)} (hb : inB (k, P, o, D)) (hk : k ≤ 300) (e : bgS tk nu so (k, P, o, D) = eoS tk (k + 1, P, o, D1)) (g : eoR tk nu so R (k + 1, P, o, D1)) : gnR tk nu so R 0 (k, P, o, D) := gn_bg hb hk e (fun _ => Nat.lt_of_lt_of_le (Nat.lt_succ_self k) (eo_up (tk := tk) (k + 1, P, o, D1))) g
/-- what closes: behind a sum in 40 or 44 -/
theorem gn_cl {x t : Int} {R : rR} {D1 : List (Int × Int)} (hx : (x = 40 ∧ t = 34 ∧ D1 = D) ∨ (x = 44 ∧ t = 15 ∧ D1 = (3, 0) :: D)) (hb : inB (k, x :: P, o + 1, D)) (hk : k ≤ 300) (ht : tk k = t) (g : eoR tk nu so R (k + 1, P, o, D1)) : gnR tk nu so R 1 (k, x :: P, o + 1, D) := by
  have e1 : opN (x :: P) = x := opN_ge (by omega) P
  have e3 : btI (tk k) (x :: P) = -1 := by
    unfold btI
    rw [if_neg (by omega), if_neg (by omega), if_neg (by omega), if_neg (by omega), e1, if_pos (by omega)]
  have e4 : ptI (tk k) (x :: P) (opN (x :: P)) = 0 := by
    unfold ptI
    rw [e1]
    rcases hx with ⟨hx, h, -⟩ | ⟨hx, h, -⟩
    · rw [if_pos hx, if_pos (by omega)]
    · rw [if_neg (by omega), if_neg (by omega), if_neg (by omega), if_pos hx, if_pos (by omega)]
  have es : sP 1 (x :: P) (o + 1) D = (x :: P, o + 1, D) := sP_id (Or.inr (by show rkF x < 1; unfold rkF; rw [if_pos (by omega)]; decide)) _ _
  refine gn_bh (q := eoS tk (k + 1, P, o, D1)) hb hk ?_ (fun _ => Nat.lt_of_lt_of_le (Nat.lt_succ_self k) (eo_up (tk := tk) (k + 1, P, o, D1))) g
  unfold bhS
  show (if 0 ≤ btI (tk k) (x :: P) then _ else if ptI (tk k) (x :: P) (opN (x :: P)) < 0 then _ else if ptI (tk k) (x :: P) (opN (x :: P)) = 0 then eoS tk (k + 1, (sP 1 (x :: P) (o + 1) D).1.tail, (sP 1 (x :: P) (o + 1) D).2.1 - 1, if opN (x :: P) = 44 then (3, 0) :: (sP 1 (x :: P) (o + 1) D).2.2 else (sP 1 (x :: P) (o + 1) D).2.2) else _) = _
  rw [e3, if_neg (by decide), e4, if_neg (by decide), if_pos rfl, es, e1]
  show eoS tk (k + 1, P, o + 1 - 1, if x = 44 then (3, 0) :: D else D) = _
  rw [show o + 1 - 1 = o by omega]
  rcases hx with ⟨hx, -, h⟩ | ⟨hx, -, h⟩
  · rw [if_neg (by omega), h]
  · rw [if_pos hx, h]
/-- else, behind a sum in 43 -/
theorem gn_el {R : rR} (hb : inB (k, 43 :: P, o, D)) (hk : k ≤ 300) (ht : tk k = 14) (g : gnR tk nu so R 0 (k + 1, 44 :: P, o, D)) : gnR tk nu so R 1 (k, 43 :: P, o, D) := by
  have e1 : opN (43 :: P) = 43 := opN_ge (by decide) P
  have e3 : btI (tk k) (43 :: P) = -1 := by
    unfold btI
    rw [if_neg (by omega), if_neg (by omega), if_neg (by omega), if_neg (by omega), e1, if_pos (by decide)]
  have e4 : ptI (tk k) (43 :: P) (opN (43 :: P)) = 44 := by
    unfold ptI
    rw [e1, if_neg (by decide), if_neg (by decide), if_pos rfl, if_pos ht]
  have es : sP 1 (43 :: P) o D = (43 :: P, o, D) := sP_id (Or.inr (by show rkF 43 < 1; decide)) _ _
  refine gn_bh (q := (0, 0, (k + 1, 44 :: P, o, D))) hb hk ?_ (fun _ => Nat.lt_succ_self _) (Or.inr ⟨rfl, g⟩)
  unfold bhS
  show (if 0 ≤ btI (tk k) (43 :: P) then _ else if ptI (tk k) (43 :: P) (opN (43 :: P)) < 0 then _ else if ptI (tk k) (43 :: P) (opN (43 :: P)) = 0 then _ else (0, 0, (k + 1, ptI (tk k) (43 :: P) (opN (43 :: P)) :: (sP 1 (43 :: P) o D).1.tail, (sP 1 (43 :: P) o D).2))) = _
  rw [e3, if_neg (by decide), e4, if_neg (by decide), if_neg (by decide), es]
  rfl
/-- what isn't closed as it should be -/
theorem gn_ncl {x : Int} (hx : (x = 40 ∧ tk k ≠ 34) ∨ (x = 43 ∧ tk k ≠ 14) ∨ (x = 44 ∧ tk k ≠ 15)) (hb : inB (k, x :: P, o, D)) (hk : k ≤ 300) (h29 : tk k ≠ 29) (h30 : tk k ≠ 30) (h31 : tk k ≠ 31) (h32 : tk k ≠ 32) : gnR tk nu so (1, k, []) 1 (k, x :: P, o, D) := by
  have e1 : opN (x :: P) = x := opN_ge (by omega) P
  refine gn_fa hb hk ?_ ?_ (by show 0 ≤ opN (x :: P); omega) rfl rfl
  · show btI (tk k) (x :: P) < 0
    unfold btI
    rw [if_neg h29, if_neg h30, if_neg h31, if_neg h32, e1, if_pos (by omega)]
    decide
  · show ptI (tk k) (x :: P) (opN (x :: P)) < 0
    unfold ptI
    rw [e1]
    rcases hx with ⟨hx, h⟩ | ⟨hx, h⟩ | ⟨hx, h⟩
    · rw [if_pos hx, if_neg h]; decide
    · rw [if_neg (by omega), if_neg (by omega), if_pos hx, if_neg h]; decide
    · rw [if_neg (by omega), if_neg (by omega), if_neg (by omega), if_pos hx, if_neg h]; decide
theorem lt_tk {t : Int} (h39 : tk n = 39) (hk : k ≤ n) (ht : tk k = t) (h : t ≠ 39) : k < n := by
  rcases Nat.lt_or_ge k n with z | z
  · exact z
  · rw [show k = n by omega, h39] at ht
    exact absurd ht.symm h
theorem sim_ak {m : Nat} {ok : Int} {low : lQ} {sum : Nat → rE} (ho : 0 ≤ o ∧ o ≤ 8) (hm : m ≤ 48) (hn : n ≤ 300) (h39 : tk n = 39) (h0 : ok = 0 → o = 8) (hl : ok ≠ 0 → o ≠ 8 ∧ zA tk nu so n (o + 1) (m + 6) low.2.2.1) (hs : zS tk nu so n o m sum) : zA tk nu so n o m (akB tk ok low sum) := by
  intro k P D hf ha
  have hB : inB (k, P, o, D) := fits_B hf (by omega) ho
  unfold akB
  by_cases t : tk k = 18
  · rw [if_pos t]
    have e : bgS tk nu so (k, P, o, D) = opS 20 (k, P, o, D) := bg_op (by exact Or.inr (Or.inr (Or.inr (Or.inr (Or.inr ⟨t, rfl, ha⟩)))))
    unfold fitS at hf
    by_cases q : ok = 0
    · rw [if_pos q]
      exact zR_F hf.1 (by decide) (gn_o8 hB (by omega) e (h0 q))
    · rw [if_neg q]
      have hk := lt_tk h39 hf.1 t (by decide)
      refine zR_un (x := 20) (zR_map ((hl q).2 (k + 1) (20 :: P) D ⟨hk, by rw [List.length_cons]; omega, by rw [List.length_cons]; omega⟩ (askA_c ha.1 (Or.inl rfl))) (Nat.le_refl _) (fun R g => gn_o hB (by omega) e (hl q).1 g) (fun _ g => g) (fun R j D' _ _ _ g => g)) (fun E f h => mPw_not h) (fun R j D' g => gA_not g)
  · rw [if_neg t]
    exact sim_cm ho hm hn h39 hs hf ha t
theorem sim_if {m : Nat} {low : lQ} (ho : 0 ≤ o ∧ o < 8) (hm : m ≤ 42) (hn : n ≤ 300) (h39 : tk n = 39) (hS : zS tk nu so n (o + 1) (m + 6) low.2.1) (hI : zI tk nu so n (o + 1) (m + 6) low.2.2.2) (hf : fitS n k P D (m + 5)) (hk : k < n) : zR n k mPv (fun _ => True) (fun R => gnR tk nu so R 0 (k + 1, 42 :: P, o + 1, D)) (fun R j D' => eoR tk nu so R (j, P, o, D')) D (ifT tk low (expc tk 13 (low.2.2.2 (k + 1)))) := by
  unfold fitS at hf
  have hc : zR n (k + 1) mPw (fun _ => True) (fun R => gnR tk nu so R 0 (k + 1, 42 :: P, o + 1, D)) (fun R j D' => gnR tk nu so R 0 (j, 43 :: P, o + 1, D')) D (expc tk 13 (low.2.2.2 (k + 1))) := by
    have es : ∀ D', sP 1 (42 :: P) (o + 1) D' = (42 :: P, o + 1, D') := fun D' => sP_id (Or.inr (by show rkF 42 < 1; decide)) _ _
    refine zR_exp (hI (k + 1) P D ⟨hk, by rw [List.length_cons]; omega, by rw [List.length_cons]; omega⟩) (Nat.le_refl _) h39 (by decide) (fun R j D' _ _ _ ht g => ?_) (fun j D' hx _ _ ht => ?_)
    · refine ⟨fun z => by omega, fun z => by omega, fun _ => ?_, fun _ _ z => absurd ht z⟩
      rw [es]
      exact g
    · exact ⟨fun z => absurd z hx.1.2.1, fun z => absurd z hx.2.1, fun z => absurd z ht, fun _ _ _ => ⟨rfl, rfl⟩⟩
  generalize expc tk 13 (low.2.2.2 (k + 1)) = c at *
  obtain ⟨c1, c2, c3⟩ := hc
  unfold ifT
  by_cases q : c.1 = 0
  · rw [if_pos q]
    obtain ⟨c4, -, E, c5, c6, c7⟩ := c3 q
    clear c3
    have hfL : (43 :: P).length + (E ++ D).length + (n - c.2.1) ≤ 300 := by rw [List.length_cons, List.length_append]; omega
    have hf2 : zR n c.2.1 mPv (fun _ => True) (fun R => gnR tk nu so R 0 (c.2.1, 43 :: P, o + 1, E ++ D)) (fun R j D' => gnR tk nu so R 0 (j, 44 :: P, o + 1, D')) (E ++ D) (expc tk 14 (low.2.1 c.2.1)) := by
      have hB : ∀ j D', j ≤ n → D'.length + c.2.1 ≤ j + (E ++ D).length → inB (j, 43 :: P, o + 1, D') := fun j D' a b => fits_B (n := n) (m := m + 6) ⟨a, by rw [List.length_cons] at *; omega, by rw [List.length_cons]; omega⟩ (by omega) (by omega)
      refine zR_exp (hS c.2.1 (43 :: P) (E ++ D) ⟨c1, hfL, by rw [List.length_cons]; omega⟩ (Or.inr (by show rkF 43 ≤ 4; decide)) (by show (43 : Int) ≠ 41; decide) ?_) (Nat.le_refl _) h39 (by decide) (fun R j D' _ a b ht g => gn_el (hB j D' (by omega) b) (by omega) ht g) (fun j D' hx a b ht => gn_ncl (Or.inr (Or.inl ⟨rfl, ht⟩)) (hB j D' a b) (by omega) hx.2.1 hx.2.2 hx.1.2.1 hx.1.2.2)
      rintro ⟨z, -⟩
      rw [opN_ge (by decide)] at z
      exact absurd z (by decide)
    generalize expc tk 14 (low.2.1 c.2.1) = f at *
    obtain ⟨f1, f2, f3⟩ := hf2
    unfold ifE
    by_cases q2 : f.1 = 0
    · rw [if_pos q2]
      obtain ⟨f4, -, G, f5, f6, f7⟩ := f3 q2
      clear f3
      have hgL : (44 :: P).length + (G ++ (E ++ D)).length + (n - f.2.1) ≤ 300 := by rw [List.length_cons, List.length_append, List.length_append]; omega
      have hg : zR n f.2.1 mPv (fun _ => True) (fun R => gnR tk nu so R 0 (f.2.1, 44 :: P, o + 1, G ++ (E ++ D))) (fun R j D' => eoR tk nu so R (j, P, o, (3, 0) :: D')) (G ++ (E ++ D)) (expc tk 15 (low.2.1 f.2.1)) := by
        have hB : ∀ j D', j ≤ n → D'.length + f.2.1 ≤ j + (G ++ (E ++ D)).length → inB (j, 44 :: P, o + 1, D') := fun j D' a b => fits_B (n := n) (m := m + 6) ⟨a, by rw [List.length_cons] at *; omega, by rw [List.length_cons]; omega⟩ (by omega) (by omega)
        refine zR_exp (hS f.2.1 (44 :: P) (G ++ (E ++ D)) ⟨f1, hgL, by rw [List.length_cons]; omega⟩ (Or.inr (by show rkF 44 ≤ 4; decide)) (by show (44 : Int) ≠ 41; decide) ?_) (Nat.le_refl _) h39 (by decide) (fun R j D' _ a b ht g => gn_cl (t := 15) (Or.inr ⟨rfl, rfl, rfl⟩) (hB j D' (by omega) b) (by omega) ht g) (fun j D' hx a b ht => gn_ncl (Or.inr (Or.inr ⟨rfl, ht⟩)) (hB j D' a b) (by omega) hx.2.1 hx.2.2 hx.1.2.1 hx.1.2.2)
        rintro ⟨z, -⟩
        rw [opN_ge (by decide)] at z
        exact absurd z (by decide)
      generalize expc tk 15 (low.2.1 f.2.1) = g at *
      obtain ⟨g1, g2, g3⟩ := hg
      by_cases q3 : g.1 = 0
      · rw [if_pos q3]
        obtain ⟨g4, -, H, g5, g6, g7⟩ := g3 q3
        clear g3
        refine ⟨g1, fun z => absurd rfl z, fun _ => ⟨by show k < g.2.1; omega, trivial, (3, 0) :: (H ++ (G ++ E)), ?_, mPv_if c6 f6 g6, fun R h => c7 R (f7 R (g7 R ?_))⟩⟩
        · show (H ++ (G ++ E)).length + 1 + k ≤ g.2.1
          rw [List.length_append, List.length_append]
          omega
        · rw [show (3, 0) :: (H ++ (G ++ E)) ++ D = (3, 0) :: (H ++ (G ++ (E ++ D))) by simp] at h
          exact h
      · rw [if_neg q3]
        exact ⟨g1, fun z => c7 _ (f7 _ (g2 z)), fun z => absurd z q3⟩
    · rw [if_neg q2]
      exact ⟨f1, fun z => c7 _ (f2 z), fun z => absurd z q2⟩
  · rw [if_neg q]
    exact ⟨c1, c2, fun z => absurd z q⟩
theorem sim_ov {m : Nat} {low : lQ} (ho : 0 ≤ o ∧ o < 8) (hm : m ≤ 42) (hn : n ≤ 300) (h39 : tk n = 39) (hO : zO tk nu so n (o + 1) (m + 6) low.1) (hf : fitS n k P D (m + 5)) (hk : k < n) : zR n k mPv (fun _ => True) (fun R => gnR tk nu so R 0 (k + 1, 41 :: P, o + 1, D)) (fun R j D' => eoR tk nu so R (j, P, o, D')) D (ovR low (expc tk 10 (low.1 (k + 1)))) := by
  unfold fitS at hf
  have hc : zR n (k + 1) mPv (fun _ => True) (fun R => gnR tk nu so R 0 (k + 1, 41 :: P, o + 1, D)) (fun R j D' => gnR tk nu so R 0 (j, 4 :: P, o + 1, D')) D (expc tk 10 (low.1 (k + 1))) := by
    refine zR_exp (hO (k + 1) (41 :: P) D ⟨hk, by rw [List.length_cons]; omega, by rw [List.length_cons]; omega⟩ ?_) (Nat.le_refl _) h39 (by decide) (fun R j D' _ _ _ ht g => eo_41.1 ht g) (fun j D' hx _ _ ht => eo_41.2 ht rfl rfl)
    rintro ⟨z, -⟩
    rw [opN_ge (by decide)] at z
    exact absurd z (by decide)
  generalize expc tk 10 (low.1 (k + 1)) = c at *
  obtain ⟨c1, c2, c3⟩ := hc
  unfold ovR
  by_cases q : c.1 = 0
  · rw [if_pos q]
    obtain ⟨c4, -, E, c5, c6, c7⟩ := c3 q
    clear c3
    obtain ⟨g1, g2, g3⟩ := hO c.2.1 (4 :: P) (E ++ D) ⟨c1, by rw [List.length_cons, List.length_append]; omega, by rw [List.length_cons]; omega⟩ (by
      rintro ⟨-, z | z⟩
      · exact absurd (show (40 : Int) ≤ 4 from z) (by decide)
      · exact absurd (show 1 ≤ rkF 4 ∧ rkF 4 ≤ 3 from z) (by decide))
    by_cases q3 : (low.1 c.2.1).1 = 0
    · rw [if_pos q3]
      obtain ⟨g4, -, H, g5, g6, g7⟩ := g3 q3
      clear g3
      refine ⟨g1, fun z => absurd rfl z, fun _ => ⟨by show k < (low.1 c.2.1).2.1; omega, trivial, (4, 0) :: (H ++ E), ?_, mPv_over c6 g6, fun R h => c7 R (g7 R (eo_7 (by decide) ?_))⟩⟩
      · show (H ++ E).length + 1 + k ≤ (low.1 c.2.1).2.1
        rw [List.length_append]
        omega
      · rw [← List.append_assoc]
        exact h
    · rw [if_neg q3]
      exact ⟨g1, fun z => c7 _ (g2 z), fun z => absurd z q3⟩
  · rw [if_neg q]
    exact ⟨c1, c2, fun z => absurd z q⟩
theorem sim_on {m : Nat} {ok : Int} {low : lQ} (ho : 0 ≤ o ∧ o ≤ 8) (hm : m ≤ 48) (hn : n ≤ 300) (h39 : tk n = 39) (hnu : ∀ k, 0 ≤ nu k) (h0 : ok = 0 → o = 8) (hl : ok ≠ 0 → (o < 8 ∧ m ≤ 42) ∧ zO tk nu so n (o + 1) (m + 6) low.1 ∧ zS tk nu so n (o + 1) (m + 6) low.2.1 ∧ zI tk nu so n (o + 1) (m + 6) low.2.2.2) : zO tk nu so n o m (onB tk nu so ok low) := by
  intro k P D hf h18
  have hB : inB (k, P, o, D) := fits_B hf (by omega) ho
  have hf0 := hf
  unfold fitS at hf
  have hk3 : k ≤ 300 := by omega
  have U : ∀ x op far : Int, rkF x = 7 → ok ≠ 0 → k < n → bgS tk nu so (k, P, o, D) = opS x (k, P, o, D) → (∀ E f, mPv E f → mPv ((x, 0) :: E) (vN op f)) → zR n k mPv (fun _ => True) (fun R => gnR tk nu so R 0 (k, P, o, D)) (fun R j D' => eoR tk nu so R (j, P, o, D')) D (onU op far (low.1 (k + 1))) := by
    intro x op far h7 q hk e hp
    obtain ⟨⟨o8, m4⟩, l1, -⟩ := hl q
    have hx : x < 40 := by
      rcases Int.lt_or_le x 40 with z | z
      · exact z
      · unfold rkF at h7; rw [if_pos z] at h7; omega
    refine zR_un (x := x) (zR_map (l1 (k + 1) (x :: P) D ⟨hk, by rw [List.length_cons]; omega, by rw [List.length_cons]; omega⟩ ?_) (Nat.le_refl _) (fun R g => gn_o hB hk3 e (by omega) g) (fun _ g => g) (fun R j D' _ _ _ g => g)) hp (fun R j D' g => eo_7 h7 g)
    rintro ⟨-, z | z⟩
    · have z : 40 ≤ x := z
      omega
    · have z : 1 ≤ rkF x ∧ rkF x ≤ 3 := z
      omega
  unfold onB
  by_cases t38 : tk k = 38
  · rw [if_pos t38]
    by_cases q : 9999 < nu k
    · rw [if_pos q]
      exact zR_F hf.1 (by decide) (gn_f1 hB hk3 (by decide) (bg_big t38 q))
    · rw [if_neg q]
      have hk := lt_tk h39 hf.1 t38 (by decide)
      have := hnu k
      exact ⟨hk, fun z => absurd rfl z, fun _ => ⟨Nat.lt_succ_self _, trivial, [(0, nu k)], by show 1 + k ≤ k + 1; omega, mPv_num (by omega) (by omega), fun R g => gn_e1 hB hk3 (bg_num t38 q) g⟩⟩
  rw [if_neg t38]
  by_cases t33 : tk k = 33
  · rw [if_pos t33]
    have e : bgS tk nu so (k, P, o, D) = opS 40 (k, P, o, D) := bg_op (Or.inl ⟨t33, rfl⟩)
    by_cases q : ok = 0
    · rw [if_pos q]
      exact zR_F hf.1 (by decide) (gn_o8 hB hk3 e (h0 q))
    · rw [if_neg q]
      obtain ⟨⟨o8, m4⟩, l1, l2, l3⟩ := hl q
      have hk := lt_tk h39 hf.1 t33 (by decide)
      have hB2 : ∀ j D', j ≤ n → D'.length + (k + 1) ≤ j + D.length → inB (j, 40 :: P, o + 1, D') := fun j D' a b => fits_B (n := n) (m := m + 6) ⟨a, by rw [List.length_cons] at *; omega, by rw [List.length_cons]; omega⟩ (by omega) (by omega)
      refine zR_map (zR_exp (l2 (k + 1) (40 :: P) D ⟨hk, by rw [List.length_cons]; omega, by rw [List.length_cons]; omega⟩ (Or.inr (by show rkF 40 ≤ 4; decide)) (by show (40 : Int) ≠ 41; decide) ?_) (Nat.le_refl _) h39 (by decide) (fun R j D' _ a b ht g => gn_cl (t := 34) (Or.inl ⟨rfl, rfl, rfl⟩) (hB2 j D' (by omega) b) (by omega) ht g) (fun j D' hx a b ht => gn_ncl (Or.inl ⟨rfl, ht⟩) (hB2 j D' a b) (by omega) hx.2.1 hx.2.2 hx.1.2.1 hx.1.2.2)) (Nat.le_succ _) (fun R g => gn_o hB hk3 e (by omega) g) (fun _ g => g) (fun R j D' _ _ _ g => g)
      rintro ⟨z, -⟩
      rw [opN_ge (by decide)] at z
      exact absurd z (by decide)
  rw [if_neg t33]
  by_cases t30 : tk k = 30
  · rw [if_pos t30]
    have e : bgS tk nu so (k, P, o, D) = opS 5 (k, P, o, D) := bg_op (Or.inr (Or.inl ⟨t30, rfl⟩))
    by_cases q : ok = 0
    · rw [if_pos q]
      exact zR_F hf.1 (by decide) (gn_o8 hB hk3 e (h0 q))
    · rw [if_neg q]
      exact U 5 41 0 (by decide) q (lt_tk h39 hf.1 t30 (by decide)) e (fun E f h => mPv_neg h)
  rw [if_neg t30]
  by_cases t11 : tk k = 11
  · rw [if_pos t11]
    have e : bgS tk nu so (k, P, o, D) = opS 2 (k, P, o, D) := bg_op (Or.inr (Or.inr (Or.inr (Or.inl ⟨t11, rfl⟩))))
    by_cases q : ok = 0
    · rw [if_pos q]
      exact zR_F hf.1 (by decide) (gn_o8 hB hk3 e (h0 q))
    · rw [if_neg q]
      exact U 2 11 1 (by decide) q (lt_tk h39 hf.1 t11 (by decide)) e (fun E f h => mPv_any h)
  rw [if_neg t11]
  by_cases t9 : tk k = 9
  · rw [if_pos t9]
    have e : bgS tk nu so (k, P, o, D) = opS 41 (k, P, o, D) := bg_op (Or.inr (Or.inr (Or.inl ⟨t9, rfl⟩)))
    by_cases q : ok = 0
    · rw [if_pos q]
      exact zR_F hf.1 (by decide) (gn_o8 hB hk3 e (h0 q))
    · rw [if_neg q]
      obtain ⟨⟨o8, m4⟩, l1, l2, l3⟩ := hl q
      exact zR_map (sim_ov ⟨ho.1, o8⟩ m4 hn h39 l1 hf0 (lt_tk h39 hf.1 t9 (by decide))) (Nat.le_refl _) (fun R g => gn_o hB hk3 e (by omega) g) (fun _ g => g) (fun R j D' _ _ _ g => g)
  rw [if_neg t9]
  by_cases t12 : tk k = 12
  · rw [if_pos t12]
    have e : bgS tk nu so (k, P, o, D) = opS 42 (k, P, o, D) := bg_op (Or.inr (Or.inr (Or.inr (Or.inr (Or.inl ⟨t12, rfl⟩)))))
    by_cases q : ok = 0
    · rw [if_pos q]
      exact zR_F hf.1 (by decide) (gn_o8 hB hk3 e (h0 q))
    · rw [if_neg q]
      obtain ⟨⟨o8, m4⟩, l1, l2, l3⟩ := hl q
      exact zR_map (sim_if ⟨ho.1, o8⟩ m4 hn h39 l2 l3 hf0 (lt_tk h39 hf.1 t12 (by decide))) (Nat.le_refl _) (fun R g => gn_o hB hk3 e (by omega) g) (fun _ g => g) (fun R j D' _ _ _ g => g)
  rw [if_neg t12]
  by_cases hnm : nmI (tk k) < 0
  · rw [if_pos hnm]
    exact zR_F hf.1 (by decide) (gn_f1 hB hk3 (by decide) (bg_bad hnm t38 t33 t30 t9 t11 t12 h18))
  · rw [if_neg hnm]
    have hnm : 0 ≤ nmI (tk k) := by omega
    by_cases hi : isOfP (nmI (tk k)) so
    · rw [if_pos hi]
      have hk := lt_tk h39 hf.1 rfl (nm_ne hnm).2
      exact ⟨hk, fun z => absurd rfl z, fun _ => ⟨Nat.lt_succ_self _, trivial, [(1, nmI (tk k))], by show 1 + k ≤ k + 1; omega, mPv_name hnm, fun R g => gn_e1 hB hk3 (bg_name hnm hi) g⟩⟩
    · rw [if_neg hi]
      exact zR_F hf.1 (by decide) (gn_f1 hB hk3 (by decide) (bg_noname hnm hi))
def zL (tk nu : Nat → Int) (so : Int) (n : Nat) (o : Int) (m : Nat) (l : lQ) : Prop := zO tk nu so n o m l.1 ∧ zS tk nu so n o m l.2.1 ∧ zA tk nu so n o m l.2.2.1 ∧ zI tk nu so n o m l.2.2.2
theorem sim_mk {m : Nat} {ok : Int} {low : lQ} (ho : 0 ≤ o ∧ o ≤ 8) (hm : m ≤ 48) (hn : n ≤ 300) (h39 : tk n = 39) (hnu : ∀ k, 0 ≤ nu k) (h0 : ok = 0 → o = 8) (hl : ok ≠ 0 → (o < 8 ∧ m ≤ 42) ∧ zL tk nu so n (o + 1) (m + 6) low) : zL tk nu so n o m (mkQ tk nu so ok low) := by
  have h1 := sim_on (so := so) ho hm hn h39 hnu h0 (low := low) (fun q => ⟨(hl q).1, (hl q).2.1, (hl q).2.2.1, (hl q).2.2.2.2⟩)
  have h2 := sim_sum ho hm hn h39 (sim_pr ho hm hn h39 h1)
  have h3 := sim_ak (low := low) ho hm hn h39 h0 (fun q => ⟨by have := (hl q).1; omega, (hl q).2.2.2.1⟩) h2
  exact ⟨h1, h2, h3, sim_ei hn h39 (sim_bo hn h39 h3)⟩
theorem sim_lev (hn : n ≤ 300) (h39 : tk n = 39) (hnu : ∀ k, 0 ≤ nu k) : ∀ v : Nat, v ≤ 8 → zL tk nu so n (8 - (v : Int)) (6 * (8 - v)) (lev tk nu so v) := by
  intro v
  induction v with
  | zero => intro _; exact sim_mk (by omega) (by omega) hn h39 hnu (fun _ => rfl) (fun q => absurd rfl q)
  | succ v ih =>
    intro hv
    have h := ih (by omega)
    refine sim_mk (by omega) (by omega) hn h39 hnu (fun q => absurd q (by decide)) (fun _ => ⟨by omega, ?_⟩)
    rw [show 8 - ((v + 1 : Nat) : Int) + 1 = 8 - (v : Int) by omega, show 6 * (8 - (v + 1)) + 6 = 6 * (8 - v) by omega]
    exact h
/-- the model's reader of a sum does what the levels say -/
theorem sim_sum0 (hn : n ≤ 300) (h39 : tk n = 39) (hnu : ∀ k, 0 ≤ nu k) (hk : k ≤ n) (hD : D.length + (n - k) ≤ 300) {r : rE} (hr : (lev tk nu so 8).2.1 k = r) : r.2.1 ≤ n ∧ ∃ f s', rnS tk nu so f 0 (k, [], 0, D) = some (r.1, s') ∧ s'.1 = r.2.1 ∧ (r.1 = 0 → k < r.2.1 ∧ ∃ E, E.length + k ≤ r.2.1 ∧ mPv E r.2.2.1 ∧ s' = (r.2.1, [], 0, E ++ D)) := by
  have h := (sim_lev (so := so) hn h39 hnu 8 (Nat.le_refl _)).2.1 k [] D ⟨hk, by simpa using hD, by show 0 ≤ _; omega⟩ (Or.inl rfl) (by decide) (by rintro ⟨z, -⟩; exact absurd z (by decide))
  rw [hr] at h
  obtain ⟨h1, h2, h3⟩ := h
  refine ⟨h1, ?_⟩
  by_cases q : r.1 = 0
  · obtain ⟨a, ⟨⟨-, t31, t32⟩, t29, t30⟩, E, b, c, d⟩ := h3 q
    clear h3
    have g := d (0, r.2.1, E ++ D) (gn_fin (fits_B (n := n) (m := 0) ⟨h1, by rw [List.length_append]; show 0 + _ + _ ≤ 300; omega, Nat.le_refl _⟩ (by omega) (by omega)) (by omega) t29 t30 t31 t32)
    obtain ⟨f, s', -, g1, g2, g3⟩ := g
    exact ⟨f, s', by rw [q]; exact g1, g2, fun _ => ⟨a, E, b, c, g3 rfl⟩⟩
  · obtain ⟨f, s', -, g1, g2, g3⟩ := h2 q
    exact ⟨f, s', g1, g2, fun z => absurd z q⟩
end SIM3
