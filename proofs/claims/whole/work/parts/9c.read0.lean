/-! ===== the model's reader over tokens: what waits, what is written ===== -/
/-- the state of the model's reader: texts T, pile P, word w -/
def pt (σ : gS) (T P : Nat → Int) (w : Int) : gS := sW (sRw (sRw σ 387 T) 389 P) w
theorem sRw_comm (σ : gS) (f g : Nat → Int) {a b : Nat} (h : a ≠ b) : sRw (sRw σ a f) b g = sRw (sRw σ b g) a f := by
  unfold sRw
  refine Prod.ext rfl (Prod.ext ?_ rfl)
  show va_up (va_up σ.2.1 a f) b g = va_up (va_up σ.2.1 b g) a f
  funext i
  by_cases h1 : i = b
  · rw [h1, va_up_self, va_up_ne _ _ (fun e => h e.symm), va_up_self]
  · rw [va_up_ne _ _ h1]
    by_cases h2 : i = a
    · rw [h2, va_up_self, va_up_self]
    · rw [va_up_ne _ _ h2, va_up_ne _ _ h2, va_up_ne _ _ h1]
theorem sR_pt9 (σ : gS) (T P : Nat → Int) (w : Int) (i : Nat) (v : Int) : sR (pt σ T P w) 389 i v = pt σ T (va_up P i v) w := by
  show sW (sR (sRw (sRw σ 387 T) 389 P) 389 i v) w = _
  rw [sR_sRw]
  rfl
theorem sR_pt7 (σ : gS) (T P : Nat → Int) (w : Int) (i : Nat) (v : Int) : sR (pt σ T P w) 387 i v = pt σ (va_up T i v) P w := by
  show sW (sR (sRw (sRw σ 387 T) 389 P) 387 i v) w = _
  rw [sRw_comm σ T P (by decide), sR_sRw, sRw_comm σ P _ (by decide)]
  rfl
theorem pt_st389 {Y : gY} {M : gM} {d : Nat} {Q : Option Value → gS → Prop} {pc : Nat} {L : List (Option Value)} {S : List Value} {σ : gS} {A F T P : Nat → Int} {w : Int} {z x : Int} {k : Nat} (hd : decode M.2.1 pc = .ok (.iastore, 1)) (h0 : 0 ≤ z) (h1 : z < 160) (hk : z.toNat = k) (kk : sE Y M d Q (pc + 1) L S (ms (pt σ T (va_up P k x) w) A F)) : sE Y M d Q pc L (.int (iZ x) :: .int (iZ z) :: .ref 389 :: S) (ms (pt σ T P w) A F) :=
  mo_ist (n := 160) hd rfl (by decide) h0 h1 (by decide) (by rw [sR_pt9, hk]; exact kk)
theorem pt_st387 {Y : gY} {M : gM} {d : Nat} {Q : Option Value → gS → Prop} {pc : Nat} {L : List (Option Value)} {S : List Value} {σ : gS} {A F T P : Nat → Int} {w : Int} {z x : Int} {k : Nat} (hd : decode M.2.1 pc = .ok (.iastore, 1)) (h0 : 0 ≤ z) (h1 : z < 2724) (hk : z.toNat = k) (kk : sE Y M d Q (pc + 1) L S (ms (pt σ (va_up T k x) P w) A F)) : sE Y M d Q pc L (.int (iZ x) :: .int (iZ z) :: .ref 387 :: S) (ms (pt σ T P w) A F) :=
  mo_ist (n := 2724) hd rfl (by decide) h0 h1 (by decide) (by rw [sR_pt7, hk]; exact kk)
/-- how closely what waits binds -/
def rkF (n : Int) : Int := if 40 ≤ n then 0 else if n = 22 then 1 else if n = 21 then 2 else if n = 20 then 3 else if 10 ≤ n then 4 else if n = 5 ∨ n = 2 ∨ n = 4 then 7 else if 8 ≤ n then 6 else 5
theorem rkF_ran (n : Int) : 0 ≤ rkF n ∧ rkF n ≤ 7 := by
  unfold rkF
  repeat' split
  all_goals omega
/-- the pile settled down to what binds less than l: pile, opens, code (the last of it first) -/
def sP (l : Int) : List Int → Int → List (Int × Int) → List Int × Int × List (Int × Int)
  | [], o, D => ([], o, D)
  | x :: P, o, D => if l ≤ rkF x then sP l P (if rkF x = 7 ∨ x = 20 then o - 1 else o) ((x, 0) :: D) else (x :: P, o, D)
/-- what is open at last; none: -1 -/
def opN : List Int → Int
  | [] => -1
  | x :: P => if 40 ≤ x then x else opN P
def opA : List Int → Int
  | [] => -1
  | x :: P => if 40 ≤ x then ((P.length : Nat) : Int) else opA P
/-- whether what is asked at last has been compared -/
def cmP : List Int → Int
  | [] => 0
  | x :: P => if 4 < rkF x then cmP P else if rkF x = 4 then 1 else 0
def askA (P : List Int) : Prop := opN P = 42 ∧ (40 ≤ P.headD 0 ∨ (1 ≤ rkF (P.headD 0) ∧ rkF (P.headD 0) ≤ 3))
def nmI (t : Int) : Int := if t = 7 then 0 else if t = 19 then 1 else if t = 20 then 2 else if t = 3 then 3 else if t = 21 then 4 else if t = 22 then 5 else if t = 23 then 6 else if t = 24 then 7 else -1
def cpI (t : Int) : Int := if t = 25 then 10 else if t = 36 then 11 else if t = 26 then 12 else if t = 37 then 13 else if t = 27 then 14 else if t = 28 then 15 else -1
def btI (t : Int) (P : List Int) : Int := if t = 29 then 6 else if t = 30 then 7 else if t = 31 then 8 else if t = 32 then 9 else if ¬ opN P = 42 then -1 else if cmP P = 0 then cpI t else if t = 17 then 21 else if t = 16 then 22 else -1
def ptI (t : Int) (P : List Int) (op : Int) : Int := if op = 40 then (if t = 34 then 0 else -1) else if op = 42 then (if t = 13 ∧ cmP P = 1 then 43 else -1) else if op = 43 then (if t = 14 then 44 else -1) else if op = 44 then (if t = 15 then 0 else -1) else -1
/-- token, pile, opens, code -/
abbrev pS : Type := Nat × List Int × Int × List (Int × Int)
/-- behind a whole one: what comes of it, whether it is whole, the state -/
def eoQ (t : Int) (k : Nat) (q : List Int × Int × List (Int × Int)) : Int × Int × pS := if q.1.headD 0 = 41 then (if t = 10 then (0, 0, (k + 1, 4 :: q.1.tail, q.2.1, q.2.2)) else (1, 1, (k, q.1, q.2.1, q.2.2))) else (0, 1, (k, q.1, q.2.1, q.2.2))
def eoS (tk : Nat → Int) (s : pS) : Int × Int × pS := eoQ (tk s.1) s.1 (sP 7 s.2.1 s.2.2.1 s.2.2.2)
def opS (x : Int) (s : pS) : Int × Int × pS := if s.2.2.1 = 8 then (3, 0, s) else (0, 0, (s.1 + 1, x :: s.2.1, s.2.2.1 + 1, s.2.2.2))
def isOfP (n so : Int) : Prop := n < 5 ∨ (n = 7 ∧ so = 1) ∨ (¬ n = 7 ∧ so = 0)
noncomputable def bgS (tk nu : Nat → Int) (so : Int) (s : pS) : Int × Int × pS :=
  @ite _ (tk s.1 = 38 ∧ 9999 < nu s.1) (Classical.propDecidable _) (2, 0, s)
    (@ite _ (0 ≤ nmI (tk s.1) ∧ ¬ isOfP (nmI (tk s.1)) so) (Classical.propDecidable _) (5, 0, s)
      (if tk s.1 = 38 ∨ 0 ≤ nmI (tk s.1) then eoS tk (s.1 + 1, s.2.1, s.2.2.1, (if tk s.1 = 38 then (0, nu s.1) else (1, nmI (tk s.1))) :: s.2.2.2)
      else if tk s.1 = 33 then opS 40 s else if tk s.1 = 30 then opS 5 s else if tk s.1 = 9 then opS 41 s else if tk s.1 = 11 then opS 2 s else if tk s.1 = 12 then opS 42 s
      else @ite _ (tk s.1 = 18 ∧ askA s.2.1) (Classical.propDecidable _) (opS 20 s) (1, 0, s)))
def bhS (tk : Nat → Int) (s : pS) : Int × Int × pS :=
  if 0 ≤ btI (tk s.1) s.2.1 then (0, 0, (s.1 + 1, btI (tk s.1) s.2.1 :: (sP (if rkF (btI (tk s.1) s.2.1) = 4 then 5 else rkF (btI (tk s.1) s.2.1)) s.2.1 s.2.2.1 s.2.2.2).1, (sP (if rkF (btI (tk s.1) s.2.1) = 4 then 5 else rkF (btI (tk s.1) s.2.1)) s.2.1 s.2.2.1 s.2.2.2).2))
  else if ptI (tk s.1) s.2.1 (opN s.2.1) < 0 then (-1, 1, s)
  else if ptI (tk s.1) s.2.1 (opN s.2.1) = 0 then eoS tk (s.1 + 1, (sP 1 s.2.1 s.2.2.1 s.2.2.2).1.tail, (sP 1 s.2.1 s.2.2.1 s.2.2.2).2.1 - 1, if opN s.2.1 = 44 then (3, 0) :: (sP 1 s.2.1 s.2.2.1 s.2.2.2).2.2 else (sP 1 s.2.1 s.2.2.1 s.2.2.2).2.2)
  else (0, 0, (s.1 + 1, ptI (tk s.1) s.2.1 (opN s.2.1) :: (sP 1 s.2.1 s.2.2.1 s.2.2.2).1.tail, (sP 1 s.2.1 s.2.2.1 s.2.2.2).2))
/-- within what the rows hold -/
def inB (s : pS) : Prop := s.2.1.length ≤ 150 ∧ s.2.1.length + s.2.2.2.length ≤ 300 ∧ -300 ≤ s.2.2.1 ∧ s.2.2.1 ≤ 300
/-- the reader goes on: what comes of it in the end -/
noncomputable def rnS (tk nu : Nat → Int) (so : Int) : Nat → Int → pS → Option (Int × pS)
  | 0, _, _ => none
  | f + 1, wh, s => @ite _ (inB s) (Classical.propDecidable _)
      (if 0 < (if wh = 0 then bgS tk nu so s else bhS tk s).1 then some ((if wh = 0 then bgS tk nu so s else bhS tk s).1, (if wh = 0 then bgS tk nu so s else bhS tk s).2.2)
      else if (if wh = 0 then bgS tk nu so s else bhS tk s).1 = 0 then rnS tk nu so f (if wh = 0 then bgS tk nu so s else bhS tk s).2.1 (if wh = 0 then bgS tk nu so s else bhS tk s).2.2
      else if 0 ≤ opN s.2.1 then some (1, s) else some (0, (s.1, sP 1 s.2.1 s.2.2.1 s.2.2.2))) none
theorem sP_len (l : Int) : ∀ (P : List Int) (o : Int) (D : List (Int × Int)), (sP l P o D).1.length + (sP l P o D).2.2.length = P.length + D.length ∧ (sP l P o D).1.length ≤ P.length := by
  intro P
  induction P with
  | nil => intro o D; exact ⟨rfl, Nat.le_refl _⟩
  | cons x P ih =>
    intro o D
    rw [sP]
    split
    · have := ih (if rkF x = 7 ∨ x = 20 then o - 1 else o) ((x, 0) :: D)
      rw [List.length_cons] at this
      rw [List.length_cons]
      omega
    · exact ⟨rfl, Nat.le_refl _⟩
/-- code in the texts' row -/
def dR (T : Nat → Int) (c : Nat) : List (Int × Int) → Prop
  | [] => True
  | x :: D => (T (c + 2 * D.length) = x.1 ∧ T (c + 2 * D.length + 1) = x.2) ∧ dR T c D
theorem dR_up {T : Nat → Int} {c : Nat} : ∀ {D : List (Int × Int)} {i : Nat} (v : Int), dR T c D → (i < c ∨ c + 2 * D.length ≤ i) → dR (va_up T i v) c D := by
  intro D
  induction D with
  | nil => intro i v _ _; trivial
  | cons x D ih =>
    intro i v h hi
    rw [List.length_cons] at hi
    exact ⟨⟨by rw [va_up_ne _ _ (by omega)]; exact h.1.1, by rw [va_up_ne _ _ (by omega)]; exact h.1.2⟩, ih v h.2 (by omega)⟩
theorem dR_emit {T : Nat → Int} {c : Nat} {D : List (Int × Int)} (h : dR T c D) (x : Int × Int) : dR (va_up (va_up T (c + 2 * D.length) x.1) (c + 2 * D.length + 1) x.2) c (x :: D) := by
  refine ⟨⟨?_, va_up_self _ _ _⟩, dR_up _ (dR_up _ h (Or.inr (Nat.le_refl _))) (by omega)⟩
  rw [va_up_ne _ _ (by omega), va_up_self]
/-- token k is at hand -/
def ldR (b : Nat → Int) (n : Nat) (F : Nat → Int) (w : Int) (k : Nat) : Prop := F 4 = (n : Int) ∧ F 7 = ((tkP b n (k + 1) : Nat) : Int) ∧ F 8 = ((tkS b n k : Nat) : Int) ∧ tokR (F 9) (F 10) w (tkA b n k) (nuA b n k)
/-- the model's reader is as its pure state says -/
def psR (b : Nat → Int) (n tx : Nat) (so : Int) (F : Nat → Int) (w : Int) (T Pf : Nat → Int) (s : pS) : Prop :=
  ldR b n F w s.1 ∧ F 12 = ((681 * tx : Nat) : Int) ∧ F 13 = ((s.2.2.2.length : Nat) : Int) ∧ F 14 = so ∧ F 16 = ((s.2.1.length : Nat) : Int) ∧ F 17 = s.2.2.1 ∧ stk Pf s.2.1 ∧ dR T (681 * tx + 73) s.2.2.2 ∧ ∀ x ∈ s.2.1, 0 ≤ x ∧ x ≤ 44
/-- other fields, other texts stay -/
def kpM (F F1 : Nat → Int) : Prop := ∀ k, k ≠ 7 → k ≠ 8 → k ≠ 9 → k ≠ 10 → k ≠ 13 → k ≠ 16 → k ≠ 17 → k ≠ 18 → F1 k = F k
def kpX (tx : Nat) (T T1 : Nat → Int) : Prop := ∀ i, i < 681 * tx + 73 ∨ 681 * tx + 681 ≤ i → T1 i = T i
theorem kpM_rf (F : Nat → Int) : kpM F F := fun _ _ _ _ _ _ _ _ _ => rfl
theorem kpX_rf (tx : Nat) (T : Nat → Int) : kpX tx T T := fun _ _ => rfl
theorem kpM_tr {F G H : Nat → Int} (h : kpM F G) (h2 : kpM G H) : kpM F H := fun k a b c e f g i j => (h2 k a b c e f g i j).trans (h k a b c e f g i j)
theorem kpX_tr {tx : Nat} {T U V : Nat → Int} (h : kpX tx T U) (h2 : kpX tx U V) : kpX tx T V := fun i hi => (h2 i hi).trans (h i hi)
theorem kpM_T {F G : Nat → Int} (h : kpT F G) : kpM F G := fun k a b c e _ _ _ _ => h k a b c e
theorem kpM_up {F G : Nat → Int} (h : kpM F G) {j : Nat} (hj : j = 13 ∨ j = 16 ∨ j = 17 ∨ j = 18) (v : Int) : kpM F (va_up G j v) := fun k a b c e f g i j => by rw [va_up_ne _ _ (by omega)]; exact h k a b c e f g i j
theorem kpX_up {tx : Nat} {T U : Nat → Int} (h : kpX tx T U) {j : Nat} (hj : 681 * tx + 73 ≤ j ∧ j < 681 * tx + 681) (v : Int) : kpX tx T (va_up U j v) := fun i hi => by rw [va_up_ne _ _ (by omega)]; exact h i hi
/-- the model's reader behind a step: the answer r, the pure state s (wh: whole) -/
def mAns (b : Nat → Int) (n tx : Nat) (so : Int) (σ : gS) (A F T : Nat → Int) (x : Int × Int × pS) (r : Option Value) (σ' : gS) : Prop := r = some (.int (iZ x.1)) ∧ ∃ w1 T1 P1 F1, σ' = ms (pt σ T1 P1 w1) A F1 ∧ psR b n tx so F1 w1 T1 P1 x.2.2 ∧ F1 18 = x.2.1 ∧ kpM F F1 ∧ kpX tx T T1
/-- the same without an answer or whole -/
def mDon (b : Nat → Int) (n tx : Nat) (so : Int) (σ : gS) (A F T : Nat → Int) (s : pS) (σ' : gS) : Prop := ∃ w1 T1 P1 F1, σ' = ms (pt σ T1 P1 w1) A F1 ∧ psR b n tx so F1 w1 T1 P1 s ∧ F1 18 = F 18 ∧ kpM F F1 ∧ kpX tx T T1
