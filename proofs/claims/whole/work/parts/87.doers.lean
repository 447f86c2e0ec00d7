/-! ===== doers of the class ===== -/
/-- the first of the first k of which e is 1, by its value; none: -1 -/
def lwV (v e : Nat → Int) : Nat → Int
  | 0 => -1
  | k + 1 => if e k = 1 ∧ lwV v e k = -1 then v k else lwV v e k
def d2V (k : Nat) : Int := 10 + 10 * ((k / 8 : Nat) : Int) + ((k % 8 : Nat) : Int)
theorem lwV_0 {v e : Nat → Int} {k : Nat} (h : e k = 0) : lwV v e (k + 1) = lwV v e k := by rw [lwV, if_neg (fun z => by have := z.1; omega)]
theorem lwV_n {v e : Nat → Int} {k : Nat} (h : ¬ lwV v e k = -1) : lwV v e (k + 1) = lwV v e k := by rw [lwV, if_neg (fun z => h z.2)]
theorem lwV_y {v e : Nat → Int} {k : Nat} (h : e k = 1) (h2 : lwV v e k = -1) : lwV v e (k + 1) = v k := by rw [lwV, if_pos ⟨h, h2⟩]
theorem lwV_ran {v e : Nat → Int} {n : Nat} (h : ∀ k, k < n → 0 ≤ v k ∧ v k ≤ 1000) : ∀ k, k ≤ n → -1 ≤ lwV v e k ∧ lwV v e k ≤ 1000 := by
  intro k
  induction k with
  | zero => intro _; exact ⟨by show (-1 : Int) ≤ -1; omega, by show (-1 : Int) ≤ 1000; omega⟩
  | succ k ih =>
    intro hk
    have a := ih (by omega)
    have b := h k (by omega)
    rw [lwV]
    split
    · omega
    · exact a
theorem sCnt_1 {e : Nat → Int} {k : Nat} (h : e k = 1) : sCnt e (k + 1) = sCnt e k + 1 := by rw [sCnt, h]
theorem sCnt_0 {e : Nat → Int} {k : Nat} (h : e k = 0) : sCnt e (k + 1) = sCnt e k := by rw [sCnt, h, Int.add_zero]
theorem sCnt_z {e : Nat → Int} {a : Nat} : ∀ n, (∀ x, a ≤ x → x < a + n → e x = 0) → sCnt e (a + n) = sCnt e a := by
  intro n
  induction n with
  | zero => intro _; rfl
  | succ n ih => intro h; rw [← Nat.add_assoc, sCnt_0 (h _ (by omega) (by omega))]; exact ih (fun x y z => h x y (by omega))
theorem lwV_z {v e : Nat → Int} {a : Nat} : ∀ n, (∀ x, a ≤ x → x < a + n → e x = 0) → lwV v e (a + n) = lwV v e a := by
  intro n
  induction n with
  | zero => intro _; rfl
  | succ n ih => intro h; rw [← Nat.add_assoc, lwV_0 (h _ (by omega) (by omega))]; exact ih (fun x y z => h x y (by omega))
theorem dnB_lo (W : wF) (I A : Nat → Int) {k : Nat} (h : k < 8) : dnB W I A k = doneB W I A 1 k := by unfold dnB; rw [if_pos h]
theorem dnB_hi (W : wF) (I A : Nat → Int) (k : Nat) : dnB W I A (8 + k) = doneB W I A 2 k := by unfold dnB; rw [if_neg (by omega), show 8 + k - 8 = k by omega]
theorem dVal_lo {k : Nat} (h : k < 8) : dVal k = (k : Int) := by unfold dVal; rw [if_pos h]
theorem dVal_hi (k : Nat) : dVal (8 + k) = d2V k := by unfold dVal d2V; rw [if_neg (by omega), show 8 + k - 8 = k by omega]
theorem dCnt_lo (W : wF) (I A : Nat → Int) : ∀ k, k ≤ 8 → dCnt W I A k = sCnt (doneB W I A 1) k := by
  intro k
  induction k with
  | zero => intro _; rfl
  | succ k ih => intro h; rw [dCnt, sCnt, ih (by omega), dnB_lo W I A (by omega)]
theorem dCnt_hi (W : wF) (I A : Nat → Int) : ∀ k, dCnt W I A (8 + k) = sCnt (doneB W I A 1) 8 + sCnt (doneB W I A 2) k := by
  intro k
  induction k with
  | zero => rw [Nat.add_zero, dCnt_lo W I A 8 (by omega), show sCnt (doneB W I A 2) 0 = 0 from rfl, Int.add_zero]
  | succ k ih =>
    rw [← Nat.add_assoc, dCnt, ih, dnB_hi]
    show _ = _ + (sCnt (doneB W I A 2) k + doneB W I A 2 k)
    rw [Int.add_assoc]
theorem dFnd_lo (W : wF) (I A : Nat → Int) : ∀ k, k ≤ 8 → dFnd W I A k = lwV (fun k : Nat => (k : Int)) (doneB W I A 1) k := by
  intro k
  induction k with
  | zero => intro _; rfl
  | succ k ih => intro h; rw [dFnd, lwV, ih (by omega), dnB_lo W I A (by omega), dVal_lo (by omega)]
theorem dFnd_hi (W : wF) (I A : Nat → Int) : ∀ k, dFnd W I A (8 + k) = if lwV (fun k : Nat => (k : Int)) (doneB W I A 1) 8 = -1 then lwV d2V (doneB W I A 2) k else lwV (fun k : Nat => (k : Int)) (doneB W I A 1) 8 := by
  intro k
  have e8 := dFnd_lo W I A 8 (by omega)
  generalize lwV (fun k : Nat => (k : Int)) (doneB W I A 1) 8 = X at *
  induction k with
  | zero =>
    rw [Nat.add_zero, e8]
    by_cases h : X = -1
    · rw [if_pos h, h]; rfl
    · rw [if_neg h]
  | succ k ih =>
    rw [← Nat.add_assoc, dFnd, ih, dnB_hi, dVal_hi]
    by_cases h : X = -1
    · rw [if_pos h, if_pos h]; rfl
    · rw [if_neg h, if_neg h, if_neg (fun z => h z.2)]
theorem doneB_1 (W : wF) (I A : Nat → Int) {h : Nat} (hh : h < 8) : doneB W I A 1 h = if imK I A 8 (11 + h) + 1 ≤ 99 then kE (rA W (inc (imK I A 8) h)) A else 0 := by
  unfold doneB
  have e := mDo_hi W 0 (r := 0) (c := 0) hh (by decide) (imK I A 8)
  rw [show h * 2 ^ (3 * 0) + 0 = h by omega] at e
  rw [e]
  by_cases k : imK I A 8 (11 + h) + 1 ≤ 99
  · rw [if_pos k, if_pos k]; exact if_neg (show ¬ (1 : Int) = 0 by decide)
  · rw [if_neg k, if_neg k]; exact if_pos (show (0 : Int) = 0 from rfl)
theorem doneB_2 (W : wF) (I A : Nat → Int) {h j : Nat} (hh : h < 8) (hj : j < 8) : doneB W I A 2 (8 * h + j) = if imK I A 8 (11 + h) + 1 ≤ 99 then (if rA W (inc (imK I A 8) h) (11 + j) + 1 ≤ 99 then kE (rA W (inc (rA W (inc (imK I A 8) h)) j)) A else 0) else 0 := by
  unfold doneB
  have e := mDo_hi W 0 (r := 1) (c := j) hh (by simpa using hj) (imK I A 8)
  rw [show h * 2 ^ (3 * 1) + j = 8 * h + j by omega] at e
  have e2 := mDo_hi W 0 (r := 0) (c := 0) hj (by decide) (rA W (inc (imK I A 8) h))
  rw [show j * 2 ^ (3 * 0) + 0 = j by omega] at e2
  rw [e]
  by_cases k : imK I A 8 (11 + h) + 1 ≤ 99
  · rw [if_pos k, if_pos k, e2]
    by_cases k2 : rA W (inc (imK I A 8) h) (11 + j) + 1 ≤ 99
    · rw [if_pos k2, if_pos k2]; exact if_neg (show ¬ (1 : Int) = 0 by decide)
    · rw [if_neg k2, if_neg k2]; exact if_pos (show (0 : Int) = 0 from rfl)
  · rw [if_neg k, if_neg k]; exact if_pos (show (0 : Int) = 0 from rfl)
theorem imK_in (I A : Nat → Int) {j : Nat} (hj : j < 8) : imK I A 8 (11 + j) = I (11 + j) := by unfold imK; rw [if_pos (by omega)]
theorem imK_out (I A : Nat → Int) {i : Nat} (hi : i < 11 ∨ 19 ≤ i) : imK I A 8 i = A i := by unfold imK; rw [if_neg (by omega)]
theorem imK_gd {c nt c2 nt2 : Int} {I A : Nat → Int} (gi : gd c2 nt2 I) (g : gd c nt A) (h : c2 ≤ c) : gd c nt (imK I A 8) := by
  have e : ∀ i, (i < 11 ∨ 19 ≤ i) → imK I A 8 i = A i := fun i hi => imK_out I A hi
  refine ⟨by rw [e 0 (by omega)]; exact g.1, fun p hp => by rw [e _ (by omega)]; exact g.2.1 p hp, fun j hj => by rw [imK_in I A hj]; exact gi.2.2.1 j hj, ?_, by rw [e 10 (by omega)]; exact g.2.2.2.2.1, by rw [e 5 (by omega)]; exact g.2.2.2.2.2.1, by rw [e 6 (by omega)]; exact g.2.2.2.2.2.2.1, by rw [e 7 (by omega)]; exact g.2.2.2.2.2.2.2.1, by rw [e 9 (by omega)]; exact g.2.2.2.2.2.2.2.2.1, by rw [e 2 (by omega)]; exact g.2.2.2.2.2.2.2.2.2⟩
  have s := gi.2.2.2.1
  have i0 := imK_in I A (j := 0) (by omega)
  have i1 := imK_in I A (j := 1) (by omega)
  have i2 := imK_in I A (j := 2) (by omega)
  have i3 := imK_in I A (j := 3) (by omega)
  have i4 := imK_in I A (j := 4) (by omega)
  have i5 := imK_in I A (j := 5) (by omega)
  have i6 := imK_in I A (j := 6) (by omega)
  have i7 := imK_in I A (j := 7) (by omega)
  rw [mSum8] at s ⊢
  simp only [Nat.reduceAdd] at i0 i1 i2 i3 i4 i5 i6 i7
  omega
theorem trS_rowK {on : Int} {σ : gS} {s : Nat} {A B f : Nat → Int} (h : trS on σ s A) (hf : ∀ j, j < 8 → f j = B (11 + j)) (h0 : A 0 ≤ 5) (h10 : ¬ on = 0 → A 10 ≤ 30) (e : ∀ i, (i < 11 ∨ 19 ≤ i) → B i = A i) : trS on (sRw σ (s + 1) f) s B := by
  have k1 : (sRw σ (s + 1) f).2.1 (s + 1) = f := va_up_self _ _ _
  have k2 : (sRw σ (s + 1) f).2.1 (s + 2) = σ.2.1 (s + 2) := va_up_ne _ _ (by omega)
  have k3 : (sRw σ (s + 1) f).2.1 (s + 3) = σ.2.1 (s + 3) := va_up_ne _ _ (by omega)
  unfold trS
  rw [k1, k2, k3]
  refine ⟨hf, fun p hp => ?_, ?_, h.2.2.2.1, fun q => ?_⟩
  · rw [e 0 (by omega)] at hp; rw [e _ (by omega)]; exact h.2.1 p hp
  · rw [e 0 (by omega), e 8 (by omega), e 7 (by omega), e 9 (by omega), e 5 (by omega), e 6 (by omega)]; exact h.2.2.1
  · rw [e 10 (by omega)]
    exact ⟨(h.2.2.2.2 q).1, fun i hi => by rw [e _ (by omega)]; exact (h.2.2.2.2 q).2 i hi⟩
theorem x_goOn0 {d h : Nat} (hd : 6 ≤ d) (hh : h < 8) (σ : gS) {W V : wF} {A I : Nat → Int} {c nt : Int} (hc : c ≤ 88000) (hn4 : nt ≤ 4) (ok : okR c nt A) (oi : okR c (I 1) I) (C : clR σ W V A I) (B : Nat → Int) (gB : gd 98000 4 B) (hB2 : B 2 = A 2) (tB : trS 0 σ 364 B) : sC mX6_goOn d [.ref 0, .int (iZ 0), .int (iZ (h : Int))] σ (fun r σ' => r = some (.int (iZ (if B (11 + h) + 1 ≤ 99 then 1 else 0))) ∧ chg (atS 369) σ σ' ∧ (B (11 + h) + 1 ≤ 99 → trS 0 σ' 369 (rA W (inc B h)))) := x_goOn (l := 0) hd (by omega) hh σ hc hn4 ok oi C B gB hB2 tB
theorem x_goOn1 {d h : Nat} (hd : 6 ≤ d) (hh : h < 8) (σ : gS) {W V : wF} {A I : Nat → Int} {c nt : Int} (hc : c ≤ 88000) (hn4 : nt ≤ 4) (ok : okR c nt A) (oi : okR c (I 1) I) (C : clR σ W V A I) (B : Nat → Int) (gB : gd 98000 4 B) (hB2 : B 2 = A 2) (tB : trS 0 σ 369 B) : sC mX6_goOn d [.ref 0, .int (iZ 1), .int (iZ (h : Int))] σ (fun r σ' => r = some (.int (iZ (if B (11 + h) + 1 ≤ 99 then 1 else 0))) ∧ chg (atS 374) σ σ' ∧ (B (11 + h) + 1 ≤ 99 → trS 0 σ' 374 (rA W (inc B h)))) := x_goOn (l := 1) hd (by omega) hh σ hc hn4 ok oi C B gB hB2 tB
theorem t_asKind {d s : Nat} (hs : kd s = 2) (hne : 2 ≠ s) (σ : gS) {on : Int} {A B : Nat → Int} {c nt c2 nt2 : Int} (hc : c ≤ 100000) (hc2 : c2 ≤ 100000) (gB : gd c nt B) (gA : gd c2 nt2 A) (tB : trS 0 σ s B) (tA : trS on σ 2 A) : sC mX2_isAsKindAs d [.ref s, .ref 2] σ (fun r σ' => r = some (.int (iZ (kE B A))) ∧ σ' = σ) := by
  have k := t_isAsKindAs (d := d) hs σ (o := 2) rfl hne (fun j hj => by rw [tB.1 j hj]; exact gd_in hc gB j hj) (fun j hj => by rw [show σ.2.1 (2 + 1) j = A (11 + j) from tA.1 j hj]; exact gd_in hc2 gA j hj)
  rw [kEE_kE (fun j hj => tB.1 j hj) (fun j hj => tA.1 j hj)] at k
  exact k
set_option maxHeartbeats 4000000 in
set_option maxRecDepth 100000 in
theorem lx_doers1 {d i : Nat} (hd : 8 ≤ d) (hi : i < 8) {u w0 l1 : Int} (hw0 : 0 ≤ w0 ∧ w0 ≤ 8) (σ : gS) {W V : wF} {A I : Nat → Int} {c nt : Int} (hc : c ≤ 88000) (hn4 : nt ≤ 4) (ok : okR c nt A) (oi : okR c (I 1) I) (C : clR σ W V A I) (hcan : (imK I A 8) (11 + i) + 1 ≤ 99) (kc : ∀ σ1 : gS, trS 0 σ1 364 (imK I A 8) → chg scrQ σ σ1 → sE g_tt mX6_doers d (fun r σ' => r = some (.int (iZ (if u = 0 then dCnt W I A 72 else dFnd W I A 72))) ∧ chg scrQ σ σ') 178 [some (.ref 0), some (.int (iZ u)), some (.int (iZ (w0 + sCnt (doneB W I A 2) (8 * i + 8)))), some (.int (iZ l1)), some (.int (iZ (lwV d2V (doneB W I A 2) (8 * i + 8)))), some (.int (iZ (i : Int))), some (.int (iZ ((8 : Nat) : Int)))] [] σ1) : ∀ (n : Nat) (j : Nat) (σ1 : gS), j ≤ 8 → trS 0 σ1 369 (rA W (inc (imK I A 8) i)) → trS 0 σ1 364 (imK I A 8) → chg scrQ σ σ1 → 8 - (j : Int) < (n : Int) → sE g_tt mX6_doers d (fun r σ' => r = some (.int (iZ (if u = 0 then dCnt W I A 72 else dFnd W I A 72))) ∧ chg scrQ σ σ') 109 [some (.ref 0), some (.int (iZ u)), some (.int (iZ (w0 + sCnt (doneB W I A 2) (8 * i + j)))), some (.int (iZ l1)), some (.int (iZ (lwV d2V (doneB W I A 2) (8 * i + j)))), some (.int (iZ (i : Int))), some (.int (iZ (j : Int)))] [] σ1 := by
  intro n
  induction n with
  | zero =>
    intro j σ1 hj t1 t0 s1 hn
    exact absurd hn (by omega)
  | succ n ih =>
    intro j σ1 hj t1 t0 s1 hn
    have g := ok_gd hc hn4 ok
    have g0 := g.1
    have a2 := ok_2 ok
    have gi := gd_mono oi.1 hc
    have gI : gd 98000 4 (imK I A 8) := gd_mono (imK_gd gi g (Int.le_refl _)) (by decide)
    have i2 : (imK I A 8) 2 = A 2 := imK_out I A (by omega)
    have rr : ∀ B, gd 98000 4 B → B 2 = A 2 → ∀ j, j < 8 → gd 80 4 (rA W (inc B j)) ∧ rA W (inc B j) 2 = A 2 := fun B gB e j hj => by
      have gU : gd 100000 4 (inc B j) := gd_mono (inc_gd gB hj) (by decide)
      have u2 : inc B j 2 = A 2 := by rw [inc_2, e]
      have ro := rA_ok (w0_of C) gU (by omega) (by omega)
      exact ⟨ro.1, by rw [ro.2.1, u2]⟩
    have r1 := rr (imK I A 8) gI i2 i (by omega)
    have r2 := rr (rA W (inc (imK I A 8) i)) (gd_mono r1.1 (by decide)) r1.2
    have r1 := And.intro r1.1 (And.intro r1.2 trivial)
    have C1 := clR_ch ok oi C s1
    have lr := lwV_ran (v := d2V) (e := (doneB W I A 2)) (n := 64) (fun k hk => by unfold d2V; omega) (8 * i + j) (by omega)
    have sr := sCnt_ran (e := (doneB W I A 2)) (fun k => doneB_01 W I A 2 k) (8 * i + j)
    refine q_iload dX6_doers_109 rfl ?_
    refine z_bipush dX6_doers_111 (by decide +kernel) ?_
    refine z_icmp_ge (tgt := 178) dX6_doers_113 (by decide) (by unfold inR at *; omega) (by unfold inR at *; omega) (fun c_1 => ?_) (fun c_1 => ?_)
    · rw [show j = 8 by omega]
      exact kc σ1 t0 s1
    · refine q_aload_n dX6_doers_116 rfl rfl ?_
      refine z_iconst dX6_doers_117 ?_
      refine q_iload dX6_doers_118 rfl ?_
      refine s_callV (ci := 6) (a := 0) (As := [.int (iZ 1), .int (iZ (j : Int))]) (S := []) dX6_doers_120 okX6_goOn mlX6_267 rfl (by omega) rfl (Nat.le_of_ble_eq_true rfl) (show kd 0 = 6 from rfl) (by decide) rfl (x_goOn1 (d := d - 1) (h := j) (by omega) (by omega) σ1 hc hn4 ok oi C1 (rA W (inc (imK I A 8) i)) (gd_mono r1.1 (by decide)) r1.2.1 t1) (fun v_ σ_ hq => ?_)
      obtain ⟨rfl, hc2, ht2⟩ := hq
      rename gS => σ2
      have s2 : chg scrQ σ1 σ2 := chg_mono hc2 (fun a q => atS_scr (by omega) q)
      have C2 := clR_ch ok oi C1 s2
      have t12 : trS 0 σ2 369 (rA W (inc (imK I A 8) i)) := trS_ch t1 hc2 (fun a x y => by unfold atS stkP; omega)
      have t02 : trS 0 σ2 364 (imK I A 8) := trS_ch t0 hc2 (fun a x y => by unfold atS stkP; omega)
      show sE g_tt _ _ _ 123 [some (.ref 0), some (.int (iZ u)), some (.int (iZ (w0 + sCnt (doneB W I A 2) (8 * i + j)))), some (.int (iZ l1)), some (.int (iZ (lwV d2V (doneB W I A 2) (8 * i + j)))), some (.int (iZ (i : Int))), some (.int (iZ (j : Int)))] [.int (iZ (if (rA W (inc (imK I A 8) i)) (11 + j) + 1 ≤ 99 then 1 else 0))] σ2
      refine z_if_eq (tgt := 172) dX6_doers_123 (by decide) inR_01 (fun c_2 => ?_) (fun c_2 => ?_)
      · have c_2 := if01_0 c_2
        refine z_iinc dX6_doers_172 rfl (by decide) ?_
        show sE g_tt _ _ _ 175 [some (.ref 0), some (.int (iZ u)), some (.int (iZ (w0 + sCnt (doneB W I A 2) (8 * i + j)))), some (.int (iZ l1)), some (.int (iZ (lwV d2V (doneB W I A 2) (8 * i + j)))), some (.int (iZ (i : Int))), some (.int (iZ ((j : Int) + 1)))] [] σ2
        refine q_goto (tgt := 109) dX6_doers_175 (by decide) ?_
        have he : doneB W I A 2 (8 * i + j) = 0 := by rw [doneB_2 W I A (by omega) (by omega), if_pos hcan, if_neg c_2]
        have e1 : w0 + sCnt (doneB W I A 2) (8 * i + (j + 1)) = w0 + sCnt (doneB W I A 2) (8 * i + j) := by rw [← Nat.add_assoc, sCnt_0 he]
        have e2 : lwV d2V (doneB W I A 2) (8 * i + (j + 1)) = lwV d2V (doneB W I A 2) (8 * i + j) := by rw [← Nat.add_assoc]; exact lwV_0 he
        have k9 := ih (j + 1) σ2 (by omega) t12 t02 (chg_tr s1 s2) (by omega)
        rw [e1, e2] at k9
        exact k9
      · have c_2 := if01_1 c_2
        refine q_aload_n dX6_doers_126 rfl rfl ?_
        refine sg6 (kf := 6) (v := .ref 334) dX6_doers_127 flX6_48 (show kd 0 = 6 from rfl) (by decide) rfl ?_
        refine z_iconst dX6_doers_130 ?_
        refine s_aaldS (n := 4) (x := 374) dX6_doers_131 (show kd 334 = 300000 + 4 from rfl) (by omega) (by omega) (by decide) (C2.2.2.2.2 2 (by omega)) ?_
        refine q_aload_n dX6_doers_132 rfl rfl ?_
        refine sg6 (kf := 0) (v := .ref 1) dX6_doers_133 flX6_10 (show kd 0 = 6 from rfl) (by decide) rfl ?_
        refine sg5 (kf := 0) (v := .ref 2) dX6_doers_136 flX6_72 (show kd 1 = 5 from rfl) (by decide) rfl ?_
        refine s_callV (ci := 2) (a := 374) (As := [.ref 2]) (S := []) dX6_doers_139 okX2_isAsKindAs mlX6_246 rfl (by omega) rfl (Nat.le_of_ble_eq_true rfl) (show kd 374 = 2 from rfl) (by decide) rfl (t_asKind (d := d - 1) (s := 374) rfl (by decide) σ2 (c := 80) (c2 := 88000) (by decide) (by decide) (r2 j (by omega)).1 g (ht2 c_2) C2.1.1) (fun v_ σ_ hq => ?_)
        obtain ⟨rfl, e9⟩ := hq
        have e9 := e9.symm
        subst e9
        have k01 := kE_01 (rA W (inc (rA W (inc (imK I A 8) i)) j)) A
        show sE g_tt _ _ _ 142 [some (.ref 0), some (.int (iZ u)), some (.int (iZ (w0 + sCnt (doneB W I A 2) (8 * i + j)))), some (.int (iZ l1)), some (.int (iZ (lwV d2V (doneB W I A 2) (8 * i + j)))), some (.int (iZ (i : Int))), some (.int (iZ (j : Int)))] [.int (iZ (kE (rA W (inc (rA W (inc (imK I A 8) i)) j)) A))] σ2
        refine z_if_eq (tgt := 172) dX6_doers_142 (by decide) (by unfold inR; omega) (fun c_3 => ?_) (fun c_3 => ?_)
        · refine z_iinc dX6_doers_172 rfl (by decide) ?_
          show sE g_tt _ _ _ 175 [some (.ref 0), some (.int (iZ u)), some (.int (iZ (w0 + sCnt (doneB W I A 2) (8 * i + j)))), some (.int (iZ l1)), some (.int (iZ (lwV d2V (doneB W I A 2) (8 * i + j)))), some (.int (iZ (i : Int))), some (.int (iZ ((j : Int) + 1)))] [] σ2
          refine q_goto (tgt := 109) dX6_doers_175 (by decide) ?_
          have he : doneB W I A 2 (8 * i + j) = 0 := by rw [doneB_2 W I A (by omega) (by omega), if_pos hcan, if_pos c_2]; omega
          have e1 : w0 + sCnt (doneB W I A 2) (8 * i + (j + 1)) = w0 + sCnt (doneB W I A 2) (8 * i + j) := by rw [← Nat.add_assoc, sCnt_0 he]
          have e2 : lwV d2V (doneB W I A 2) (8 * i + (j + 1)) = lwV d2V (doneB W I A 2) (8 * i + j) := by rw [← Nat.add_assoc]; exact lwV_0 he
          have k9 := ih (j + 1) σ2 (by omega) t12 t02 (chg_tr s1 s2) (by omega)
          rw [e1, e2] at k9
          exact k9
        · refine z_iinc dX6_doers_145 rfl (by decide) ?_
          show sE g_tt _ _ _ 148 [some (.ref 0), some (.int (iZ u)), some (.int (iZ (w0 + sCnt (doneB W I A 2) (8 * i + j) + 1))), some (.int (iZ l1)), some (.int (iZ (lwV d2V (doneB W I A 2) (8 * i + j)))), some (.int (iZ (i : Int))), some (.int (iZ (j : Int)))] [] σ2
          refine q_iload dX6_doers_148 rfl ?_
          refine z_iconst dX6_doers_150 ?_
          refine z_icmp_ne (tgt := 168) dX6_doers_151 (by decide) (by unfold inR; omega) (by unfold inR at *; omega) (fun c_4 => ?_) (fun c_4 => ?_)
          · refine q_iload dX6_doers_168 rfl ?_
            refine q_istore dX6_doers_170 (by decide) ?_
            show sE g_tt _ _ _ 172 [some (.ref 0), some (.int (iZ u)), some (.int (iZ (w0 + sCnt (doneB W I A 2) (8 * i + j) + 1))), some (.int (iZ l1)), some (.int (iZ (lwV d2V (doneB W I A 2) (8 * i + j)))), some (.int (iZ (i : Int))), some (.int (iZ (j : Int)))] [] σ2
            refine z_iinc dX6_doers_172 rfl (by decide) ?_
            show sE g_tt _ _ _ 175 [some (.ref 0), some (.int (iZ u)), some (.int (iZ (w0 + sCnt (doneB W I A 2) (8 * i + j) + 1))), some (.int (iZ l1)), some (.int (iZ (lwV d2V (doneB W I A 2) (8 * i + j)))), some (.int (iZ (i : Int))), some (.int (iZ ((j : Int) + 1)))] [] σ2
            refine q_goto (tgt := 109) dX6_doers_175 (by decide) ?_
            have he : doneB W I A 2 (8 * i + j) = 1 := by rw [doneB_2 W I A (by omega) (by omega), if_pos hcan, if_pos c_2]; omega
            have e1 : w0 + sCnt (doneB W I A 2) (8 * i + (j + 1)) = w0 + sCnt (doneB W I A 2) (8 * i + j) + 1 := by rw [← Nat.add_assoc, sCnt_1 he]; omega
            have e2 : lwV d2V (doneB W I A 2) (8 * i + (j + 1)) = lwV d2V (doneB W I A 2) (8 * i + j) := by rw [← Nat.add_assoc]; exact lwV_n (by omega)
            have k9 := ih (j + 1) σ2 (by omega) t12 t02 (chg_tr s1 s2) (by omega)
            rw [e1, e2] at k9
            exact k9
          · refine z_bipush dX6_doers_154 (by decide +kernel) ?_
            refine z_bipush dX6_doers_156 (by decide +kernel) ?_
            refine q_iload dX6_doers_158 rfl ?_
            refine z_imul dX6_doers_160 ?_
            refine z_iadd dX6_doers_161 ?_
            refine q_iload dX6_doers_162 rfl ?_
            refine z_iadd dX6_doers_164 ?_
            refine q_goto (tgt := 170) dX6_doers_165 (by decide) ?_
            refine q_istore dX6_doers_170 (by decide) ?_
            show sE g_tt _ _ _ 172 [some (.ref 0), some (.int (iZ u)), some (.int (iZ (w0 + sCnt (doneB W I A 2) (8 * i + j) + 1))), some (.int (iZ l1)), some (.int (iZ ((10 + (10 * (i : Int))) + (j : Int)))), some (.int (iZ (i : Int))), some (.int (iZ (j : Int)))] [] σ2
            refine z_iinc dX6_doers_172 rfl (by decide) ?_
            show sE g_tt _ _ _ 175 [some (.ref 0), some (.int (iZ u)), some (.int (iZ (w0 + sCnt (doneB W I A 2) (8 * i + j) + 1))), some (.int (iZ l1)), some (.int (iZ ((10 + (10 * (i : Int))) + (j : Int)))), some (.int (iZ (i : Int))), some (.int (iZ ((j : Int) + 1)))] [] σ2
            refine q_goto (tgt := 109) dX6_doers_175 (by decide) ?_
            have he : doneB W I A 2 (8 * i + j) = 1 := by rw [doneB_2 W I A (by omega) (by omega), if_pos hcan, if_pos c_2]; omega
            have e1 : w0 + sCnt (doneB W I A 2) (8 * i + (j + 1)) = w0 + sCnt (doneB W I A 2) (8 * i + j) + 1 := by rw [← Nat.add_assoc, sCnt_1 he]; omega
            have e2 : lwV d2V (doneB W I A 2) (8 * i + (j + 1)) = (10 + (10 * (i : Int))) + (j : Int) := by rw [← Nat.add_assoc, lwV_y he (by omega)]; unfold d2V; omega
            have k9 := ih (j + 1) σ2 (by omega) t12 t02 (chg_tr s1 s2) (by omega)
            rw [e1, e2] at k9
            exact k9
set_option maxHeartbeats 4000000 in
set_option maxRecDepth 100000 in
theorem lx_doers {d : Nat} (hd : 8 ≤ d) {u : Int} (hu : u = 0 ∨ u = 1) (σ : gS) {W V : wF} {A I : Nat → Int} {c nt : Int} (hc : c ≤ 88000) (hn4 : nt ≤ 4) (ok : okR c nt A) (oi : okR c (I 1) I) (C : clR σ W V A I) : ∀ (n : Nat) (i : Nat) (σ1 : gS) (l6 : Option Value), i ≤ 8 → trS 0 σ1 364 (imK I A 8) → chg scrQ σ σ1 → 8 - (i : Int) < (n : Int) → sE g_tt mX6_doers d (fun r σ' => r = some (.int (iZ (if u = 0 then dCnt W I A 72 else dFnd W I A 72))) ∧ chg scrQ σ σ') 52 [some (.ref 0), some (.int (iZ u)), some (.int (iZ (sCnt (doneB W I A 1) i + sCnt (doneB W I A 2) (8 * i)))), some (.int (iZ (lwV (fun k : Nat => (k : Int)) (doneB W I A 1) i))), some (.int (iZ (lwV d2V (doneB W I A 2) (8 * i)))), some (.int (iZ (i : Int))), l6] [] σ1 := by
  intro n
  induction n with
  | zero =>
    intro i σ1 l6 hi t1 s1 hn
    exact absurd hn (by omega)
  | succ n ih =>
    intro i σ1 l6 hi t1 s1 hn
    have g := ok_gd hc hn4 ok
    have g0 := g.1
    have a2 := ok_2 ok
    have gi := gd_mono oi.1 hc
    have gI : gd 98000 4 (imK I A 8) := gd_mono (imK_gd gi g (Int.le_refl _)) (by decide)
    have i2 : (imK I A 8) 2 = A 2 := imK_out I A (by omega)
    have rr : ∀ B, gd 98000 4 B → B 2 = A 2 → ∀ j, j < 8 → gd 80 4 (rA W (inc B j)) ∧ rA W (inc B j) 2 = A 2 := fun B gB e j hj => by
      have gU : gd 100000 4 (inc B j) := gd_mono (inc_gd gB hj) (by decide)
      have u2 : inc B j 2 = A 2 := by rw [inc_2, e]
      have ro := rA_ok (w0_of C) gU (by omega) (by omega)
      exact ⟨ro.1, by rw [ro.2.1, u2]⟩
    have C1 := clR_ch ok oi C s1
    have lr := lwV_ran (v := (fun k : Nat => (k : Int))) (e := (doneB W I A 1)) (n := 8) (fun k hk => by show 0 ≤ (k : Int) ∧ (k : Int) ≤ 1000; omega) i (by omega)
    have lr2 := lwV_ran (v := d2V) (e := (doneB W I A 2)) (n := 64) (fun k hk => by unfold d2V; omega) (8 * i) (by omega)
    have sr := sCnt_ran (e := (doneB W I A 2)) (fun k => doneB_01 W I A 2 k) (8 * i)
    have sr1 := sCnt_ran (e := (doneB W I A 1)) (fun k => doneB_01 W I A 1 k) i
    refine q_iload dX6_doers_52 rfl ?_
    refine z_bipush dX6_doers_54 (by decide +kernel) ?_
    refine z_icmp_ge (tgt := 184) dX6_doers_56 (by decide) (by unfold inR at *; omega) (by unfold inR at *; omega) (fun c_1 => ?_) (fun c_1 => ?_)
    · refine q_iload_n dX6_doers_184 rfl rfl ?_
      refine z_if_ne (tgt := 190) dX6_doers_185 (by decide) (by unfold inR at *; omega) (fun c_2 => ?_) (fun c_2 => ?_)
      · refine q_iload_n dX6_doers_190 rfl rfl ?_
        refine z_iconst dX6_doers_191 ?_
        refine z_icmp_eq (tgt := 199) dX6_doers_192 (by decide) (by unfold inR; omega) (by unfold inR at *; omega) (fun c_3 => ?_) (fun c_3 => ?_)
        · refine q_iload dX6_doers_199 rfl ?_
          exact s_iretZ dX6_doers_201 rfl ⟨by obtain rfl : i = 8 := (by omega); rw [dCnt_hi W I A 64, dFnd_hi W I A 64]; (try rw [show 8 * 8 = 64 from rfl]); first | (rw [if_pos (show u = 0 by omega)]; done) | (rw [if_neg (show ¬ u = 0 by omega), if_pos (by assumption)]; done) | (rw [if_neg (show ¬ u = 0 by omega), if_neg (by assumption)]; done), s1⟩
        · refine q_iload_n dX6_doers_195 rfl rfl ?_
          refine q_goto (tgt := 201) dX6_doers_196 (by decide) ?_
          exact s_iretZ dX6_doers_201 rfl ⟨by obtain rfl : i = 8 := (by omega); rw [dCnt_hi W I A 64, dFnd_hi W I A 64]; (try rw [show 8 * 8 = 64 from rfl]); first | (rw [if_pos (show u = 0 by omega)]; done) | (rw [if_neg (show ¬ u = 0 by omega), if_pos (by assumption)]; done) | (rw [if_neg (show ¬ u = 0 by omega), if_neg (by assumption)]; done), s1⟩
      · refine q_iload_n dX6_doers_188 rfl rfl ?_
        exact s_iretZ dX6_doers_189 rfl ⟨by obtain rfl : i = 8 := (by omega); rw [dCnt_hi W I A 64, dFnd_hi W I A 64]; (try rw [show 8 * 8 = 64 from rfl]); first | (rw [if_pos (show u = 0 by omega)]; done) | (rw [if_neg (show ¬ u = 0 by omega), if_pos (by assumption)]; done) | (rw [if_neg (show ¬ u = 0 by omega), if_neg (by assumption)]; done), s1⟩
    · refine q_aload_n dX6_doers_59 rfl rfl ?_
      refine z_iconst dX6_doers_60 ?_
      refine q_iload dX6_doers_61 rfl ?_
      refine s_callV (ci := 6) (a := 0) (As := [.int (iZ 0), .int (iZ (i : Int))]) (S := []) dX6_doers_63 okX6_goOn mlX6_267 rfl (by omega) rfl (Nat.le_of_ble_eq_true rfl) (show kd 0 = 6 from rfl) (by decide) rfl (x_goOn0 (d := d - 1) (h := i) (by omega) (by omega) σ1 hc hn4 ok oi C1 (imK I A 8) gI i2 t1) (fun v_ σ_ hq => ?_)
      obtain ⟨rfl, hc2, ht2⟩ := hq
      rename gS => σ2
      have s2 : chg scrQ σ1 σ2 := chg_mono hc2 (fun a q => atS_scr (by omega) q)
      have C2 := clR_ch ok oi C1 s2
      have t12 : trS 0 σ2 364 (imK I A 8) := trS_ch t1 hc2 (fun a x y => by unfold atS stkP; omega)
      show sE g_tt _ _ _ 66 [some (.ref 0), some (.int (iZ u)), some (.int (iZ (sCnt (doneB W I A 1) i + sCnt (doneB W I A 2) (8 * i)))), some (.int (iZ (lwV (fun k : Nat => (k : Int)) (doneB W I A 1) i))), some (.int (iZ (lwV d2V (doneB W I A 2) (8 * i)))), some (.int (iZ (i : Int))), l6] [.int (iZ (if (imK I A 8) (11 + i) + 1 ≤ 99 then 1 else 0))] σ2
      refine z_if_ne (tgt := 72) dX6_doers_66 (by decide) inR_01 (fun c_4 => ?_) (fun c_4 => ?_)
      · have c_4 := if01_1 c_4
        refine q_aload_n dX6_doers_72 rfl rfl ?_
        refine sg6 (kf := 6) (v := .ref 334) dX6_doers_73 flX6_48 (show kd 0 = 6 from rfl) (by decide) rfl ?_
        refine z_iconst dX6_doers_76 ?_
        refine s_aaldS (n := 4) (x := 369) dX6_doers_77 (show kd 334 = 300000 + 4 from rfl) (by omega) (by omega) (by decide) (C2.2.2.2.2 1 (by omega)) ?_
        refine q_aload_n dX6_doers_78 rfl rfl ?_
        refine sg6 (kf := 0) (v := .ref 1) dX6_doers_79 flX6_10 (show kd 0 = 6 from rfl) (by decide) rfl ?_
        refine sg5 (kf := 0) (v := .ref 2) dX6_doers_82 flX6_72 (show kd 1 = 5 from rfl) (by decide) rfl ?_
        refine s_callV (ci := 2) (a := 369) (As := [.ref 2]) (S := []) dX6_doers_85 okX2_isAsKindAs mlX6_246 rfl (by omega) rfl (Nat.le_of_ble_eq_true rfl) (show kd 369 = 2 from rfl) (by decide) rfl (t_asKind (d := d - 1) (s := 369) rfl (by decide) σ2 (c := 80) (c2 := 88000) (by decide) (by decide) (rr (imK I A 8) gI i2 i (by omega)).1 g (ht2 c_4) C2.1.1) (fun v_ σ_ hq => ?_)
        obtain ⟨rfl, e9⟩ := hq
        have e9 := e9.symm
        subst e9
        have k01 := kE_01 (rA W (inc (imK I A 8) i)) A
        show sE g_tt _ _ _ 88 [some (.ref 0), some (.int (iZ u)), some (.int (iZ (sCnt (doneB W I A 1) i + sCnt (doneB W I A 2) (8 * i)))), some (.int (iZ (lwV (fun k : Nat => (k : Int)) (doneB W I A 1) i))), some (.int (iZ (lwV d2V (doneB W I A 2) (8 * i)))), some (.int (iZ (i : Int))), l6] [.int (iZ (kE (rA W (inc (imK I A 8) i)) A))] σ2
        refine z_if_eq (tgt := 106) dX6_doers_88 (by decide) (by unfold inR; omega) (fun c_5 => ?_) (fun c_5 => ?_)
        · refine z_iconst dX6_doers_106 ?_
          refine q_istore dX6_doers_107 (by decide) ?_
          show sE g_tt _ _ _ 109 [some (.ref 0), some (.int (iZ u)), some (.int (iZ (sCnt (doneB W I A 1) i + sCnt (doneB W I A 2) (8 * i)))), some (.int (iZ (lwV (fun k : Nat => (k : Int)) (doneB W I A 1) i))), some (.int (iZ (lwV d2V (doneB W I A 2) (8 * i)))), some (.int (iZ (i : Int))), some (.int (iZ 0))] [] σ2
          have he : doneB W I A 1 i = 0 := by rw [doneB_1 W I A (by omega), if_pos c_4]; omega
          have e1 : sCnt (doneB W I A 1) (i + 1) + sCnt (doneB W I A 2) (8 * i + 0) = sCnt (doneB W I A 1) i + sCnt (doneB W I A 2) (8 * i) := by rw [sCnt_0 he, Nat.add_zero]
          have e2 : lwV (fun k : Nat => (k : Int)) (doneB W I A 1) (i + 1) = lwV (fun k : Nat => (k : Int)) (doneB W I A 1) i := lwV_0 he
          have sr' := sCnt_ran (e := (doneB W I A 1)) (fun k => doneB_01 W I A 1 k) (i + 1)
          refine (show sE g_tt mX6_doers d (fun r σ' => r = some (.int (iZ (if u = 0 then dCnt W I A 72 else dFnd W I A 72))) ∧ chg scrQ σ σ') 109 [some (.ref 0), some (.int (iZ u)), some (.int (iZ (sCnt (doneB W I A 1) (i + 1) + sCnt (doneB W I A 2) (8 * i + 0)))), some (.int (iZ (lwV (fun k : Nat => (k : Int)) (doneB W I A 1) (i + 1)))), some (.int (iZ (lwV d2V (doneB W I A 2) (8 * i + 0)))), some (.int (iZ (i : Int))), some (.int (iZ ((0 : Nat) : Int)))] [] σ2 → sE g_tt mX6_doers d (fun r σ' => r = some (.int (iZ (if u = 0 then dCnt W I A 72 else dFnd W I A 72))) ∧ chg scrQ σ σ') 109 [some (.ref 0), some (.int (iZ u)), some (.int (iZ (sCnt (doneB W I A 1) i + sCnt (doneB W I A 2) (8 * i)))), some (.int (iZ (lwV (fun k : Nat => (k : Int)) (doneB W I A 1) i))), some (.int (iZ (lwV d2V (doneB W I A 2) (8 * i)))), some (.int (iZ (i : Int))), some (.int (iZ 0))] [] σ2 from fun z => by rw [e1, e2] at z; exact z) ?_
          refine lx_doers1 hd (by omega) ⟨sr'.1, by omega⟩ σ hc hn4 ok oi C c_4 ?_ 9 0 σ2 (by omega) (ht2 c_4) t12 (chg_tr s1 s2) (by omega)
          intro σ3 t3 s3
          refine z_iinc dX6_doers_178 rfl (by decide) ?_
          refine q_goto (tgt := 52) dX6_doers_181 (by decide) ?_
          have k9 := ih (i + 1) σ3 (some (.int (iZ ((8 : Nat) : Int)))) (by omega) t3 s3 (by omega)
          rw [show 8 * (i + 1) = 8 * i + 8 by omega] at k9
          exact k9
        · refine z_iinc dX6_doers_91 rfl (by decide) ?_
          show sE g_tt _ _ _ 94 [some (.ref 0), some (.int (iZ u)), some (.int (iZ (sCnt (doneB W I A 1) i + sCnt (doneB W I A 2) (8 * i) + 1))), some (.int (iZ (lwV (fun k : Nat => (k : Int)) (doneB W I A 1) i))), some (.int (iZ (lwV d2V (doneB W I A 2) (8 * i)))), some (.int (iZ (i : Int))), l6] [] σ2
          refine q_iload_n dX6_doers_94 rfl rfl ?_
          refine z_iconst dX6_doers_95 ?_
          refine z_icmp_ne (tgt := 104) dX6_doers_96 (by decide) (by unfold inR; omega) (by unfold inR at *; omega) (fun c_6 => ?_) (fun c_6 => ?_)
          · refine q_iload_n dX6_doers_104 rfl rfl ?_
            refine q_istore_n dX6_doers_105 rfl (by decide) ?_
            show sE g_tt _ _ _ 106 [some (.ref 0), some (.int (iZ u)), some (.int (iZ (sCnt (doneB W I A 1) i + sCnt (doneB W I A 2) (8 * i) + 1))), some (.int (iZ (lwV (fun k : Nat => (k : Int)) (doneB W I A 1) i))), some (.int (iZ (lwV d2V (doneB W I A 2) (8 * i)))), some (.int (iZ (i : Int))), l6] [] σ2
            refine z_iconst dX6_doers_106 ?_
            refine q_istore dX6_doers_107 (by decide) ?_
            show sE g_tt _ _ _ 109 [some (.ref 0), some (.int (iZ u)), some (.int (iZ (sCnt (doneB W I A 1) i + sCnt (doneB W I A 2) (8 * i) + 1))), some (.int (iZ (lwV (fun k : Nat => (k : Int)) (doneB W I A 1) i))), some (.int (iZ (lwV d2V (doneB W I A 2) (8 * i)))), some (.int (iZ (i : Int))), some (.int (iZ 0))] [] σ2
            have he : doneB W I A 1 i = 1 := by rw [doneB_1 W I A (by omega), if_pos c_4]; omega
            have e1 : sCnt (doneB W I A 1) (i + 1) + sCnt (doneB W I A 2) (8 * i + 0) = sCnt (doneB W I A 1) i + sCnt (doneB W I A 2) (8 * i) + 1 := by rw [sCnt_1 he, Nat.add_zero]; omega
            have e2 : lwV (fun k : Nat => (k : Int)) (doneB W I A 1) (i + 1) = lwV (fun k : Nat => (k : Int)) (doneB W I A 1) i := lwV_n (by omega)
            have sr' := sCnt_ran (e := (doneB W I A 1)) (fun k => doneB_01 W I A 1 k) (i + 1)
            refine (show sE g_tt mX6_doers d (fun r σ' => r = some (.int (iZ (if u = 0 then dCnt W I A 72 else dFnd W I A 72))) ∧ chg scrQ σ σ') 109 [some (.ref 0), some (.int (iZ u)), some (.int (iZ (sCnt (doneB W I A 1) (i + 1) + sCnt (doneB W I A 2) (8 * i + 0)))), some (.int (iZ (lwV (fun k : Nat => (k : Int)) (doneB W I A 1) (i + 1)))), some (.int (iZ (lwV d2V (doneB W I A 2) (8 * i + 0)))), some (.int (iZ (i : Int))), some (.int (iZ ((0 : Nat) : Int)))] [] σ2 → sE g_tt mX6_doers d (fun r σ' => r = some (.int (iZ (if u = 0 then dCnt W I A 72 else dFnd W I A 72))) ∧ chg scrQ σ σ') 109 [some (.ref 0), some (.int (iZ u)), some (.int (iZ (sCnt (doneB W I A 1) i + sCnt (doneB W I A 2) (8 * i) + 1))), some (.int (iZ (lwV (fun k : Nat => (k : Int)) (doneB W I A 1) i))), some (.int (iZ (lwV d2V (doneB W I A 2) (8 * i)))), some (.int (iZ (i : Int))), some (.int (iZ 0))] [] σ2 from fun z => by rw [e1, e2] at z; exact z) ?_
            refine lx_doers1 hd (by omega) ⟨sr'.1, by omega⟩ σ hc hn4 ok oi C c_4 ?_ 9 0 σ2 (by omega) (ht2 c_4) t12 (chg_tr s1 s2) (by omega)
            intro σ3 t3 s3
            refine z_iinc dX6_doers_178 rfl (by decide) ?_
            refine q_goto (tgt := 52) dX6_doers_181 (by decide) ?_
            have k9 := ih (i + 1) σ3 (some (.int (iZ ((8 : Nat) : Int)))) (by omega) t3 s3 (by omega)
            rw [show 8 * (i + 1) = 8 * i + 8 by omega] at k9
            exact k9
          · refine q_iload dX6_doers_99 rfl ?_
            refine q_goto (tgt := 105) dX6_doers_101 (by decide) ?_
            refine q_istore_n dX6_doers_105 rfl (by decide) ?_
            show sE g_tt _ _ _ 106 [some (.ref 0), some (.int (iZ u)), some (.int (iZ (sCnt (doneB W I A 1) i + sCnt (doneB W I A 2) (8 * i) + 1))), some (.int (iZ (i : Int))), some (.int (iZ (lwV d2V (doneB W I A 2) (8 * i)))), some (.int (iZ (i : Int))), l6] [] σ2
            refine z_iconst dX6_doers_106 ?_
            refine q_istore dX6_doers_107 (by decide) ?_
            show sE g_tt _ _ _ 109 [some (.ref 0), some (.int (iZ u)), some (.int (iZ (sCnt (doneB W I A 1) i + sCnt (doneB W I A 2) (8 * i) + 1))), some (.int (iZ (i : Int))), some (.int (iZ (lwV d2V (doneB W I A 2) (8 * i)))), some (.int (iZ (i : Int))), some (.int (iZ 0))] [] σ2
            have he : doneB W I A 1 i = 1 := by rw [doneB_1 W I A (by omega), if_pos c_4]; omega
            have e1 : sCnt (doneB W I A 1) (i + 1) + sCnt (doneB W I A 2) (8 * i + 0) = sCnt (doneB W I A 1) i + sCnt (doneB W I A 2) (8 * i) + 1 := by rw [sCnt_1 he, Nat.add_zero]; omega
            have e2 : lwV (fun k : Nat => (k : Int)) (doneB W I A 1) (i + 1) = (i : Int) := lwV_y he (by omega)
            have sr' := sCnt_ran (e := (doneB W I A 1)) (fun k => doneB_01 W I A 1 k) (i + 1)
            refine (show sE g_tt mX6_doers d (fun r σ' => r = some (.int (iZ (if u = 0 then dCnt W I A 72 else dFnd W I A 72))) ∧ chg scrQ σ σ') 109 [some (.ref 0), some (.int (iZ u)), some (.int (iZ (sCnt (doneB W I A 1) (i + 1) + sCnt (doneB W I A 2) (8 * i + 0)))), some (.int (iZ (lwV (fun k : Nat => (k : Int)) (doneB W I A 1) (i + 1)))), some (.int (iZ (lwV d2V (doneB W I A 2) (8 * i + 0)))), some (.int (iZ (i : Int))), some (.int (iZ ((0 : Nat) : Int)))] [] σ2 → sE g_tt mX6_doers d (fun r σ' => r = some (.int (iZ (if u = 0 then dCnt W I A 72 else dFnd W I A 72))) ∧ chg scrQ σ σ') 109 [some (.ref 0), some (.int (iZ u)), some (.int (iZ (sCnt (doneB W I A 1) i + sCnt (doneB W I A 2) (8 * i) + 1))), some (.int (iZ (i : Int))), some (.int (iZ (lwV d2V (doneB W I A 2) (8 * i)))), some (.int (iZ (i : Int))), some (.int (iZ 0))] [] σ2 from fun z => by rw [e1, e2] at z; exact z) ?_
            refine lx_doers1 hd (by omega) ⟨sr'.1, by omega⟩ σ hc hn4 ok oi C c_4 ?_ 9 0 σ2 (by omega) (ht2 c_4) t12 (chg_tr s1 s2) (by omega)
            intro σ3 t3 s3
            refine z_iinc dX6_doers_178 rfl (by decide) ?_
            refine q_goto (tgt := 52) dX6_doers_181 (by decide) ?_
            have k9 := ih (i + 1) σ3 (some (.int (iZ ((8 : Nat) : Int)))) (by omega) t3 s3 (by omega)
            rw [show 8 * (i + 1) = 8 * i + 8 by omega] at k9
            exact k9
      · have c_4 := if01_0 c_4
        refine q_goto (tgt := 178) dX6_doers_69 (by decide) ?_
        refine z_iinc dX6_doers_178 rfl (by decide) ?_
        show sE g_tt _ _ _ 181 [some (.ref 0), some (.int (iZ u)), some (.int (iZ (sCnt (doneB W I A 1) i + sCnt (doneB W I A 2) (8 * i)))), some (.int (iZ (lwV (fun k : Nat => (k : Int)) (doneB W I A 1) i))), some (.int (iZ (lwV d2V (doneB W I A 2) (8 * i)))), some (.int (iZ ((i : Int) + 1))), l6] [] σ2
        refine q_goto (tgt := 52) dX6_doers_181 (by decide) ?_
        have z1 : doneB W I A 1 i = 0 := by rw [doneB_1 W I A (by omega), if_neg c_4]
        have z2 : ∀ x, 8 * i ≤ x → x < 8 * i + 8 → doneB W I A 2 x = 0 := fun x y z => by
          rw [show x = 8 * i + (x - 8 * i) by omega, doneB_2 W I A (by omega) (by omega), if_neg c_4]
        have k9 := ih (i + 1) σ2 l6 (by omega) t12 (chg_tr s1 s2) (by omega)
        rw [sCnt_0 z1, lwV_0 z1, show 8 * (i + 1) = 8 * i + 8 by omega, sCnt_z 8 z2, lwV_z 8 z2] at k9
        exact k9
set_option maxHeartbeats 4000000 in
set_option maxRecDepth 100000 in
theorem x_doers {d : Nat} (hd : 8 ≤ d) {u : Int} (hu : u = 0 ∨ u = 1) (σ : gS) {W V : wF} {A I : Nat → Int} {c nt : Int} (hc : c ≤ 88000) (hn4 : nt ≤ 4) (ok : okR c nt A) (oi : okR c (I 1) I) (C : clR σ W V A I) : sC mX6_doers d [.ref 0, .int (iZ u)] σ (fun r σ' => r = some (.int (iZ (if u = 0 then dCnt W I A 72 else dFnd W I A 72))) ∧ chg scrQ σ σ') := by
  have g := ok_gd hc hn4 ok
  have g0 := g.1
  have n1 := ok.2.2.1
  have a2 := ok_2 ok
  have g10 := g.2.2.2.2.1
  have gL : gd 100000 4 A := gd_mono g (by decide)
  have rk := rA_ok (w0_of C) gL a2.1 a2.2
  refine sC_of rfl (Nat.le_of_ble_eq_true rfl) ?_
  show sE g_tt _ _ _ 0 [some (.ref 0), some (.int (iZ u)), none, none, none, none, none] [] σ
  refine z_iconst dX6_doers_0 ?_
  refine q_istore_n dX6_doers_1 rfl (by decide) ?_
  show sE g_tt _ _ _ 2 [some (.ref 0), some (.int (iZ u)), some (.int (iZ 0)), none, none, none, none] [] σ
  refine z_iconst dX6_doers_2 ?_
  refine q_istore_n dX6_doers_3 rfl (by decide) ?_
  show sE g_tt _ _ _ 4 [some (.ref 0), some (.int (iZ u)), some (.int (iZ 0)), some (.int (iZ (-1))), none, none, none] [] σ
  refine z_iconst dX6_doers_4 ?_
  refine q_istore dX6_doers_5 (by decide) ?_
  show sE g_tt _ _ _ 7 [some (.ref 0), some (.int (iZ u)), some (.int (iZ 0)), some (.int (iZ (-1))), some (.int (iZ (-1))), none, none] [] σ
  refine q_aload_n dX6_doers_7 rfl rfl ?_
  refine sg6 (kf := 6) (v := .ref 334) dX6_doers_8 flX6_48 (show kd 0 = 6 from rfl) (by decide) rfl ?_
  refine z_iconst dX6_doers_11 ?_
  refine s_aaldS (n := 4) (x := 364) dX6_doers_12 (show kd 334 = 300000 + 4 from rfl) (by omega) (by omega) (by decide) (C.2.2.2.2 0 (by omega)) ?_
  refine q_aload_n dX6_doers_13 rfl rfl ?_
  refine sg6 (kf := 0) (v := .ref 1) dX6_doers_14 flX6_10 (show kd 0 = 6 from rfl) (by decide) rfl ?_
  refine sg5 (kf := 0) (v := .ref 2) dX6_doers_17 flX6_72 (show kd 1 = 5 from rfl) (by decide) rfl ?_
  refine s_callV (ci := 2) (a := 364) (As := [.ref 2]) (S := []) dX6_doers_20 okX2_take mlX6_218 rfl (by omega) rfl (Nat.le_of_ble_eq_true rfl) (show kd 364 = 2 from rfl) (by decide) rfl (t_take (d := d - 1) (s := 364) (o := 2) (by omega) rfl σ rfl (by decide)) (fun v_ σ_ hq => ?_)
  obtain ⟨rfl, hc1, ht1⟩ := hq
  rename gS => σ1
  have s1 : chg scrQ σ σ1 := chg_mono hc1 (fun a q => scr5 (by omega) q)
  have C1 := clR_ch ok oi C s1
  have t1 : trS 0 σ1 364 A := trS_off (ht1 1 A g0.2 (fun _ => ok.1.2.2.2.2.1.2) C.1.1)
  show sE g_tt _ _ _ 23 [some (.ref 0), some (.int (iZ u)), some (.int (iZ 0)), some (.int (iZ (-1))), some (.int (iZ (-1))), none, none] [] σ1
  refine q_aload_n dX6_doers_23 rfl rfl ?_
  refine sg6 (kf := 1) (v := .ref 161) dX6_doers_24 flX6_16 (show kd 0 = 6 from rfl) (by decide) rfl ?_
  refine sg5 (kf := 0) (v := .ref 162) dX6_doers_27 flX6_72 (show kd 161 = 5 from rfl) (by decide) rfl ?_
  refine sg2 (kf := 0) (v := .ref 163) dX6_doers_30 flX6_122 (show kd 162 = 2 from rfl) (by decide) rfl ?_
  refine z_iconst dX6_doers_33 ?_
  refine q_aload_n dX6_doers_34 rfl rfl ?_
  refine sg6 (kf := 6) (v := .ref 334) dX6_doers_35 flX6_48 (show kd 0 = 6 from rfl) (by decide) rfl ?_
  refine z_iconst dX6_doers_38 ?_
  refine s_aaldS (n := 4) (x := 364) dX6_doers_39 (show kd 334 = 300000 + 4 from rfl) (by omega) (by omega) (by decide) (C1.2.2.2.2 0 (by omega)) ?_
  refine sg2 (kf := 0) (v := .ref 365) dX6_doers_40 flX6_122 (show kd 364 = 2 from rfl) (by decide) rfl ?_
  refine z_iconst dX6_doers_43 ?_
  refine z_bipush dX6_doers_44 (by decide +kernel) ?_
  refine s_copy (n0 := 8) (n1 := 8) dX6_doers_46 mlX6_261 (by omega) (Nat.le_of_ble_eq_true rfl) (show kd 163 = 100 + 8 from rfl) (show kd 365 = 100 + 8 from rfl) (by decide) (by decide) (by omega) (by omega) (by omega) (by omega) (by omega) ?_
  show sE g_tt _ _ _ 49 [some (.ref 0), some (.int (iZ u)), some (.int (iZ 0)), some (.int (iZ (-1))), some (.int (iZ (-1))), none, none] [] (sRw σ1 365 (va_cpy (σ1.2.1 163) (σ1.2.1 365) 0 0 8))
  have sc : chg scrQ σ1 (sRw σ1 365 (va_cpy (σ1.2.1 163) (σ1.2.1 365) 0 0 8)) := chg_mono (chg_sRw σ1 365 _) (fun a q => scr1 (by omega) q)
  have t2 : trS 0 (sRw σ1 365 (va_cpy (σ1.2.1 163) (σ1.2.1 365) 0 0 8)) 364 (imK I A 8) := trS_rowK t1 (fun j hj => by rw [va_cpy_at _ _ _ hj, imK_in I A hj]; exact C1.2.1.1.1 j hj) g0.2 (fun q => absurd rfl q) (fun i hi => imK_out I A hi)
  refine z_iconst dX6_doers_49 ?_
  refine q_istore dX6_doers_50 (by decide) ?_
  exact lx_doers hd hu σ hc hn4 ok oi C 9 0 (sRw σ1 365 (va_cpy (σ1.2.1 163) (σ1.2.1 365) 0 0 8)) none (by omega) t2 (chg_tr s1 sc) (by omega)
