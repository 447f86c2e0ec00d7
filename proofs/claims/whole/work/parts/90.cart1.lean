/-! ===== rounds of the class and of the model: the same rounds ===== -/
/-- how many of n houses from a on have somebody sick -/
def skN (A : Nat → Int) (a : Nat) : Nat → Nat
  | 0 => 0
  | n + 1 => skN A a n + (if A (29 + (a + n)) = 0 then 0 else 1)
theorem skN_add (A : Nat → Int) (a n : Nat) : ∀ m, skN A a (n + m) = skN A a n + skN A (a + n) m := by
  intro m
  induction m with
  | zero => rfl
  | succ m ih => rw [← Nat.add_assoc, skN, skN, ih, Nat.add_assoc, ← Nat.add_assoc a n m]
theorem skN_s (A : Nat → Int) (a n : Nat) : skN A a (n + 1) = (if A (29 + a) = 0 then 0 else 1) + skN A (a + 1) n := by
  rw [Nat.add_comm n 1, skN_add]
  show (0 + (if A (29 + (a + 0)) = 0 then 0 else 1)) + _ = _
  rw [Nat.zero_add, Nat.add_zero]
theorem skN_0 (A : Nat → Int) (a : Nat) : ∀ n, skN A a n = 0 ↔ ∀ h, a ≤ h → h < a + n → A (29 + h) = 0 := by
  intro n
  induction n with
  | zero => exact ⟨fun _ h x y => by omega, fun _ => rfl⟩
  | succ n ih =>
    rw [skN]
    constructor
    · intro e h x y
      have e1 : skN A a n = 0 := by omega
      by_cases q : h = a + n
      · by_cases z : A (29 + (a + n)) = 0
        · rw [q]; exact z
        · rw [if_neg z] at e; omega
      · exact ih.1 e1 h x (by omega)
    · intro e
      rw [ih.2 (fun h x y => e h x (by omega)), if_pos (e (a + n) (by omega) (by omega))]
def pcB : Nat → Nat → Nat
  | 0, _ => 0
  | n + 1, m => pcB n m + (if m.testBit n then 1 else 0)
theorem mBits_pc : ∀ m, m < 256 → mBits (m + 1) m = pcB 8 m := by decide +kernel
theorem lfN_sk {A : Nat → Int} (hdu : ∀ k, k < 8 → 0 ≤ A (29 + k) ∧ A (29 + k) ≤ 31) : lfN A = skN A 0 8 := by
  unfold lfN
  rw [mBits_pc _ (mSick_lt A)]
  have : ∀ n, n ≤ 8 → pcB n (mSick A 8) = skN A 0 n := by
    intro n
    induction n with
    | zero => intro _; rfl
    | succ n ih =>
      intro h
      have d := hdu n (by omega)
      rw [pcB, skN, ih (by omega), mSick_bit A n 8, Nat.zero_add]
      by_cases q : A (29 + n) = 0
      · rw [if_pos q, if_neg (by rw [decide_eq_true_eq]; omega)]
      · rw [if_neg q, if_pos (by rw [decide_eq_true_eq]; omega)]
  exact this 8 (by omega)
/-- the class's round by the turns b: where next; when it is done -/
def dvT (b : Nat → Bool) (i lo hi : Nat) : Int := if b i then (lo : Int) - 1 else (hi : Int) + 1
def cDv (A : Nat → Int) (b : Nat → Bool) (st : Nat) : Nat → Nat → Nat → Nat → Nat → Int → List Nat → Option (Int × List Nat)
  | 0, _, _, _, _, _, _ => none
  | f + 1, i, lo, hi, now, t, l =>
    if st ≤ i then some (t, l)
    else if ¬ (0 ≤ dvT b i lo hi ∧ dvT b i lo hi < 8) then none
    else if A (29 + (dvT b i lo hi).toNat) = 0 ∨ t + dst (dvT b i lo hi).toNat now ≤ A (29 + (dvT b i lo hi).toNat) - 1 then
      cDv A b st f (i + 1) (if b i then (dvT b i lo hi).toNat else lo) (if b i then hi else (dvT b i lo hi).toNat) (dvT b i lo hi).toNat (t + dst (dvT b i lo hi).toNat now) (duT A (dvT b i lo hi).toNat (t + dst (dvT b i lo hi).toNat now) l)
    else none
def cB (b : Nat → Bool) (a : Nat) : Nat → Nat
  | 0 => 0
  | n + 1 => cB b a n + (if b (a + n) then 1 else 0)
theorem cB_le (b : Nat → Bool) (a : Nat) : ∀ n, cB b a n ≤ n := by
  intro n
  induction n with
  | zero => exact Nat.le_refl _
  | succ n ih => rw [cB]; split <;> omega
theorem cB_s (b : Nat → Bool) (a : Nat) : ∀ n, cB b a (n + 1) = (if b a then 1 else 0) + cB b (a + 1) n := by
  intro n
  induction n with
  | zero => show 0 + (if b (a + 0) then 1 else 0) = _ + 0; rw [Nat.add_zero, Nat.zero_add, Nat.add_zero]
  | succ n ih => rw [cB, ih, cB, Nat.add_assoc, show a + (n + 1) = a + 1 + n by omega]
theorem cB_c {b c : Nat → Bool} {a : Nat} : ∀ n, (∀ j, a ≤ j → j < a + n → b j = c j) → cB b a n = cB c a n := by
  intro n
  induction n with
  | zero => intro _; rfl
  | succ n ih => intro h; rw [cB, cB, ih (fun j x y => h j x (by omega)), h (a + n) (by omega) (by omega)]
theorem duT_on (A : Nat → Int) {h : Nat} {t : Int} (l : List Nat) (e : A (29 + h) = 0 ∨ t ≤ A (29 + h) - 1) : duT A h t l = if A (29 + h) = 0 then l else l ++ [h] := by
  unfold duT
  by_cases q : A (29 + h) = 0
  · rw [if_pos q, if_pos (Or.inl q)]
  · rw [if_neg q, if_neg (by omega)]
theorem duT_ln (A : Nat → Int) {h : Nat} {t : Int} (l : List Nat) (e : A (29 + h) = 0 ∨ t ≤ A (29 + h) - 1) : (duT A h t l).length = l.length + (if A (29 + h) = 0 then 0 else 1) := by
  rw [duT_on A l e]
  by_cases q : A (29 + h) = 0
  · rw [if_pos q, if_pos q]; rfl
  · rw [if_neg q, if_neg q, List.length_append]; rfl
theorem dst_0 (x : Nat) : dst x x = 0 := by unfold dst; split <;> omega
theorem dst_n (x y : Nat) : 0 ≤ dst x y := by unfold dst; split <;> omega
theorem dst_t (x y z : Nat) : dst x y ≤ dst y z + dst x z := by unfold dst; split <;> split <;> split <;> omega
theorem dst_u (x y z : Nat) : dst x z ≤ dst x y + dst z y := by unfold dst; split <;> split <;> split <;> omega
/-- the houses between which a round must go -/
def spn (A : Nat → Int) (fr lw hg : Nat) : Prop := lw ≤ fr ∧ fr ≤ hg ∧ hg < 8 ∧ (∀ h, h < 8 → ¬ A (29 + h) = 0 → lw ≤ h ∧ h ≤ hg) ∧ (lw = fr ∨ ¬ A (29 + lw) = 0) ∧ (hg = fr ∨ ¬ A (29 + hg) = 0)
theorem spn_vis {A : Nat → Int} {fr lw hg lo hi : Nat} (s : spn A fr lw hg) (h1 : lo ≤ fr) (h2 : fr ≤ hi) (h3 : hi < 8) : skN A 0 8 ≤ skN A lo (hi + 1 - lo) ↔ lo ≤ lw ∧ hg ≤ hi := by
  obtain ⟨a, b, c, e, f, g⟩ := s
  have e1 : skN A 0 8 = skN A 0 lo + skN A lo (hi + 1 - lo) + skN A (hi + 1) (7 - hi) := by
    rw [show (8 : Nat) = lo + ((hi + 1 - lo) + (7 - hi)) by omega, skN_add, skN_add, Nat.zero_add, show lo + (hi + 1 - lo) = hi + 1 by omega, Nat.add_assoc]
  have l0 := skN_0 A 0 lo
  have r0 := skN_0 A (hi + 1) (7 - hi)
  constructor
  · intro q
    have z1 := l0.1 (by omega)
    have z2 := r0.1 (by omega)
    refine ⟨?_, ?_⟩
    · by_cases w : lo ≤ lw
      · exact w
      · exact absurd (z1 lw (by omega) (by omega)) (f.resolve_left (by omega))
    · by_cases w : hg ≤ hi
      · exact w
      · exact absurd (z2 hg (by omega) (by omega)) (g.resolve_left (by omega))
  · intro q
    have z1 := l0.2 (fun h x y => by
      by_cases w : A (29 + h) = 0
      · exact w
      · have := e h (by omega) w; omega)
    have z2 := r0.2 (fun h x y => by
      by_cases w : A (29 + h) = 0
      · exact w
      · have := e h (by omega) w; omega)
    omega
theorem rb_dv {A : Nat → Int} {fr lw hg tu left : Nat} {b : Nat → Bool} (s : spn A fr lw hg) (hl : left = skN A 0 8) (ht : ∀ k, k < 7 → tu.testBit k = !(b k)) : ∀ (f k lo hi now : Nat) (t : Int) (l : List Nat), f + k = 8 → k ≤ hg - lw → lo ≤ fr → fr ≤ hi → lw ≤ lo → hi ≤ hg → k = hi - lo → cB b k (hg - lw - k) = lo - lw → l.length = skN A lo (hi + 1 - lo) → mRb A tu left f k lo hi now t l = cDv A b (hg - lw) f k lo hi now t l := by
  intro f
  induction f with
  | zero => intro k lo hi now t l _ _ _ _ _ _ _ _ _; rfl
  | succ f ih =>
    intro k lo hi now t l hf hk h1 h2 h3 h4 h5 h6 h7
    have v := spn_vis s h1 h2 (by have := s.2.2.1; omega)
    have s8 := s.2.2.1
    rw [mRb, cDv]
    by_cases q : hg - lw ≤ k
    · rw [if_pos q, if_pos (by rw [hl, h7]; exact v.2 (by omega))]
    · rw [if_neg q, if_neg (fun z => by rw [hl, h7] at z; have := v.1 z; omega)]
      have ht9 := ht k (by omega)
      have c9 := cB_s b k (hg - lw - k - 1)
      rw [show hg - lw - k - 1 + 1 = hg - lw - k by omega, h6] at c9
      cases hb : b k with
      | true =>
        rw [hb] at ht9 c9
        simp only [Bool.not_true] at ht9
        simp only [if_true] at c9
        have eT : rbT tu k lo hi = (lo : Int) - 1 := by unfold rbT; rw [ht9]; rfl
        have eD : dvT b k lo hi = (lo : Int) - 1 := by unfold dvT; rw [hb]; rfl
        have eN : ((lo : Int) - 1).toNat = lo - 1 := by omega
        rw [eT, eD, eN, if_neg (by omega), if_neg (show ¬ ¬ (0 ≤ (lo : Int) - 1 ∧ (lo : Int) - 1 < 8) by omega), ht9]
        simp only [if_true, if_false, Bool.false_eq_true]
        split
        · rename_i w
          refine ih (k + 1) (lo - 1) hi (lo - 1) _ _ (by omega) (by omega) (by omega) h2 (by omega) h4 (by omega) (by rw [show hg - lw - (k + 1) = hg - lw - k - 1 by omega]; omega) ?_
          rw [duT_ln A l w, h7, show hi + 1 - (lo - 1) = (hi + 1 - lo) + 1 by omega, skN_s, show lo - 1 + 1 = lo by omega, Nat.add_comm]
        · rfl
      | false =>
        rw [hb] at ht9 c9
        simp only [Bool.not_false] at ht9
        simp only [Bool.false_eq_true, if_false] at c9
        have eT : rbT tu k lo hi = (hi : Int) + 1 := by unfold rbT; rw [ht9]; rfl
        have eD : dvT b k lo hi = (hi : Int) + 1 := by unfold dvT; rw [hb]; rfl
        have eN : ((hi : Int) + 1).toNat = hi + 1 := by omega
        have cl := cB_le b (k + 1) (hg - lw - k - 1)
        rw [eT, eD, eN, if_neg (by omega), if_neg (show ¬ ¬ (0 ≤ (hi : Int) + 1 ∧ (hi : Int) + 1 < 8) by omega), ht9]
        simp only [if_true, if_false, Bool.false_eq_true]
        split
        · rename_i w
          refine ih (k + 1) lo (hi + 1) (hi + 1) _ _ (by omega) (by omega) h1 (by omega) h3 (by omega) (by omega) (by rw [show hg - lw - (k + 1) = hg - lw - k - 1 by omega]; omega) ?_
          rw [duT_ln A l w, h7, show hi + 1 + 1 - lo = (hi + 1 - lo) + 1 by omega, skN, show lo + (hi + 1 - lo) = hi + 1 by omega]
        · rfl
set_option maxHeartbeats 16000000 in
/-- each of the model's rounds is met by one of the class's that is no later -/
theorem rb_dom {A : Nat → Int} {fr lw hg tu left : Nat} (s : spn A fr lw hg) (hl : left = skN A 0 8) : ∀ (f k lo hi now : Nat) (t : Int) (l : List Nat) (x : Int × List Nat), mRb A tu left f k lo hi now t l = some x → lo ≤ fr → fr ≤ hi → hi < 8 → l.length = skN A lo (hi + 1 - lo) → ∀ (i p lo2 hi2 : Nat) (t2 : Int), t2 + dst p now ≤ t → lo2 = max lo lw → hi2 = min hi hg → i = hi2 - lo2 → ∃ b : Nat → Bool, cB b i (hg - lw - i) = lo2 - lw ∧ ∃ t3, t3 ≤ x.1 ∧ ∀ b' : Nat → Bool, (∀ j, i ≤ j → j < hg - lw → b' j = b j) → cDv A b' (hg - lw) (8 - i) i lo2 hi2 p t2 l = some (t3, x.2) := by
  intro f
  induction f with
  | zero => intro k lo hi now t l x h; cases h
  | succ f ih =>
    intro k lo hi now t l x h h1 h2 h3 h7 i p lo2 hi2 t2 ht e1 e2 e3
    have v := spn_vis s h1 h2 h3
    have s1 := s.1
    have s2 := s.2.1
    have s3 := s.2.2.1
    have s4 := s.2.2.2.1
    clear s
    rw [mRb] at h
    split at h
    · rename_i w
      cases h
      rw [hl, h7] at w
      have w := v.1 w
      refine ⟨fun _ => true, ?_, t2, ?_, ?_⟩
      · rw [show hg - lw - i = 0 by omega]; show 0 = _; omega
      · show t2 ≤ t
        have := dst_n p now; omega
      · intro b' _
        rw [show 8 - i = (7 - i) + 1 by omega, cDv, if_pos (by omega)]
    · split at h
      · cases h
      · rename_i w0 w
        split at h
        · rename_i on
          cases hb : tu.testBit k with
          | true =>
            have eT : rbT tu k lo hi = (hi : Int) + 1 := by unfold rbT; rw [hb]; rfl
            have eN : ((hi : Int) + 1).toNat = hi + 1 := by omega
            rw [eT] at w
            rw [eT, eN, hb] at h
            rw [eT, eN] at on
            simp only [if_true] at h
            have hl' : (duT A (hi + 1) (t + dst (hi + 1) now) l).length = skN A lo (hi + 1 + 1 - lo) := by
              rw [duT_ln A l on, h7, show hi + 1 + 1 - lo = (hi + 1 - lo) + 1 by omega, skN, show lo + (hi + 1 - lo) = hi + 1 by omega]
            by_cases q : hi + 1 ≤ hg
            · have tr := dst_u (hi + 1) now p
              obtain ⟨b, hb1, t3, ht3, H⟩ := ih (k + 1) lo (hi + 1) (hi + 1) _ _ x h h1 (by omega) (by omega) hl' (i + 1) (hi + 1) lo2 (hi + 1) (t2 + dst (hi + 1) p) (by rw [dst_0]; omega) e1 (by omega) (by omega)
              refine ⟨fun j => if j = i then false else b j, ?_, t3, ht3, ?_⟩
              · rw [show hg - lw - i = (hg - lw - (i + 1)) + 1 by omega, cB_s, if_pos rfl, cB_c (c := b) _ (fun j x y => if_neg (by omega)), hb1]
                simp
              · intro b' hb'
                have bi : b' i = false := (hb' i (by omega) (by omega)).trans (if_pos rfl)
                have eD : dvT b' i lo2 hi2 = (hi : Int) + 1 := by unfold dvT; rw [bi, show hi2 = hi by omega]; rfl
                have on2 : A (29 + (hi + 1)) = 0 ∨ t2 + dst (hi + 1) p ≤ A (29 + (hi + 1)) - 1 := by omega
                rw [show 8 - i = (8 - (i + 1)) + 1 by omega, cDv, eD, eN, if_neg (by omega), if_neg (by omega), if_pos on2, bi]
                simp only [Bool.false_eq_true, if_false]
                rw [duT_on A l on2, ← duT_on A l on]
                exact H b' (fun j x y => (hb' j (by omega) y).trans (if_neg (by omega)))
            · have z : A (29 + (hi + 1)) = 0 := by
                by_cases y : A (29 + (hi + 1)) = 0
                · exact y
                · have := s4 (hi + 1) (by omega) y; omega
              have tr := dst_u p now (hi + 1)
              have eL : duT A (hi + 1) (t + dst (hi + 1) now) l = l := by rw [duT_on A l on, if_pos z]
              rw [eL] at h hl'
              exact ih (k + 1) lo (hi + 1) (hi + 1) _ _ x h h1 (by omega) (by omega) hl' i p lo2 hi2 t2 (by omega) e1 (by omega) e3
          | false =>
            have eT : rbT tu k lo hi = (lo : Int) - 1 := by unfold rbT; rw [hb]; rfl
            rw [eT] at w
            have eN : ((lo : Int) - 1).toNat = lo - 1 := by omega
            rw [eT, eN, hb] at h
            rw [eT, eN] at on
            simp only [Bool.false_eq_true, if_false] at h
            have hl' : (duT A (lo - 1) (t + dst (lo - 1) now) l).length = skN A (lo - 1) (hi + 1 - (lo - 1)) := by
              rw [duT_ln A l on, h7, show hi + 1 - (lo - 1) = (hi + 1 - lo) + 1 by omega, skN_s, show lo - 1 + 1 = lo by omega, Nat.add_comm]
            by_cases q : lw ≤ lo - 1 ∧ 1 ≤ lo
            · have tr := dst_u (lo - 1) now p
              obtain ⟨b, hb1, t3, ht3, H⟩ := ih (k + 1) (lo - 1) hi (lo - 1) _ _ x h (by omega) h2 h3 hl' (i + 1) (lo - 1) (lo - 1) hi2 (t2 + dst (lo - 1) p) (by rw [dst_0]; omega) (by omega) e2 (by omega)
              refine ⟨fun j => if j = i then true else b j, ?_, t3, ht3, ?_⟩
              · rw [show hg - lw - i = (hg - lw - (i + 1)) + 1 by omega, cB_s, if_pos rfl, cB_c (c := b) _ (fun j x y => if_neg (by omega)), hb1]
                simp
                omega
              · intro b' hb'
                have bi : b' i = true := (hb' i (by omega) (by omega)).trans (if_pos rfl)
                have eD : dvT b' i lo2 hi2 = (lo : Int) - 1 := by unfold dvT; rw [bi, show lo2 = lo by omega]; rfl
                have on2 : A (29 + (lo - 1)) = 0 ∨ t2 + dst (lo - 1) p ≤ A (29 + (lo - 1)) - 1 := by omega
                rw [show 8 - i = (8 - (i + 1)) + 1 by omega, cDv, eD, eN, if_neg (by omega), if_neg (by omega), if_pos on2, bi]
                simp only [if_true]
                rw [duT_on A l on2, ← duT_on A l on]
                exact H b' (fun j x y => (hb' j (by omega) y).trans (if_neg (by omega)))
            · have z : A (29 + (lo - 1)) = 0 := by
                by_cases y : A (29 + (lo - 1)) = 0
                · exact y
                · have := s4 (lo - 1) (by omega) y; omega
              have tr := dst_u p now (lo - 1)
              have eL : duT A (lo - 1) (t + dst (lo - 1) now) l = l := by rw [duT_on A l on, if_pos z]
              rw [eL] at h hl'
              exact ih (k + 1) (lo - 1) hi (lo - 1) _ _ x h (by omega) h2 h3 hl' i p lo2 hi2 t2 (by omega) (by omega) e2 e3
        · cases h
theorem bits_of : ∀ (n : Nat) (b : Nat → Bool), ∃ tu, tu < 2 ^ n ∧ ∀ j, j < n → tu.testBit j = b j := by
  intro n
  induction n with
  | zero => intro b; exact ⟨0, by decide, fun j hj => absurd hj (by omega)⟩
  | succ n ih =>
    intro b
    obtain ⟨tu, h1, h2⟩ := ih (fun j => b (j + 1))
    refine ⟨2 * tu + (if b 0 then 1 else 0), ?_, fun j hj => ?_⟩
    · rw [Nat.pow_succ]; split <;> omega
    · cases j with
      | zero =>
        rw [Nat.testBit_zero]
        cases hb : b 0 with
        | true => simp
        | false => simp
      | succ j =>
        rw [Nat.testBit_succ, show (2 * tu + (if b 0 then 1 else 0)) / 2 = tu by split <;> omega]
        exact h2 j (by omega)
theorem pcB_hi : ∀ n, n < 8 → ∀ k, k < 2 ^ n → pcB 7 k = pcB n k := by decide +kernel
theorem not_bits : ∀ k, k < 128 → ∀ i, i < 7 → (127 - k).testBit i = !(k.testBit i) := by decide +kernel
theorem pcB_cB (m : Nat) : ∀ n, pcB n m = cB (fun i => m.testBit i) 0 n := by
  intro n
  induction n with
  | zero => rfl
  | succ n ih => rw [pcB, cB, ih, Nat.zero_add]
/-- the class's round by the turns tu -/
def cRd (A : Nat → Int) (fr lw hg tu : Nat) : Option (Int × List Nat) := if pcB 7 tu = fr - lw then cDv A (fun i => tu.testBit i) (hg - lw) 8 0 fr fr fr 0 (duT A fr 0 []) else none
theorem mLy_fl (A : Nat → Int) (left fr : Nat) : ∀ k, mLy A left fr k = flO (mRd A left fr) k := by
  intro k
  induction k with
  | zero => rfl
  | succ k ih => rw [mLy, flO, ih]
theorem cRd_eq {A : Nat → Int} (hdu : ∀ k, k < 8 → 0 ≤ A (29 + k) ∧ A (29 + k) ≤ 31) {fr lw hg tu : Nat} (s : spn A fr lw hg) (ht : tu < 2 ^ (hg - lw)) (hp : pcB 7 tu = fr - lw) : mRd A (lfN A) fr (127 - tu) = cRd A fr lw hg tu := by
  have s3 := s.2.2.1
  have d := hdu fr (by have := s.2.1; omega)
  have p7 : 2 ^ (hg - lw) ≤ 2 ^ 7 := Nat.pow_le_pow_right (by decide) (by omega)
  have p128 : (2 : Nat) ^ 7 = 128 := rfl
  have on : A (29 + fr) = 0 ∨ (0 : Int) ≤ A (29 + fr) - 1 := by omega
  unfold mRd cRd
  rw [if_pos hp, if_pos on]
  refine rb_dv s (lfN_sk hdu) (fun k hk => not_bits tu (by omega) k hk) 8 0 fr fr fr 0 _ (by omega) (by omega) (Nat.le_refl _) (Nat.le_refl _) s.1 s.2.1 (by omega) ?_ ?_
  · rw [Nat.sub_zero, ← pcB_cB, ← pcB_hi (hg - lw) (by omega) tu ht, hp]
  · rw [duT_ln A [] on, show fr + 1 - fr = 0 + 1 by omega, skN]; rfl
theorem cart_eq {A : Nat → Int} (hdu : ∀ k, k < 8 → 0 ≤ A (29 + k) ∧ A (29 + k) ≤ 31) {fr lw hg : Nat} (s : spn A fr lw hg) : flO (cRd A fr lw hg) (2 ^ (hg - lw)) = mLy A (lfN A) fr 128 := by
  have s3 := s.2.2.1
  have f8 : fr < 8 := by have := s.2.1; omega
  have d := hdu fr f8
  have p7 : 2 ^ (hg - lw) ≤ 2 ^ 7 := Nat.pow_le_pow_right (by decide) (by omega)
  have p128 : (2 : Nat) ^ 7 = 128 := rfl
  have on : A (29 + fr) = 0 ∨ (0 : Int) ≤ A (29 + fr) - 1 := by omega
  have hG : ∀ k, k < 128 → ∀ x, mRd A (lfN A) fr k = some x → okX (lfN A) x := fun k _ x hx => by
    have q := mRd_ok A (left := lfN A) k f8 (fun z => lfN_1 f8 (by omega)) x hx
    exact ⟨q.1, q.2.1⟩
  have h1 : ∀ k, k < 2 ^ (hg - lw) → ∀ x, cRd A fr lw hg k = some x → ∃ j, j < 128 ∧ mRd A (lfN A) fr j = some x := fun k hk x hx => by
    have hp : pcB 7 k = fr - lw := by
      by_cases q : pcB 7 k = fr - lw
      · exact q
      · unfold cRd at hx; rw [if_neg q] at hx; cases hx
    exact ⟨127 - k, by omega, by rw [cRd_eq hdu s hk hp]; exact hx⟩
  rw [mLy_fl]
  refine flO_eq (m := lfN A) (fun k hk x hx => ?_) hG h1 ?_
  · obtain ⟨j, hj, e⟩ := h1 k hk x hx
    exact hG j hj x e
  · intro k hk x hx
    unfold mRd at hx
    rw [if_pos on] at hx
    obtain ⟨b, hb, t3, ht3, H⟩ := rb_dom s (lfN_sk hdu) 8 0 fr fr fr 0 _ x hx (Nat.le_refl _) (Nat.le_refl _) f8 (by rw [duT_ln A [] on, show fr + 1 - fr = 0 + 1 by omega, skN]; rfl) 0 fr fr fr 0 (by rw [dst_0]; exact Int.le_refl _) (by have := s.1; omega) (by have := s.2.1; omega) (by omega)
    obtain ⟨tu, h5, h6⟩ := bits_of (hg - lw) b
    refine ⟨tu, h5, (t3, x.2), ?_, rfl, ht3⟩
    have hp : pcB 7 tu = fr - lw := by
      rw [pcB_hi (hg - lw) (by omega) tu h5, pcB_cB, cB_c (c := b) _ (fun j _ y => h6 j (by omega)), ← hb, Nat.sub_zero]
    unfold cRd
    rw [if_pos hp]
    exact H _ (fun j _ y => h6 j y)
