/-! ===== rounds of the class and of the model: the choice of the best ===== -/
def cK (a : Nat → Int) : Nat → Nat → Int
  | 0, _ => 0
  | f + 1, k => a k * 8 ^ f + cK a f (k + 1)
theorem p8 (f : Nat) : (0 : Int) < 8 ^ f := Int.pow_pos (by decide)
theorem cK_ran {a : Nat → Int} : ∀ f k, (∀ i, k ≤ i → i < k + f → 0 ≤ a i ∧ a i < 8) → 0 ≤ cK a f k ∧ cK a f k < 8 ^ f := by
  intro f
  induction f with
  | zero => intro k _; exact ⟨Int.le_refl _, by show (0 : Int) < 8 ^ 0; decide⟩
  | succ f ih =>
    intro k h
    have i9 := ih (k + 1) (fun i x y => h i (by omega) (by omega))
    have ha := h k (by omega) (by omega)
    have p := p8 f
    have q1 : 0 ≤ a k * 8 ^ f := Int.mul_nonneg ha.1 (Int.le_of_lt p)
    have q2 : a k * 8 ^ f ≤ 7 * 8 ^ f := Int.mul_le_mul_of_nonneg_right (by omega) (Int.le_of_lt p)
    rw [cK, Int.pow_succ]
    omega
theorem cK_lt {a b : Nat → Int} {f k : Nat} (ha : ∀ i, k ≤ i → i < k + (f + 1) → 0 ≤ a i ∧ a i < 8) (hb : ∀ i, k ≤ i → i < k + (f + 1) → 0 ≤ b i ∧ b i < 8) (l : a k < b k) : cK a (f + 1) k < cK b (f + 1) k := by
  have ra := cK_ran (a := a) f (k + 1) (fun i x y => ha i (by omega) (by omega))
  have rb := cK_ran (a := b) f (k + 1) (fun i x y => hb i (by omega) (by omega))
  have q : (a k + 1) * 8 ^ f ≤ b k * 8 ^ f := Int.mul_le_mul_of_nonneg_right (by omega) (Int.le_of_lt (p8 f))
  rw [Int.add_mul, Int.one_mul] at q
  rw [cK, cK]
  omega
theorem lexF_cK {a b : Nat → Int} : ∀ f k, (∀ i, k ≤ i → i < k + f → 0 ≤ a i ∧ a i < 8) → (∀ i, k ≤ i → i < k + f → 0 ≤ b i ∧ b i < 8) → (lexF a b f k = 1 ↔ cK a f k < cK b f k) := by
  intro f
  induction f with
  | zero => intro k _ _; exact ⟨fun h => absurd h (by show ¬ (0 : Int) = 1; decide), fun h => absurd h (by show ¬ (0 : Int) < 0; decide)⟩
  | succ f ih =>
    intro k ha hb
    have i9 := ih (k + 1) (fun i x y => ha i (by omega) (by omega)) (fun i x y => hb i (by omega) (by omega))
    rw [lexF]
    by_cases e : a k = b k
    · rw [if_pos e, i9, cK, cK, e]; omega
    · rw [if_neg e]
      by_cases l : a k < b k
      · rw [if_pos l]
        exact ⟨fun _ => cK_lt ha hb l, fun _ => rfl⟩
      · rw [if_neg l]
        have := cK_lt hb ha (by omega)
        exact ⟨fun h => absurd h (by decide), fun h => by omega⟩
theorem cK_inj {a b : Nat → Int} : ∀ f k, (∀ i, k ≤ i → i < k + f → 0 ≤ a i ∧ a i < 8) → (∀ i, k ≤ i → i < k + f → 0 ≤ b i ∧ b i < 8) → cK a f k = cK b f k → ∀ i, k ≤ i → i < k + f → a i = b i := by
  intro f
  induction f with
  | zero => intro k _ _ _ i x y; omega
  | succ f ih =>
    intro k ha hb e i x y
    by_cases q : a k = b k
    · by_cases z : i = k
      · rw [z]; exact q
      · rw [cK, cK, q] at e
        exact ih (k + 1) (fun i x y => ha i (by omega) (by omega)) (fun i x y => hb i (by omega) (by omega)) (by omega) i (by omega) (by omega)
    · rcases Int.lt_or_gt_of_ne q with l | l
      · have := cK_lt ha hb l; omega
      · have := cK_lt hb ha l; omega
/-- a round's time and order as one number -/
def ky (n : Nat) (x : Int × List Nat) : Int := x.1 * 8 ^ n + cK (lget x.2) n 0
def okX (n : Nat) (x : Int × List Nat) : Prop := l8 x.2 ∧ x.2.length = n
theorem okX_d {n : Nat} {x : Int × List Nat} (h : okX n x) : ∀ i, 0 ≤ i → i < 0 + n → 0 ≤ lget x.2 i ∧ lget x.2 i < 8 := fun i _ y => h.1 i (by rw [h.2]; omega)
theorem ky_t {n : Nat} {x y : Int × List Nat} (hx : okX n x) (hy : okX n y) (l : x.1 < y.1) : ky n x < ky n y := by
  have ra := cK_ran n 0 (okX_d hx)
  have rb := cK_ran n 0 (okX_d hy)
  have q : (x.1 + 1) * 8 ^ n ≤ y.1 * 8 ^ n := Int.mul_le_mul_of_nonneg_right (by omega) (Int.le_of_lt (p8 n))
  rw [Int.add_mul, Int.one_mul] at q
  unfold ky
  omega
theorem ky_l {n : Nat} {x y : Int × List Nat} (hx : okX n x) (hy : okX n y) (e : x.1 = y.1) : lexL x.2 y.2 = 1 ↔ ky n x < ky n y := by
  unfold lexL ky
  rw [hx.2, lexF_cK n 0 (okX_d hx) (okX_d hy), e]
  omega
theorem ky_inj {n : Nat} {x y : Int × List Nat} (hx : okX n x) (hy : okX n y) (e : ky n x = ky n y) : x = y := by
  have e1 : x.1 = y.1 := by
    rcases Int.lt_trichotomy x.1 y.1 with l | l | l
    · have := ky_t hx hy l; omega
    · exact l
    · have := ky_t hy hx l; omega
  have e2 : cK (lget x.2) n 0 = cK (lget y.2) n 0 := by
    unfold ky at e
    rw [e1] at e
    omega
  have e3 := cK_inj n 0 (okX_d hx) (okX_d hy) e2
  have e4 : x.2 = y.2 := by
    apply List.ext_getElem (by rw [hx.2, hy.2])
    intro i h1 h2
    have k := e3 i (by omega) (by rw [hx.2] at h1; omega)
    unfold lget at k
    rw [List.getD_eq_getElem?_getD, List.getD_eq_getElem?_getD, List.getElem?_eq_getElem h1, List.getElem?_eq_getElem h2] at k
    simp at k
    omega
  exact Prod.ext e1 e4
theorem bet_n (b : Option (Int × List Nat)) : bet b none = b := by cases b <;> rfl
theorem bet_0 (c : Option (Int × List Nat)) : bet none c = c := by cases c <;> rfl
theorem bet_ky {n : Nat} {b c : Int × List Nat} (hb : okX n b) (hc : okX n c) : bet (some b) (some c) = if ky n c < ky n b then some c else some b := by
  show (if b.1 < c.1 ∨ (c.1 = b.1 ∧ lexL c.2 b.2 = 0) then some b else some c) = _
  rcases Int.lt_trichotomy b.1 c.1 with l | l | l
  · have := ky_t hb hc l
    rw [if_pos (Or.inl l), if_neg (by omega)]
  · have q := ky_l hc hb l.symm
    have z := lexF_01 (lget c.2) (lget b.2) c.2.length 0
    by_cases w : lexL c.2 b.2 = 1
    · rw [if_neg (by rintro (x | x) <;> omega), if_pos (q.1 w)]
    · rw [if_pos (Or.inr ⟨l.symm, by unfold lexL at *; omega⟩), if_neg (fun x => w (q.2 x))]
  · have := ky_t hc hb l
    rw [if_neg (by rintro (x | x) <;> omega), if_pos (by omega)]
/-- the best of the first n -/
def flO (F : Nat → Option (Int × List Nat)) : Nat → Option (Int × List Nat)
  | 0 => none
  | k + 1 => bet (flO F k) (F k)
theorem flO_spec {m : Nat} {F : Nat → Option (Int × List Nat)} : ∀ n, (∀ k, k < n → ∀ x, F k = some x → okX m x) → (flO F n = none ∧ ∀ k, k < n → F k = none) ∨ ∃ y, flO F n = some y ∧ okX m y ∧ (∃ k, k < n ∧ F k = some y) ∧ ∀ k, k < n → ∀ x, F k = some x → ky m y ≤ ky m x := by
  intro n
  induction n with
  | zero => intro _; exact Or.inl ⟨rfl, fun k hk => absurd hk (by omega)⟩
  | succ n ih =>
    intro hF
    rw [flO]
    have i9 := ih (fun k hk => hF k (by omega))
    cases hn : F n with
    | none =>
      rw [bet_n]
      rcases i9 with ⟨a, b⟩ | ⟨y, a, b, ⟨k, c, e⟩, g⟩
      · refine Or.inl ⟨a, fun k hk => ?_⟩
        by_cases q : k = n
        · rw [q]; exact hn
        · exact b k (by omega)
      · refine Or.inr ⟨y, a, b, ⟨k, by omega, e⟩, fun j hj x hx => ?_⟩
        by_cases q : j = n
        · rw [q, hn] at hx; cases hx
        · exact g j (by omega) x hx
    | some z =>
      have oz := hF n (by omega) z hn
      rcases i9 with ⟨a, b⟩ | ⟨y, a, b, ⟨k, c, e⟩, g⟩
      · rw [a, bet_0]
        refine Or.inr ⟨z, rfl, oz, ⟨n, by omega, hn⟩, fun j hj x hx => ?_⟩
        by_cases q : j = n
        · rw [q, hn] at hx; cases hx; omega
        · rw [b j (by omega)] at hx; cases hx
      · rw [a, bet_ky b oz]
        by_cases w : ky m z < ky m y
        · rw [if_pos w]
          refine Or.inr ⟨z, rfl, oz, ⟨n, by omega, hn⟩, fun j hj x hx => ?_⟩
          by_cases q : j = n
          · rw [q, hn] at hx; cases hx; omega
          · have := g j (by omega) x hx; omega
        · rw [if_neg w]
          refine Or.inr ⟨y, rfl, b, ⟨k, by omega, e⟩, fun j hj x hx => ?_⟩
          by_cases q : j = n
          · rw [q, hn] at hx; cases hx; omega
          · exact g j (by omega) x hx
/-- two choices are alike if the first's rounds are among the second's, and each of the second's is met by one of the first's that is no later -/
theorem flO_eq {m n1 n2 : Nat} {F G : Nat → Option (Int × List Nat)} (hF : ∀ k, k < n1 → ∀ x, F k = some x → okX m x) (hG : ∀ k, k < n2 → ∀ x, G k = some x → okX m x) (h1 : ∀ k, k < n1 → ∀ x, F k = some x → ∃ j, j < n2 ∧ G j = some x) (h2 : ∀ k, k < n2 → ∀ x, G k = some x → ∃ j, j < n1 ∧ ∃ y, F j = some y ∧ y.2 = x.2 ∧ y.1 ≤ x.1) : flO F n1 = flO G n2 := by
  rcases flO_spec n1 hF with ⟨a, b⟩ | ⟨y, a, b, ⟨k, c, e⟩, g⟩
  · rcases flO_spec n2 hG with ⟨a2, _⟩ | ⟨y2, _, _, ⟨k2, c2, e2⟩, _⟩
    · rw [a, a2]
    · obtain ⟨j, hj, y, hy, _⟩ := h2 k2 c2 y2 e2
      rw [b j hj] at hy; cases hy
  · rcases flO_spec n2 hG with ⟨_, b2⟩ | ⟨y2, a2, o2, ⟨k2, c2, e2⟩, g2⟩
    · obtain ⟨j, hj, hx⟩ := h1 k c y e
      rw [b2 j hj] at hx; cases hx
    · rw [a, a2]
      obtain ⟨j, hj, hx⟩ := h1 k c y e
      have l1 := g2 j hj y hx
      obtain ⟨i, hi, z, hz, z2, z1⟩ := h2 k2 c2 y2 e2
      have l2 := g i hi z hz
      have l3 : ky m z ≤ ky m y2 := by
        unfold ky
        rw [z2]
        have := Int.mul_le_mul_of_nonneg_right z1 (Int.le_of_lt (p8 m))
        omega
      rw [ky_inj b o2 (by omega)]
