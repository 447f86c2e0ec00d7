/-! ===== tokens of a tape ===== -/
abbrev isLt (c : Int) : Prop := (97 ≤ c ∧ c ≤ 122) ∨ (65 ≤ c ∧ c ≤ 90)
abbrev isDg (c : Int) : Prop := 48 ≤ c ∧ c ≤ 57
def lEnd (b : Nat → Int) (n : Nat) : Nat → Nat → Nat
  | 0, p => p
  | f + 1, p => if p < n ∧ isLt (b p) then lEnd b n f (p + 1) else p
def dEnd (b : Nat → Int) (n : Nat) : Nat → Nat → Nat
  | 0, p => p
  | f + 1, p => if p < n ∧ isDg (b p) then dEnd b n f (p + 1) else p
def sEnd (b : Nat → Int) (n : Nat) : Nat → Nat → Nat
  | 0, p => p
  | f + 1, p => if p < n ∧ (b p = 32 ∨ b p = 10) then sEnd b n f (p + 1) else p
def dNum (b : Nat → Int) (n : Nat) : Nat → Nat → Int → Int
  | 0, _, a => a
  | f + 1, p, a => if p < n ∧ isDg (b p) then dNum b n f (p + 1) (min (a * 10 + b p - 48) 10000) else a
theorem lEnd_ran (b : Nat → Int) (n : Nat) : ∀ f p, p ≤ n → p ≤ lEnd b n f p ∧ lEnd b n f p ≤ n := by
  intro f
  induction f with
  | zero => intro p h; exact ⟨Nat.le_refl _, h⟩
  | succ f ih =>
    intro p h
    rw [lEnd]
    split
    · rename_i q; have := ih (p + 1) (by omega); omega
    · omega
theorem dEnd_ran (b : Nat → Int) (n : Nat) : ∀ f p, p ≤ n → p ≤ dEnd b n f p ∧ dEnd b n f p ≤ n := by
  intro f
  induction f with
  | zero => intro p h; exact ⟨Nat.le_refl _, h⟩
  | succ f ih =>
    intro p h
    rw [dEnd]
    split
    · rename_i q; have := ih (p + 1) (by omega); omega
    · omega
theorem sEnd_ran (b : Nat → Int) (n : Nat) : ∀ f p, p ≤ n → p ≤ sEnd b n f p ∧ sEnd b n f p ≤ n := by
  intro f
  induction f with
  | zero => intro p h; exact ⟨Nat.le_refl _, h⟩
  | succ f ih =>
    intro p h
    rw [sEnd]
    split
    · rename_i q; have := ih (p + 1) (by omega); omega
    · omega
/-- letters of a word, the last one first -/
def rl (b : Nat → Int) (s : Nat) : Nat → List Int
  | 0 => []
  | m + 1 => b (s + m) :: rl b s m
/-- where the words of the text begin, how long they are -/
def bgnL : List Nat := [0, 6, 12, 19, 24, 29, 35, 42, 48, 51, 56, 59, 65, 68, 73, 78, 82, 85, 89, 93, 98, 103, 110, 115, 121]
def wlnL : List Nat := [5, 5, 6, 4, 4, 5, 6, 5, 2, 4, 2, 5, 2, 4, 4, 3, 2, 3, 3, 4, 4, 6, 4, 5, 4]
def bgn (j : Nat) : Nat := bgnL.getD j 0
def wln (j : Nat) : Nat := wlnL.getD j 0
/-- whether letters are those of the text from bg on (1, 0) -/
def spl (b : Nat → Int) (s bg : Nat) : Nat → Nat → Int
  | 0, _ => 1
  | f + 1, i => if b (s + i) = stB 0 (bg + i) then spl b s bg f (i + 1) else 0
theorem spl_01 (b : Nat → Int) (s bg : Nat) : ∀ f i, spl b s bg f i = 0 ∨ spl b s bg f i = 1 := by
  intro f
  induction f with
  | zero => intro i; exact Or.inr rfl
  | succ f ih => intro i; rw [spl]; split; exact ih _; exact Or.inl rfl
theorem spl_all (b : Nat → Int) (s bg : Nat) : ∀ f i, spl b s bg f i = 1 ↔ ∀ k, i ≤ k → k < i + f → b (s + k) = stB 0 (bg + k) := by
  intro f
  induction f with
  | zero => intro i; exact ⟨fun _ k x y => by omega, fun _ => rfl⟩
  | succ f ih =>
    intro i
    rw [spl]
    by_cases q : b (s + i) = stB 0 (bg + i)
    · rw [if_pos q, ih (i + 1)]
      constructor
      · intro h k x y
        by_cases z : k = i
        · rw [z]; exact q
        · exact h k (by omega) (by omega)
      · intro h k x y; exact h k (by omega) (by omega)
    · rw [if_neg q]
      exact ⟨fun h => absurd h (by decide), fun h => absurd (h i (by omega) (by omega)) q⟩
/-- the first of m words that the m letters from s on are; none: 40 -/
def fW (b : Nat → Int) (s l : Nat) : Nat → Int
  | 0 => 40
  | m + 1 => if fW b s l m = 40 ∧ l = wln m ∧ spl b s (bgn m) l 0 = 1 then (m : Int) else fW b s l m
theorem fW_ran (b : Nat → Int) (s l : Nat) : ∀ m, m ≤ 25 → fW b s l m = 40 ∨ (0 ≤ fW b s l m ∧ fW b s l m < (m : Int)) := by
  intro m
  induction m with
  | zero => intro _; exact Or.inl rfl
  | succ m ih =>
    intro h
    rw [fW]
    split
    · exact Or.inr ⟨by omega, by omega⟩
    · rcases ih (by omega) with q | q
      · exact Or.inl q
      · exact Or.inr ⟨q.1, by omega⟩
theorem fW_end (b : Nat → Int) (s l : Nat) {m : Nat} (h : ¬ fW b s l m = 40) : ∀ k, fW b s l (m + k) = fW b s l m := by
  intro k
  induction k with
  | zero => rfl
  | succ k ih => rw [← Nat.add_assoc, fW, if_neg (fun z => h (ih ▸ z.1)), ih]
/-- how many words are behind us at i, where the word at i begins -/
def wdF : Nat → Nat
  | 0 => 0
  | i + 1 => if stB 0 i = 32 then wdF i + 1 else wdF i
def bgF : Nat → Nat
  | 0 => 0
  | i + 1 => if stB 0 i = 32 then i + 1 else bgF i
def wbL : List Int := [104, 111, 108, 100, 115, 32, 103, 105, 102, 116, 115, 32, 112, 101, 114, 115, 111, 110, 32, 107, 105, 110, 100, 32, 103, 111, 111, 100, 32, 116, 104, 97, 110, 107, 32, 115, 101, 116, 116, 108, 101, 32, 110, 105, 103, 104, 116, 32, 97, 116, 32, 111, 118, 101, 114, 32, 111, 102, 32, 104, 111, 117, 115, 101, 32, 105, 102, 32, 116, 104, 101, 110, 32, 101, 108, 115, 101, 32, 101, 110, 100, 32, 111, 114, 32, 97, 110, 100, 32, 110, 111, 116, 32, 115, 110, 111, 119, 32, 104, 101, 114, 101, 32, 112, 101, 111, 112, 108, 101, 32, 108, 101, 102, 116, 32, 114, 105, 103, 104, 116, 32, 108, 97, 115, 116, 32]
theorem stB_wb : ∀ i, i < 126 → stB 0 i = wbL.getD i 0 := by decide +kernel
def wd2 : Nat → Nat
  | 0 => 0
  | i + 1 => if wbL.getD i 0 = 32 then wd2 i + 1 else wd2 i
def bg2 : Nat → Nat
  | 0 => 0
  | i + 1 => if wbL.getD i 0 = 32 then i + 1 else bg2 i
theorem wdF_2 : ∀ i, i ≤ 126 → wdF i = wd2 i ∧ bgF i = bg2 i := by
  intro i
  induction i with
  | zero => intro _; exact ⟨rfl, rfl⟩
  | succ i ih => intro h; rw [wdF, bgF, wd2, bg2, stB_wb i (by omega), (ih (by omega)).1, (ih (by omega)).2]; exact ⟨rfl, rfl⟩
theorem wd2_ok : ∀ i, i < 126 → (wbL.getD i 0 = 32 → bg2 i = bgn (wd2 i) ∧ i = bgn (wd2 i) + wln (wd2 i)) ∧ bg2 i ≤ i ∧ wd2 i ≤ 24 := by decide +kernel
theorem wdF_ok {i : Nat} (h : i < 126) : (stB 0 i = 32 → bgF i = bgn (wdF i) ∧ i = bgn (wdF i) + wln (wdF i)) ∧ bgF i ≤ i ∧ wdF i ≤ 24 := by
  rw [(wdF_2 i (by omega)).1, (wdF_2 i (by omega)).2, stB_wb i h]
  exact wd2_ok i h
theorem wdF_126 : wdF 126 = 25 := by rw [(wdF_2 126 (by omega)).1]; decide +kernel
/-- the token that begins at s: what it is, where it ends, its number -/
def tkT (b : Nat → Int) (n s : Nat) : Int :=
  if n ≤ s then 39 else if isLt (b s) then fW b s (lEnd b n (n - s) s - s) 25 else if isDg (b s) then 38
  else if s + 1 < n ∧ b (s + 1) = 61 ∧ b s = 60 then 36 else if s + 1 < n ∧ b (s + 1) = 61 ∧ b s = 62 then 37
  else if sIx (b s) 11 0 < 0 then 40 else 25 + sIx (b s) 11 0
def tkE (b : Nat → Int) (n s : Nat) : Nat :=
  if n ≤ s then s else if isLt (b s) then lEnd b n (n - s) s else if isDg (b s) then dEnd b n (n - s) s
  else if s + 1 < n ∧ b (s + 1) = 61 ∧ (b s = 60 ∨ b s = 62) then s + 2 else s + 1
def tkN (b : Nat → Int) (n s : Nat) : Int := if n ≤ s then 0 else if isLt (b s) then 0 else if isDg (b s) then dNum b n (n - s) s 0 else 0
/-- where the search for token k begins, where it stands -/
def tkP (b : Nat → Int) (n : Nat) : Nat → Nat
  | 0 => 0
  | k + 1 => tkE b n (sEnd b n (n - tkP b n k) (tkP b n k))
def tkS (b : Nat → Int) (n k : Nat) : Nat := sEnd b n (n - tkP b n k) (tkP b n k)
theorem tkE_ran {b : Nat → Int} {n s : Nat} (h : s < n) : s < tkE b n s ∧ tkE b n s ≤ n := by
  unfold tkE
  rw [if_neg (by omega)]
  obtain ⟨m, hm⟩ : ∃ m, n - s = m + 1 := ⟨n - s - 1, by omega⟩
  by_cases q : isLt (b s)
  · rw [if_pos q, hm, lEnd, if_pos ⟨h, q⟩]
    have := lEnd_ran b n m (s + 1) (by omega); omega
  · rw [if_neg q]
    by_cases q2 : isDg (b s)
    · rw [if_pos q2, hm, dEnd, if_pos ⟨h, q2⟩]
      have := dEnd_ran b n m (s + 1) (by omega); omega
    · rw [if_neg q2]
      split <;> omega
theorem tkP_ran (b : Nat → Int) (n : Nat) : ∀ k, tkP b n k ≤ n := by
  intro k
  induction k with
  | zero => exact Nat.zero_le _
  | succ k ih =>
    rw [tkP]
    have := sEnd_ran b n (n - tkP b n k) (tkP b n k) ih
    by_cases q : sEnd b n (n - tkP b n k) (tkP b n k) < n
    · exact (tkE_ran q).2
    · unfold tkE; rw [if_pos (by omega)]; exact this.2
theorem tkS_ran (b : Nat → Int) (n k : Nat) : tkP b n k ≤ tkS b n k ∧ tkS b n k ≤ n := sEnd_ran b n _ _ (tkP_ran b n k)
theorem sEnd_e {b : Nat → Int} {n : Nat} : ∀ f p, p ≤ n → n - p ≤ f → sEnd b n f p = sEnd b n (n - p) p := by
  intro f
  induction f with
  | zero => intro p h1 h2; rw [show n - p = 0 by omega]
  | succ f ih =>
    intro p h1 h2
    by_cases q : p < n
    · obtain ⟨m, hm⟩ : ∃ m, n - p = m + 1 := ⟨n - p - 1, by omega⟩
      rw [hm, sEnd, sEnd]
      split
      · rw [ih (p + 1) (by omega) (by omega), show n - (p + 1) = m by omega]
      · rfl
    · rw [show n - p = 0 by omega]
      show (if p < n ∧ (b p = 32 ∨ b p = 10) then sEnd b n f (p + 1) else p) = p
      rw [if_neg (by omega)]
/-- a blank passed over -/
theorem sEnd_b {b : Nat → Int} {n p : Nat} (h : p < n) (hb : b p = 32 ∨ b p = 10) : sEnd b n (n - p) p = sEnd b n (n - (p + 1)) (p + 1) := by
  obtain ⟨m, hm⟩ : ∃ m, n - p = m + 1 := ⟨n - p - 1, by omega⟩
  rw [hm, sEnd, if_pos ⟨h, hb⟩, show n - (p + 1) = m by omega]
theorem sEnd_n {b : Nat → Int} {n p : Nat} (h : ¬ (p < n ∧ (b p = 32 ∨ b p = 10))) : sEnd b n (n - p) p = p := by
  cases hm : n - p with
  | zero => rfl
  | succ m => rw [sEnd, if_neg h]
