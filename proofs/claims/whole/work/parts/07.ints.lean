/-! ===== whole numbers as ints: iZ z is the int of the whole number z; lZ z the long ===== -/
def iZ (z : Int) : Int32 := Int32.ofInt z
def lZ (z : Int) : Int64 := Int64.ofInt z
def inR (z : Int) : Prop := -2147483648 ≤ z ∧ z ≤ 2147483647
def inL (z : Int) : Prop := -9223372036854775808 ≤ z ∧ z ≤ 9223372036854775807
theorem iZ_toInt {z : Int} (h : inR z) : (iZ z).toInt = z := by
  unfold iZ
  rw [Int32.toInt_ofInt]
  obtain ⟨h1, h2⟩ := h
  exact Int.bmod_eq_of_le (m := 4294967296) (by omega) (by omega)
theorem lZ_toInt {z : Int} (h : inL z) : (lZ z).toInt = z := by
  unfold lZ
  rw [Int64.toInt_ofInt]
  obtain ⟨h1, h2⟩ := h
  exact Int.bmod_eq_of_le (m := 18446744073709551616) (by omega) (by omega)
theorem iZ_of (x : Int32) : x = iZ x.toInt := (Int32.ofInt_toInt x).symm
theorem iZ_ran (x : Int32) : inR x.toInt := ⟨Int32.le_toInt x, by have := Int32.toInt_lt x; omega⟩
theorem lZ_of (x : Int64) : x = lZ x.toInt := (Int64.ofInt_toInt x).symm
theorem iZ_add (x y : Int) : iZ x + iZ y = iZ (x + y) := (Int32.ofInt_add x y).symm
theorem iZ_sub (x y : Int) : iZ x - iZ y = iZ (x - y) := (Int32.ofInt_sub x y).symm
theorem iZ_mul (x y : Int) : iZ x * iZ y = iZ (x * y) := (Int32.ofInt_mul x y).symm
theorem iZ_neg (x : Int) : -iZ x = iZ (-x) := (Int32.ofInt_neg x).symm
theorem lZ_add (x y : Int) : lZ x + lZ y = lZ (x + y) := (Int64.ofInt_add x y).symm
theorem lZ_sub (x y : Int) : lZ x - lZ y = lZ (x - y) := (Int64.ofInt_sub x y).symm
theorem lZ_mul (x y : Int) : lZ x * lZ y = lZ (x * y) := (Int64.ofInt_mul x y).symm
theorem lZ_neg (x : Int) : -lZ x = lZ (-x) := (Int64.ofInt_neg x).symm
theorem iZ_lt {x y : Int} (hx : inR x) (hy : inR y) : iZ x < iZ y ↔ x < y := by
  rw [Int32.lt_iff_toInt_lt, iZ_toInt hx, iZ_toInt hy]
theorem iZ_le {x y : Int} (hx : inR x) (hy : inR y) : iZ x ≤ iZ y ↔ x ≤ y := by
  rw [Int32.le_iff_toInt_le, iZ_toInt hx, iZ_toInt hy]
theorem iZ_eq {x y : Int} (hx : inR x) (hy : inR y) : iZ x = iZ y ↔ x = y := by
  constructor
  · intro h
    have := congrArg Int32.toInt h
    rwa [iZ_toInt hx, iZ_toInt hy] at this
  · intro h; rw [h]
theorem lZ_lt {x y : Int} (hx : inL x) (hy : inL y) : lZ x < lZ y ↔ x < y := by
  rw [Int64.lt_iff_toInt_lt, lZ_toInt hx, lZ_toInt hy]
theorem lZ_le {x y : Int} (hx : inL x) (hy : inL y) : lZ x ≤ lZ y ↔ x ≤ y := by
  rw [Int64.le_iff_toInt_le, lZ_toInt hx, lZ_toInt hy]
theorem lZ_eq {x y : Int} (hx : inL x) (hy : inL y) : lZ x = lZ y ↔ x = y := by
  constructor
  · intro h
    have := congrArg Int64.toInt h
    rwa [lZ_toInt hx, lZ_toInt hy] at this
  · intro h; rw [h]
theorem iZ_clamp {z : Int} (h : inR z) : (iZ z).toNatClampNeg = z.toNat := by
  rw [← Int32.toNat_toInt, iZ_toInt h]
theorem iZ_in {z : Int} {n : Nat} (h0 : 0 ≤ z) (h1 : z < n) (hn : n < 2147483648) : vp_in (iZ z) n := by
  rw [vp_in_iff, iZ_toInt ⟨by omega, by omega⟩]
  exact ⟨h0, h1⟩
theorem iZ_nat (n : Nat) : iZ (n : Int) = nI n := by
  unfold iZ nI
  first | exact Int32.ofInt_natCast n | exact Int32.ofInt_eq_ofNat | rfl
theorem iZ_0 : iZ 0 = 0 := by decide +kernel
theorem iZ_i2l {x : Int} (h : inR x) : (iZ x).toInt64 = lZ x := by
  apply Int64.toInt_inj.mp
  rw [Int32.toInt_toInt64, iZ_toInt h, lZ_toInt ⟨by have := h.1; omega, by have := h.2; omega⟩]
theorem lZ_l2i (x : Int) : (lZ x).toInt32 = iZ x := by
  unfold lZ iZ
  first | exact Int64.toInt32_ofInt x | simp
theorem iZ_div {x y : Int} (hx : inR x) (hy : inR y) (h0 : 0 < y) : iZ x / iZ y = iZ (x.tdiv y) := by
  apply Int32.toInt_inj.mp
  have h9 : -2147483648 ≤ x.tdiv y ∧ x.tdiv y ≤ 2147483647 := by
    have e := Int.tdiv_mul_le x (Int.ne_of_gt h0)
    rcases Int.le_total 0 x with q | q
    · have q1 := Int.tdiv_nonneg q (Int.le_of_lt h0)
      have q2 : x.tdiv y ≤ x := Int.tdiv_le_self _ q
      have := hx.2
      exact ⟨by omega, by omega⟩
    · have q1 : 0 ≤ (-x).tdiv y := Int.tdiv_nonneg (by omega) (Int.le_of_lt h0)
      have q2 : (-x).tdiv y ≤ -x := Int.tdiv_le_self _ (by omega)
      rw [Int.neg_tdiv] at q1 q2
      have := hx.1
      exact ⟨by omega, by omega⟩
  rw [Int32.toInt_div, iZ_toInt hx, iZ_toInt hy, iZ_toInt h9]
  exact Int.bmod_eq_of_le (by omega) (by omega)
theorem iZ_rem {x y : Int} (hx : inR x) (hy : inR y) (h0 : 0 < y) : iZ x - iZ x / iZ y * iZ y = iZ (x.tmod y) := by
  rw [iZ_div hx hy h0, iZ_mul, iZ_sub]
  congr 1
  have h9 := Int.mul_tdiv_add_tmod x y
  rw [Int.mul_comm] at h9
  omega
theorem lZ_div {x y : Int} (hx : inL x) (hy : inL y) (h0 : y ≠ 0) (h1 : y ≠ -1) : lZ x / lZ y = lZ (x.tdiv y) := by
  apply Int64.toInt_inj.mp
  have h9 : inL (x.tdiv y) := by
    have e := Int.natAbs_tdiv_le_natAbs x y
    by_cases z : x = -9223372036854775808
    · have e2 : (x.tdiv y).natAbs * y.natAbs ≤ x.natAbs := by rw [Int.natAbs_tdiv]; exact Nat.div_mul_le_self _ _
      by_cases y1 : y = 1
      · subst y1; rw [Int.tdiv_one]; exact hx
      · have e3 : 2 ≤ y.natAbs := by omega
        have e4 : (x.tdiv y).natAbs * 2 ≤ x.natAbs := Nat.le_trans (Nat.mul_le_mul_left _ e3) e2
        unfold inL; omega
    · have := hx.1
      have := hx.2
      unfold inL; omega
  rw [Int64.toInt_div, lZ_toInt hx, lZ_toInt hy, lZ_toInt h9]
  obtain ⟨h1, h2⟩ := h9
  exact Int.bmod_eq_of_le (by omega) (by omega)
theorem lZ_cmp {x y : Int} (hx : inL x) (hy : inL y) : lg_cmp (lZ x) (lZ y) = iZ (if y < x then 1 else if x = y then 0 else -1) := by
  unfold lg_cmp
  simp only [lZ_lt hy hx, lZ_eq hx hy]
  by_cases h1 : y < x
  · simp only [if_pos h1]; decide +kernel
  · simp only [if_neg h1]
    by_cases h2 : x = y
    · simp only [if_pos h2]; decide +kernel
    · simp only [if_neg h2]; decide +kernel
