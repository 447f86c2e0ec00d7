/-! ===== the model's tokens ===== -/
theorem lZ_nat (n : Nat) : lZ (n : Int) = Int64.ofNat n := by
  unfold lZ
  rw [Int64.ofInt_eq_ofNat]
theorem g_shl {a k p : Nat} {y : Int64} (hy : y.toBitVec.smod 64 = BitVec.ofNat 64 k) (hk : k < 64) (hp : 2 ^ k = p) (ha : a < 2 ^ 64) : lN a <<< y = lN (a * p) := by
  subst hp
  apply Int64.toBitVec_inj.mp
  rw [Int64.toBitVec_shiftLeft, hy]
  apply BitVec.eq_of_toNat_eq
  have hb : (lN a).toBitVec.toNat = a := Nat.mod_eq_of_lt ha
  have hk' : (BitVec.ofNat 64 k).toNat = k := Nat.mod_eq_of_lt (by omega)
  have h : ((lN a).toBitVec <<< BitVec.ofNat 64 k).toNat = (a * 2 ^ k) % 2 ^ 64 := by simp only [BitVec.shiftLeft_eq', BitVec.toNat_shiftLeft, hb, hk', Nat.shiftLeft_eq]
  exact h
theorem z_lshl8 {Y : gY} {M : gM} {d : Nat} {b : gB} {Q : Option Value → gH → Prop} {pc : Nat} {L : List (Option Value)} {S : List Value} {h : gH} {x : Int} (hd : decode M.2.1 pc = .ok (.lshl, 1)) (hx : 0 ≤ x ∧ x < 281474976710656) (k : gE Y M d b Q (pc + 1) L (.long (lZ (x * 256)) :: S) h) : gE Y M d b Q pc L (.int (iZ 8) :: .long (lZ x) :: S) h := by
  refine q_lshl hd ?_
  obtain ⟨m, rfl⟩ : ∃ m : Nat, x = (m : Int) := ⟨x.toNat, by omega⟩
  have q := g_shl (a := m) (k := 8) (p := 256) (y := (iZ 8).toInt64 &&& 63) (by decide +kernel) (by decide) (by decide) (by omega)
  rw [lZ_nat, show Int64.ofNat m = lN m from rfl, q]
  rw [show (m : Int) * 256 = ((m * 256 : Nat) : Int) by omega, lZ_nat] at k
  exact k
theorem z_lshr48 {Y : gY} {M : gM} {d : Nat} {b : gB} {Q : Option Value → gH → Prop} {pc : Nat} {L : List (Option Value)} {S : List Value} {h : gH} {x : Int} (hd : decode M.2.1 pc = .ok (.lshr, 1)) (hx : 0 ≤ x ∧ x < 9223372036854775808) (k : gE Y M d b Q (pc + 1) L (.long (lZ (x / 281474976710656)) :: S) h) : gE Y M d b Q pc L (.int (iZ 48) :: .long (lZ x) :: S) h := by
  refine q_lshr hd ?_
  have e : (lZ x).toInt = x := lZ_toInt ⟨by omega, by omega⟩
  have hD : (((iZ 48).toInt64 &&& 63).toBitVec.smod 64).toNat = 48 := by decide +kernel
  have q : (lZ x >>> ((iZ 48).toInt64 &&& 63)).toInt = (lZ x).toInt >>> 48 := by
    rw [← hD]
    exact BitVec.toInt_sshiftRight ..
  rw [lZ_of (lZ x >>> ((iZ 48).toInt64 &&& 63)), q, e, Int.shiftRight_eq_div_pow]
  exact k
theorem lZ_or (m k : Nat) : lZ (m : Int) ||| lZ (k : Int) = lZ ((m ||| k : Nat) : Int) := by
  simp only [lZ_nat]
  apply Int64.toBitVec_inj.mp
  rw [Int64.toBitVec_or]
  show BitVec.ofNat 64 m ||| BitVec.ofNat 64 k = BitVec.ofNat 64 (m ||| k)
  rw [BitVec.ofNat_or]
theorem z_lorP {Y : gY} {M : gM} {d : Nat} {b : gB} {Q : Option Value → gH → Prop} {pc : Nat} {L : List (Option Value)} {S : List Value} {h : gH} {x y : Int} (hd : decode M.2.1 pc = .ok (.lor, 1)) (hx : 0 ≤ x) (hy : 0 ≤ y ∧ y < 256) (k : gE Y M d b Q (pc + 1) L (.long (lZ (x * 256 + y)) :: S) h) : gE Y M d b Q pc L (.long (lZ y) :: .long (lZ (x * 256)) :: S) h := by
  refine q_lor hd ?_
  obtain ⟨m, rfl⟩ : ∃ m : Nat, x = (m : Int) := ⟨x.toNat, by omega⟩
  obtain ⟨c, rfl⟩ : ∃ c : Nat, y = (c : Int) := ⟨y.toNat, by omega⟩
  have e := Nat.shiftLeft_add_eq_or_of_lt (i := 8) (b := c) (by omega) m
  rw [Nat.shiftLeft_eq] at e
  rw [show ((m : Int) * 256) = ((m * 2 ^ 8 : Nat) : Int) by omega, lZ_or, ← e, show ((m * 2 ^ 8 + c : Nat) : Int) = (m : Int) * 256 + (c : Int) by omega]
  exact k
/-- letters packed, the last one first -/
def pkL : List Int → Int
  | [] => 0
  | c :: r => if pkL r / 281474976710656 = 0 then pkL r * 256 + c else 1152921504606846976
theorem pkL_ran : ∀ l : List Int, (∀ c ∈ l, 1 ≤ c ∧ c < 256) → 0 ≤ pkL l ∧ pkL l ≤ 1152921504606846976 := by
  intro l
  induction l with
  | nil => intro _; exact ⟨by decide, by decide⟩
  | cons c r ih =>
    intro h
    have hc := h c (List.mem_cons_self ..)
    have hr := ih (fun x hx => h x (List.mem_cons_of_mem _ hx))
    rw [pkL]
    split <;> omega
/-- packed letters below 2 to the 48 say the letters -/
theorem pkL_inj : ∀ l m : List Int, (∀ c ∈ l, 1 ≤ c ∧ c < 256) → (∀ c ∈ m, 1 ≤ c ∧ c < 256) → pkL m < 281474976710656 → pkL l = pkL m → l = m := by
  intro l
  induction l with
  | nil =>
    intro m _ hm hlt e
    cases m with
    | nil => rfl
    | cons c r =>
      have hc := hm c (List.mem_cons_self ..)
      have hr := pkL_ran r (fun x hx => hm x (List.mem_cons_of_mem _ hx))
      rw [pkL] at e hlt
      rw [show pkL [] = 0 from rfl] at e
      split at e <;> omega
  | cons c r ih =>
    intro m hl hm hlt e
    have hc := hl c (List.mem_cons_self ..)
    have hr := pkL_ran r (fun x hx => hl x (List.mem_cons_of_mem _ hx))
    cases m with
    | nil =>
      rw [show pkL [] = 0 from rfl, pkL] at e
      split at e <;> omega
    | cons x y =>
      have hx := hm x (List.mem_cons_self ..)
      have hy := pkL_ran y (fun z hz => hm z (List.mem_cons_of_mem _ hz))
      rw [pkL] at hlt
      rw [pkL, pkL] at e
      by_cases q : pkL y / 281474976710656 = 0
      · rw [if_pos q] at e hlt
        by_cases q2 : pkL r / 281474976710656 = 0
        · rw [if_pos q2] at e
          have e1 : c = x := by omega
          have e2 : pkL r = pkL y := by omega
          rw [e1, ih y (fun z hz => hl z (List.mem_cons_of_mem _ hz)) (fun z hz => hm z (List.mem_cons_of_mem _ hz)) (by omega) e2]
        · rw [if_neg q2] at e; omega
      · rw [if_neg q] at hlt; omega
theorem rl_len (b : Nat → Int) (s : Nat) : ∀ m, (rl b s m).length = m := by
  intro m
  induction m with
  | zero => rfl
  | succ m ih => rw [rl, List.length_cons, ih]
theorem rl_mem {b : Nat → Int} {s : Nat} {P : Int → Prop} : ∀ m, (∀ i, i < m → P (b (s + i))) → ∀ c ∈ rl b s m, P c := by
  intro m
  induction m with
  | zero => intro _ c hc; cases hc
  | succ m ih =>
    intro h c hc
    rw [rl, List.mem_cons] at hc
    rcases hc with rfl | hc
    · exact h m (by omega)
    · exact ih (fun i hi => h i (by omega)) c hc
theorem rl_eq {b c : Nat → Int} {s t : Nat} : ∀ m, rl b s m = rl c t m ↔ ∀ i, i < m → b (s + i) = c (t + i) := by
  intro m
  induction m with
  | zero => exact ⟨fun _ i hi => by omega, fun _ => rfl⟩
  | succ m ih =>
    rw [rl, rl, List.cons.injEq, ih]
    constructor
    · intro h i hi
      by_cases q : i = m
      · rw [q]; exact h.1
      · exact h.2 i (by omega)
    · intro h; exact ⟨h m (by omega), fun i hi => h i (by omega)⟩
def pkWL : List Int := [448545973363, 444149953651, 123581014175598, 1802071652, 1735356260, 499967422059, 126879582678117, 474214787188, 24948, 1870030194, 28518, 448546567013, 26982, 1952998766, 1701606245, 6647396, 28530, 6385252, 7237492, 1936617335, 1751478885, 123580963646565, 1818584692, 491394656372, 1818325876]
def pkW (j : Nat) : Int := pkWL.getD j 0
theorem pkW_ok : ∀ j, j < 25 → pkL (rl (fun i => wbL.getD i 0) (bgn j) (wln j)) = pkW j ∧ pkW j < 281474976710656 ∧ bgn j + wln j ≤ 126 ∧ ∀ i, i < wln j → 1 ≤ wbL.getD (bgn j + i) 0 ∧ wbL.getD (bgn j + i) 0 < 256 := by decide +kernel
theorem wd_dif : ∀ j, j < 25 → ∀ i, i < 25 → pkW i = pkW j → i = j := by decide +kernel
/-- a word's letters packed are those of word j just where it is word j -/
theorem word_j {b : Nat → Int} {s l : Nat} (hb : ∀ i, i < l → isLt (b (s + i))) {j : Nat} (hj : j < 25) : pkL (rl b s l) = pkW j ↔ fW b s l 25 = (j : Int) := by
  have ok := pkW_ok j hj
  have hm : ∀ k, k < 25 → ((l = wln k ∧ spl b s (bgn k) l 0 = 1) ↔ pkL (rl b s l) = pkW k) := by
    intro k hk
    have ok := pkW_ok k hk
    have m1 : ∀ c ∈ rl b s l, 1 ≤ c ∧ c < 256 := rl_mem l (fun i hi => by have := hb i hi; unfold isLt at this; omega)
    have m2 : ∀ c ∈ rl (fun i => wbL.getD i 0) (bgn k) (wln k), 1 ≤ c ∧ c < 256 := rl_mem (wln k) (fun i hi => ok.2.2.2 i hi)
    rw [← ok.1]
    constructor
    · rintro ⟨e1, e2⟩
      rw [← e1]
      congr 1
      rw [rl_eq]
      intro i hi
      rw [(spl_all b s (bgn k) l 0).1 e2 i (by omega) (by omega)]
      exact stB_wb _ (by omega)
    · intro e
      have e3 := pkL_inj _ _ m1 m2 (by rw [ok.1]; exact ok.2.1) e
      have e4 : l = wln k := by
        have := congrArg List.length e3
        rw [rl_len, rl_len] at this
        exact this
      refine ⟨e4, (spl_all b s (bgn k) l 0).2 (fun i _ hi => ?_)⟩
      rw [← e4, rl_eq] at e3
      rw [e3 i (by omega)]
      exact (stB_wb _ (by omega)).symm
  have key : ∀ m, m ≤ 25 → (∀ k, k < m → pkL (rl b s l) = pkW k → fW b s l m = (k : Int)) ∧ (fW b s l m = 40 ∨ ∃ k, k < m ∧ fW b s l m = (k : Int) ∧ pkL (rl b s l) = pkW k) := by
    intro m
    induction m with
    | zero => intro _; exact ⟨fun k hk => by omega, Or.inl rfl⟩
    | succ m ih =>
      intro h9
      obtain ⟨i1, i2⟩ := ih (by omega)
      rw [fW]
      by_cases q : pkL (rl b s l) = pkW m
      · have q2 := (hm m (by omega)).2 q
        have f40 : fW b s l m = 40 := by
          rcases i2 with z | ⟨k, hk, _, z⟩
          · exact z
          · have := wd_dif m (by omega) k (by omega) (z.symm.trans q); omega
        rw [if_pos ⟨f40, q2⟩]
        exact ⟨fun k hk e => by rw [wd_dif m (by omega) k (by omega) (e.symm.trans q)], Or.inr ⟨m, by omega, rfl, q⟩⟩
      · rw [if_neg (fun z => q ((hm m (by omega)).1 z.2))]
        refine ⟨fun k hk e => ?_, ?_⟩
        · by_cases z : k = m
          · rw [z] at e; exact absurd e q
          · exact i1 k (by omega) e
        · rcases i2 with z | ⟨k, hk, z⟩
          · exact Or.inl z
          · exact Or.inr ⟨k, by omega, z⟩
  obtain ⟨k1, k2⟩ := key 25 (Nat.le_refl _)
  constructor
  · exact fun e => k1 j hj e
  · intro e
    rcases k2 with z | ⟨k, hk, z1, z2⟩
    · rw [z] at e; omega
    · rw [z1] at e
      rw [show j = k by omega]; exact z2
/-- the model's token (fields 9, 10 and the word) as the class's one -/
def tokR (f9 f10 wd t v : Int) : Prop :=
  (0 ≤ f9 ∧ f9 < 128) ∧ (0 ≤ f10 ∧ f10 ≤ 1000000) ∧ (0 ≤ wd ∧ wd ≤ 1152921504606846976) ∧ (0 ≤ t ∧ t ≤ 40) ∧ (f9 = 0 ↔ t = 39) ∧ (f9 = 1 ↔ t = 38) ∧ (t = 38 → v = min f10 10000) ∧ (f9 = 2 ↔ (t ≤ 24 ∨ (t = 40 ∧ f9 = 2))) ∧ (f9 = 2 → ∀ j : Nat, j < 25 → (wd = pkW j ↔ t = (j : Int))) ∧ (f9 = 4 ↔ t = 36) ∧ (f9 = 5 ↔ t = 37) ∧ (f9 = 60 ↔ t = 25) ∧ (f9 = 62 ↔ t = 26) ∧ (f9 = 61 ↔ t = 27) ∧ (f9 = 35 ↔ t = 28) ∧ (f9 = 43 ↔ t = 29) ∧ (f9 = 45 ↔ t = 30) ∧ (f9 = 42 ↔ t = 31) ∧ (f9 = 47 ↔ t = 32) ∧ (f9 = 40 ↔ t = 33) ∧ (f9 = 41 ↔ t = 34) ∧ (f9 = 59 ↔ t = 35)
