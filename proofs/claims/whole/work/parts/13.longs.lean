theorem lZ_rem {x y : Int} (hx : inL x) (hy : inL y) (h0 : y ≠ 0) (h1 : y ≠ -1) : lZ x - lZ x / lZ y * lZ y = lZ (x.tmod y) := by
  rw [lZ_div hx hy h0 h1, lZ_mul, lZ_sub]
  congr 1
  have h9 := Int.mul_tdiv_add_tmod x y
  rw [Int.mul_comm] at h9
  omega
theorem lZ_ne0 {y : Int} (hy : inL y) (h0 : y ≠ 0) : ¬ lZ y = 0 := by
  rw [show (0 : Int64) = lZ 0 by decide +kernel, lZ_eq hy ⟨by decide, by decide⟩]
  exact h0
theorem z_lrem {Y : gY} {M : gM} {d : Nat} {b : gB} {Q : Option Value → gH → Prop} {pc : Nat} {L : List (Option Value)} {S : List Value} {h : gH} {x y : Int} (hd : decode M.2.1 pc = .ok (.lrem, 1)) (hx : inL x) (hy : inL y) (h0 : y ≠ 0) (h1 : y ≠ -1) (k : gE Y M d b Q (pc + 1) L (.long (lZ (x.tmod y)) :: S) h) : gE Y M d b Q pc L (.long (lZ y) :: .long (lZ x) :: S) h := q_lrem hd (lZ_ne0 hy h0) (by rw [lZ_rem hx hy h0 h1]; exact k)
theorem z_ldiv {Y : gY} {M : gM} {d : Nat} {b : gB} {Q : Option Value → gH → Prop} {pc : Nat} {L : List (Option Value)} {S : List Value} {h : gH} {x y : Int} (hd : decode M.2.1 pc = .ok (.ldiv, 1)) (hx : inL x) (hy : inL y) (h0 : y ≠ 0) (h1 : y ≠ -1) (k : gE Y M d b Q (pc + 1) L (.long (lZ (x.tdiv y)) :: S) h) : gE Y M d b Q pc L (.long (lZ y) :: .long (lZ x) :: S) h := q_ldiv hd (lZ_ne0 hy h0) (by rw [lZ_div hx hy h0 h1]; exact k)
theorem z_lif_eq {Y : gY} {M : gM} {d : Nat} {b : gB} {Q : Option Value → gH → Prop} {pc : Nat} {L : List (Option Value)} {S : List Value} {h : gH} {x y : Int} {off : Int} {tgt : Nat} (hd : decode M.2.1 pc = .ok (.lcmp, 1)) (hd2 : decode M.2.1 (pc + 1) = .ok (.ifCond .eq off, 3)) (ht : ((pc + 1 : Nat) : Int) + off = (tgt : Int)) (hx : inL x) (hy : inL y) (kt : x = y → gE Y M d b Q tgt L S h) (kf : ¬ x = y → gE Y M d b Q (pc + 1 + 3) L S h) : gE Y M d b Q pc L (.long (lZ y) :: .long (lZ x) :: S) h := by
  refine z_lcmp hd hx hy ?_
  refine z_if_eq (tgt := tgt) hd2 ht (by unfold inR; split <;> (try split) <;> decide) (fun c => kt ?_) (fun c => kf ?_)
  · by_cases h1 : y < x
    · rw [if_pos h1] at c; omega
    · rw [if_neg h1] at c
      by_cases h2 : x = y
      · rw [if_pos h2] at c; omega
      · rw [if_neg h2] at c; omega
  · by_cases h1 : y < x
    · rw [if_pos h1] at c; omega
    · rw [if_neg h1] at c
      by_cases h2 : x = y
      · rw [if_pos h2] at c; omega
      · rw [if_neg h2] at c; omega
theorem z_lif_ne {Y : gY} {M : gM} {d : Nat} {b : gB} {Q : Option Value → gH → Prop} {pc : Nat} {L : List (Option Value)} {S : List Value} {h : gH} {x y : Int} {off : Int} {tgt : Nat} (hd : decode M.2.1 pc = .ok (.lcmp, 1)) (hd2 : decode M.2.1 (pc + 1) = .ok (.ifCond .ne off, 3)) (ht : ((pc + 1 : Nat) : Int) + off = (tgt : Int)) (hx : inL x) (hy : inL y) (kt : ¬ x = y → gE Y M d b Q tgt L S h) (kf : x = y → gE Y M d b Q (pc + 1 + 3) L S h) : gE Y M d b Q pc L (.long (lZ y) :: .long (lZ x) :: S) h := by
  refine z_lcmp hd hx hy ?_
  refine z_if_ne (tgt := tgt) hd2 ht (by unfold inR; split <;> (try split) <;> decide) (fun c => kt ?_) (fun c => kf ?_)
  · by_cases h1 : y < x
    · rw [if_pos h1] at c; omega
    · rw [if_neg h1] at c
      by_cases h2 : x = y
      · rw [if_pos h2] at c; omega
      · rw [if_neg h2] at c; omega
  · by_cases h1 : y < x
    · rw [if_pos h1] at c; omega
    · rw [if_neg h1] at c
      by_cases h2 : x = y
      · rw [if_pos h2] at c; omega
      · rw [if_neg h2] at c; omega
theorem z_lif_lt {Y : gY} {M : gM} {d : Nat} {b : gB} {Q : Option Value → gH → Prop} {pc : Nat} {L : List (Option Value)} {S : List Value} {h : gH} {x y : Int} {off : Int} {tgt : Nat} (hd : decode M.2.1 pc = .ok (.lcmp, 1)) (hd2 : decode M.2.1 (pc + 1) = .ok (.ifCond .lt off, 3)) (ht : ((pc + 1 : Nat) : Int) + off = (tgt : Int)) (hx : inL x) (hy : inL y) (kt : x < y → gE Y M d b Q tgt L S h) (kf : ¬ x < y → gE Y M d b Q (pc + 1 + 3) L S h) : gE Y M d b Q pc L (.long (lZ y) :: .long (lZ x) :: S) h := by
  refine z_lcmp hd hx hy ?_
  refine z_if_lt (tgt := tgt) hd2 ht (by unfold inR; split <;> (try split) <;> decide) (fun c => kt ?_) (fun c => kf ?_)
  · by_cases h1 : y < x
    · rw [if_pos h1] at c; omega
    · rw [if_neg h1] at c
      by_cases h2 : x = y
      · rw [if_pos h2] at c; omega
      · rw [if_neg h2] at c; omega
  · by_cases h1 : y < x
    · rw [if_pos h1] at c; omega
    · rw [if_neg h1] at c
      by_cases h2 : x = y
      · rw [if_pos h2] at c; omega
      · rw [if_neg h2] at c; omega
theorem z_lif_ge {Y : gY} {M : gM} {d : Nat} {b : gB} {Q : Option Value → gH → Prop} {pc : Nat} {L : List (Option Value)} {S : List Value} {h : gH} {x y : Int} {off : Int} {tgt : Nat} (hd : decode M.2.1 pc = .ok (.lcmp, 1)) (hd2 : decode M.2.1 (pc + 1) = .ok (.ifCond .ge off, 3)) (ht : ((pc + 1 : Nat) : Int) + off = (tgt : Int)) (hx : inL x) (hy : inL y) (kt : y ≤ x → gE Y M d b Q tgt L S h) (kf : ¬ y ≤ x → gE Y M d b Q (pc + 1 + 3) L S h) : gE Y M d b Q pc L (.long (lZ y) :: .long (lZ x) :: S) h := by
  refine z_lcmp hd hx hy ?_
  refine z_if_ge (tgt := tgt) hd2 ht (by unfold inR; split <;> (try split) <;> decide) (fun c => kt ?_) (fun c => kf ?_)
  · by_cases h1 : y < x
    · rw [if_pos h1] at c; omega
    · rw [if_neg h1] at c
      by_cases h2 : x = y
      · rw [if_pos h2] at c; omega
      · rw [if_neg h2] at c; omega
  · by_cases h1 : y < x
    · rw [if_pos h1] at c; omega
    · rw [if_neg h1] at c
      by_cases h2 : x = y
      · rw [if_pos h2] at c; omega
      · rw [if_neg h2] at c; omega
theorem z_lif_gt {Y : gY} {M : gM} {d : Nat} {b : gB} {Q : Option Value → gH → Prop} {pc : Nat} {L : List (Option Value)} {S : List Value} {h : gH} {x y : Int} {off : Int} {tgt : Nat} (hd : decode M.2.1 pc = .ok (.lcmp, 1)) (hd2 : decode M.2.1 (pc + 1) = .ok (.ifCond .gt off, 3)) (ht : ((pc + 1 : Nat) : Int) + off = (tgt : Int)) (hx : inL x) (hy : inL y) (kt : y < x → gE Y M d b Q tgt L S h) (kf : ¬ y < x → gE Y M d b Q (pc + 1 + 3) L S h) : gE Y M d b Q pc L (.long (lZ y) :: .long (lZ x) :: S) h := by
  refine z_lcmp hd hx hy ?_
  refine z_if_gt (tgt := tgt) hd2 ht (by unfold inR; split <;> (try split) <;> decide) (fun c => kt ?_) (fun c => kf ?_)
  · by_cases h1 : y < x
    · rw [if_pos h1] at c; omega
    · rw [if_neg h1] at c
      by_cases h2 : x = y
      · rw [if_pos h2] at c; omega
      · rw [if_neg h2] at c; omega
  · by_cases h1 : y < x
    · rw [if_pos h1] at c; omega
    · rw [if_neg h1] at c
      by_cases h2 : x = y
      · rw [if_pos h2] at c; omega
      · rw [if_neg h2] at c; omega
theorem z_lif_le {Y : gY} {M : gM} {d : Nat} {b : gB} {Q : Option Value → gH → Prop} {pc : Nat} {L : List (Option Value)} {S : List Value} {h : gH} {x y : Int} {off : Int} {tgt : Nat} (hd : decode M.2.1 pc = .ok (.lcmp, 1)) (hd2 : decode M.2.1 (pc + 1) = .ok (.ifCond .le off, 3)) (ht : ((pc + 1 : Nat) : Int) + off = (tgt : Int)) (hx : inL x) (hy : inL y) (kt : x ≤ y → gE Y M d b Q tgt L S h) (kf : ¬ x ≤ y → gE Y M d b Q (pc + 1 + 3) L S h) : gE Y M d b Q pc L (.long (lZ y) :: .long (lZ x) :: S) h := by
  refine z_lcmp hd hx hy ?_
  refine z_if_le (tgt := tgt) hd2 ht (by unfold inR; split <;> (try split) <;> decide) (fun c => kt ?_) (fun c => kf ?_)
  · by_cases h1 : y < x
    · rw [if_pos h1] at c; omega
    · rw [if_neg h1] at c
      by_cases h2 : x = y
      · rw [if_pos h2] at c; omega
      · rw [if_neg h2] at c; omega
  · by_cases h1 : y < x
    · rw [if_pos h1] at c; omega
    · rw [if_neg h1] at c
      by_cases h2 : x = y
      · rw [if_pos h2] at c; omega
      · rw [if_neg h2] at c; omega
