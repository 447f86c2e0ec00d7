theorem iZ_or (m k : Nat) : iZ (m : Int) ||| iZ (k : Int) = iZ ((m ||| k : Nat) : Int) := by
  simp only [iZ_nat, nI]
  apply Int32.toBitVec_inj.mp
  rw [Int32.toBitVec_or]
  show BitVec.ofNat 32 m ||| BitVec.ofNat 32 k = BitVec.ofNat 32 (m ||| k)
  rw [BitVec.ofNat_or]
theorem iZ_and (m k : Nat) : iZ (m : Int) &&& iZ (k : Int) = iZ ((m &&& k : Nat) : Int) := by
  simp only [iZ_nat, nI]
  apply Int32.toBitVec_inj.mp
  rw [Int32.toBitVec_and]
  show BitVec.ofNat 32 m &&& BitVec.ofNat 32 k = BitVec.ofNat 32 (m &&& k)
  rw [BitVec.ofNat_and]
theorem iZ_s31 : ∀ k : Nat, k < 32 → ((iZ (k : Int) &&& 31).toBitVec.smod 32).toNat = k := by decide +kernel
theorem iZ_shl {k : Nat} (hk : k < 32) (x : Int) : iZ x <<< (iZ (k : Int) &&& 31) = iZ (x * 2 ^ k) := by
  have h := pk_shl (iZ x) (iZ (k : Int) &&& 31) k (iZ_s31 k hk)
  have e : iZ (x * 2 ^ k) = iZ x * iZ ((2 ^ k : Nat) : Int) := by rw [iZ_mul]; simp
  rw [e]
  apply Int32.toBitVec_inj.mp
  apply BitVec.eq_of_toNat_eq
  rw [h, Int32.toBitVec_mul, BitVec.toNat_mul, iZ_nat]
  rw [show (nI (2 ^ k)).toBitVec.toNat = 2 ^ k % 2 ^ 32 from BitVec.toNat_ofNat _ _, Nat.mul_mod_mod]
theorem iZ_shr {k : Nat} (hk : k < 32) {x : Int} (hx : inR x) : iZ x >>> (iZ (k : Int) &&& 31) = iZ (x / 2 ^ k) := by
  have h := pk_shr (iZ x) (iZ (k : Int) &&& 31) k (iZ_s31 k hk)
  rw [iZ_toInt hx, Int.shiftRight_eq_div_pow] at h
  rw [iZ_of (iZ x >>> (iZ (k : Int) &&& 31)), h]
  simp
section ZB
variable {Y : gY} {M : gM} {d : Nat} {b : gB} {Q : Option Value → gH → Prop} {pc : Nat} {L : List (Option Value)} {S : List Value} {h : gH}
theorem z_ior {m k : Nat} (hd : decode M.2.1 pc = .ok (.ior, 1)) (kk : gE Y M d b Q (pc + 1) L (.int (iZ ((m ||| k : Nat) : Int)) :: S) h) : gE Y M d b Q pc L (.int (iZ (k : Int)) :: .int (iZ (m : Int)) :: S) h := q_ior hd (by rw [iZ_or]; exact kk)
theorem z_iand {m k : Nat} (hd : decode M.2.1 pc = .ok (.iand, 1)) (kk : gE Y M d b Q (pc + 1) L (.int (iZ ((m &&& k : Nat) : Int)) :: S) h) : gE Y M d b Q pc L (.int (iZ (k : Int)) :: .int (iZ (m : Int)) :: S) h := q_iand hd (by rw [iZ_and]; exact kk)
theorem z_ishl {x : Int} {k : Nat} (hd : decode M.2.1 pc = .ok (.ishl, 1)) (hk : k < 32) (kk : gE Y M d b Q (pc + 1) L (.int (iZ (x * 2 ^ k)) :: S) h) : gE Y M d b Q pc L (.int (iZ (k : Int)) :: .int (iZ x) :: S) h := q_ishl hd (by rw [iZ_shl hk]; exact kk)
theorem z_ishr {x : Int} {k : Nat} (hd : decode M.2.1 pc = .ok (.ishr, 1)) (hk : k < 32) (hx : inR x) (kk : gE Y M d b Q (pc + 1) L (.int (iZ (x / 2 ^ k)) :: S) h) : gE Y M d b Q pc L (.int (iZ (k : Int)) :: .int (iZ x) :: S) h := q_ishr hd (by rw [iZ_shr hk hx]; exact kk)
/-- a value on the stack by another name -/
theorem z_top {x y : Int} (e : x = y) (kk : gE Y M d b Q pc L (.int (iZ y) :: S) h) : gE Y M d b Q pc L (.int (iZ x) :: S) h := by rw [e]; exact kk
theorem z_top2 {x y : Int} {v : Value} (e : x = y) (kk : gE Y M d b Q pc L (v :: .int (iZ y) :: S) h) : gE Y M d b Q pc L (v :: .int (iZ x) :: S) h := by rw [e]; exact kk
end ZB
