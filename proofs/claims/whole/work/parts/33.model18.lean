theorem iZ_per (x : Int) : iZ x = iZ (x % 4294967296) := by
  have e : x = 4294967296 * (x / 4294967296) + x % 4294967296 := by omega
  have q : iZ (4294967296 * (x / 4294967296) + x % 4294967296) = iZ (x % 4294967296) := by
    rw [← iZ_add, ← iZ_mul, show iZ 4294967296 = 0 by decide +kernel, Int32.zero_mul, Int32.zero_add]
  rw [← e] at q
  exact q
theorem iZ_andm (x : Int) (n : Nat) (hn : n ≤ 32) : iZ x &&& iZ ((2 ^ n - 1 : Nat) : Int) = iZ (x % (2 ^ n : Nat)) := by
  rw [iZ_per x]
  have h0 : 0 ≤ x % 4294967296 := by omega
  obtain ⟨m, hm⟩ : ∃ m : Nat, x % 4294967296 = (m : Int) := ⟨(x % 4294967296).toNat, by omega⟩
  rw [hm, iZ_and, Nat.and_two_pow_sub_one_eq_mod]
  have hd : ((2 ^ n : Nat) : Int) ∣ 4294967296 := by
    have : (2 ^ n : Nat) ∣ 2 ^ 32 := Nat.pow_dvd_pow 2 hn
    have q := Int.natCast_dvd_natCast.mpr this
    exact q
  rw [show ((m % 2 ^ n : Nat) : Int) = (m : Int) % (2 ^ n : Nat) from Int.natCast_emod _ _, ← hm, Int.emod_emod_of_dvd _ hd]
section ZA
variable {Y : gY} {M : gM} {d : Nat} {b : gB} {Q : Option Value → gH → Prop} {pc : Nat} {L : List (Option Value)} {S : List Value} {h : gH}
theorem z_and255 {x : Int} (hd : decode M.2.1 pc = .ok (.iand, 1)) (kk : gE Y M d b Q (pc + 1) L (.int (iZ (x % 256)) :: S) h) : gE Y M d b Q pc L (.int (iZ 255) :: .int (iZ x) :: S) h := q_iand hd (by rw [show iZ x &&& iZ 255 = iZ (x % 256) from iZ_andm x 8 (by decide)]; exact kk)
theorem z_and63 {x : Int} (hd : decode M.2.1 pc = .ok (.iand, 1)) (kk : gE Y M d b Q (pc + 1) L (.int (iZ (x % 64)) :: S) h) : gE Y M d b Q pc L (.int (iZ 63) :: .int (iZ x) :: S) h := q_iand hd (by rw [show iZ x &&& iZ 63 = iZ (x % 64) from iZ_andm x 6 (by decide)]; exact kk)
end ZA
def mAb (v : Int) : Int := if v < 0 then -v else v
/-- the widest of person p to those before q, at least m0 -/
def mSpI (A : Nat → Int) (p : Nat) (m0 : Int) : Nat → Int
  | 0 => m0
  | q + 1 => if A (19 + p) ≠ -1 ∧ A (19 + q) ≠ -1 ∧ mSpI A p m0 q < mAb (A (19 + p) - A (19 + q)) then mAb (A (19 + p) - A (19 + q)) else mSpI A p m0 q
def mSpO (A : Nat → Int) : Nat → Int
  | 0 => 0
  | p + 1 => mSpI A p (mSpO A p) p
theorem mAb_ran {c nt : Int} {A : Nat → Int} (g : gd c nt A) {p q : Nat} (hp : p < 5) (hq : q < 5) : 0 ≤ mAb (A (19 + p) - A (19 + q)) ∧ mAb (A (19 + p) - A (19 + q)) ≤ 8 := by
  have a := g.2.1 p hp
  have b := g.2.1 q hq
  unfold mAb
  split <;> omega
theorem mSpI_ran {c nt : Int} {A : Nat → Int} (g : gd c nt A) {p : Nat} (hp : p < 5) {m0 : Int} (h0 : 0 ≤ m0 ∧ m0 ≤ 8) : ∀ q, q ≤ 5 → 0 ≤ mSpI A p m0 q ∧ mSpI A p m0 q ≤ 8 := by
  intro q
  induction q with
  | zero => intro _; exact h0
  | succ q ih =>
    intro h
    rw [mSpI]
    split
    · exact mAb_ran g hp (by omega)
    · exact ih (by omega)
theorem mSpO_ran {c nt : Int} {A : Nat → Int} (g : gd c nt A) : ∀ p, p ≤ 5 → 0 ≤ mSpO A p ∧ mSpO A p ≤ 8 := by
  intro p
  induction p with
  | zero => intro _; exact ⟨Int.le_refl 0, by show (0 : Int) ≤ 8; decide⟩
  | succ p ih => intro h; exact mSpI_ran g (by omega) (ih (by omega)) p (by omega)
set_option maxHeartbeats 4000000 in
set_option maxRecDepth 100000 in
theorem lp_spread1 {d p : Nat} (hd : 1 ≤ d) (σ : gS) (A F : Nat → Int) {nt : Int} (g : gd 100000 nt A) (hp : (p : Int) < A 0) {m0 : Int} (hm0 : 0 ≤ m0 ∧ m0 ≤ 8) (kc : sE g_tt mX7_spread d (fun r σ' => r = some (.int (iZ (mSpO A (A 0).toNat))) ∧ σ' = ms σ A F) 102 [some (.ref 384), some (.int (iZ (mSpI A p m0 p))), some (.int (iZ (p : Int))), some (.int (iZ (p : Int)))] [] (ms σ A F)) : ∀ (n : Nat) (q : Nat), q ≤ p → (p : Int) - (q : Int) < (n : Int) → sE g_tt mX7_spread d (fun r σ' => r = some (.int (iZ (mSpO A (A 0).toNat))) ∧ σ' = ms σ A F) 16 [some (.ref 384), some (.int (iZ (mSpI A p m0 q))), some (.int (iZ (p : Int))), some (.int (iZ (q : Int)))] [] (ms σ A F) := by
  intro n
  induction n with
  | zero =>
    intro q hq hn
    exact absurd hn (by omega)
  | succ n ih =>
    intro q hq hn
    have g0 := g.1
    refine q_iload_n dX7_spread_16 rfl rfl ?_
    refine q_iload_n dX7_spread_17 rfl rfl ?_
    refine z_icmp_ge (tgt := 102) dX7_spread_18 (by decide) (by unfold inR at *; omega) (by unfold inR at *; omega) (fun c_1 => ?_) (fun c_1 => ?_)
    · obtain rfl : q = p := by omega
      exact kc
    · refine q_aload_n dX7_spread_21 rfl rfl ?_
      refine sg7 (kf := 0) (v := .ref 385) dX7_spread_22 flX7_7 (show kd 384 = 7 from rfl) (by decide) rfl ?_
      refine z_bipush dX7_spread_25 (by decide +kernel) ?_
      refine q_iload_n dX7_spread_27 rfl rfl ?_
      refine z_iadd dX7_spread_28 ?_
      refine s_iald (n := 1583) (x := A (19 + p)) dX7_spread_29 (show kd 385 = 100 + 1583 from rfl) (by omega) (by omega) (by decide) rfl ?_
      refine z_iconst dX7_spread_30 ?_
      refine z_icmp_eq (tgt := 96) dX7_spread_31 (by decide) (gdh g _ (by omega)) (by unfold inR at *; omega) (fun c_2 => ?_) (fun c_2 => ?_)
      · refine z_iinc dX7_spread_96 rfl (by decide) ?_
        show sE g_tt _ _ _ 99 [some (.ref 384), some (.int (iZ (mSpI A p m0 q))), some (.int (iZ (p : Int))), some (.int (iZ ((q : Int) + 1)))] [] (ms σ A F)
        refine q_goto (tgt := 16) dX7_spread_99 (by decide) ?_
        have k9 := ih (q + 1) (by omega) (by omega)
        rw [show mSpI A p m0 (q + 1) = mSpI A p m0 q by rw [mSpI, if_neg (by omega)]] at k9
        exact k9
      · refine q_aload_n dX7_spread_34 rfl rfl ?_
        refine sg7 (kf := 0) (v := .ref 385) dX7_spread_35 flX7_7 (show kd 384 = 7 from rfl) (by decide) rfl ?_
        refine z_bipush dX7_spread_38 (by decide +kernel) ?_
        refine q_iload_n dX7_spread_40 rfl rfl ?_
        refine z_iadd dX7_spread_41 ?_
        refine s_iald (n := 1583) (x := A (19 + q)) dX7_spread_42 (show kd 385 = 100 + 1583 from rfl) (by omega) (by omega) (by decide) rfl ?_
        refine z_iconst dX7_spread_43 ?_
        refine z_icmp_eq (tgt := 96) dX7_spread_44 (by decide) (gdh g _ (by omega)) (by unfold inR at *; omega) (fun c_3 => ?_) (fun c_3 => ?_)
        · refine z_iinc dX7_spread_96 rfl (by decide) ?_
          show sE g_tt _ _ _ 99 [some (.ref 384), some (.int (iZ (mSpI A p m0 q))), some (.int (iZ (p : Int))), some (.int (iZ ((q : Int) + 1)))] [] (ms σ A F)
          refine q_goto (tgt := 16) dX7_spread_99 (by decide) ?_
          have k9 := ih (q + 1) (by omega) (by omega)
          rw [show mSpI A p m0 (q + 1) = mSpI A p m0 q by rw [mSpI, if_neg (by omega)]] at k9
          exact k9
        · refine q_aload_n dX7_spread_47 rfl rfl ?_
          refine sg7 (kf := 0) (v := .ref 385) dX7_spread_48 flX7_7 (show kd 384 = 7 from rfl) (by decide) rfl ?_
          refine z_bipush dX7_spread_51 (by decide +kernel) ?_
          refine q_iload_n dX7_spread_53 rfl rfl ?_
          refine z_iadd dX7_spread_54 ?_
          refine s_iald (n := 1583) (x := A (19 + p)) dX7_spread_55 (show kd 385 = 100 + 1583 from rfl) (by omega) (by omega) (by decide) rfl ?_
          refine q_aload_n dX7_spread_56 rfl rfl ?_
          refine sg7 (kf := 0) (v := .ref 385) dX7_spread_57 flX7_7 (show kd 384 = 7 from rfl) (by decide) rfl ?_
          refine z_bipush dX7_spread_60 (by decide +kernel) ?_
          refine q_iload_n dX7_spread_62 rfl rfl ?_
          refine z_iadd dX7_spread_63 ?_
          refine s_iald (n := 1583) (x := A (19 + q)) dX7_spread_64 (show kd 385 = 100 + 1583 from rfl) (by omega) (by omega) (by decide) rfl ?_
          refine z_isub dX7_spread_65 ?_
          refine s_callS (As := [.int (iZ ((A (19 + p)) - (A (19 + q))))]) (S := []) dX7_spread_66 okX7_size mlX7_382 rfl (by omega) rfl (Nat.le_of_ble_eq_true rfl) (m_size (d := d - 1) (v := A (19 + p) - A (19 + q)) (by have a := g.2.1 p (by omega); have b := g.2.1 q (by omega); unfold inR; omega) (ms σ A F)) (fun v_ σ_ hq => ?_)
          obtain ⟨rfl, e9⟩ := hq
          have e9 := e9.symm
          subst e9
          show sE g_tt _ _ _ 69 [some (.ref 384), some (.int (iZ (mSpI A p m0 q))), some (.int (iZ (p : Int))), some (.int (iZ (q : Int)))] [.int (iZ (mAb (A (19 + p) - A (19 + q))))] (ms σ A F)
          refine q_iload_n dX7_spread_69 rfl rfl ?_
          refine z_icmp_le (tgt := 96) dX7_spread_70 (by decide) (by have := mAb_ran g (show p < 5 by omega) (show q < 5 by omega); unfold inR; omega) (by have := mSpI_ran g (show p < 5 by omega) hm0 q (by omega); unfold inR; omega) (fun c_4 => ?_) (fun c_4 => ?_)
          · refine z_iinc dX7_spread_96 rfl (by decide) ?_
            show sE g_tt _ _ _ 99 [some (.ref 384), some (.int (iZ (mSpI A p m0 q))), some (.int (iZ (p : Int))), some (.int (iZ ((q : Int) + 1)))] [] (ms σ A F)
            refine q_goto (tgt := 16) dX7_spread_99 (by decide) ?_
            have k9 := ih (q + 1) (by omega) (by omega)
            rw [show mSpI A p m0 (q + 1) = mSpI A p m0 q by rw [mSpI, if_neg (by omega)]] at k9
            exact k9
          · refine q_aload_n dX7_spread_73 rfl rfl ?_
            refine sg7 (kf := 0) (v := .ref 385) dX7_spread_74 flX7_7 (show kd 384 = 7 from rfl) (by decide) rfl ?_
            refine z_bipush dX7_spread_77 (by decide +kernel) ?_
            refine q_iload_n dX7_spread_79 rfl rfl ?_
            refine z_iadd dX7_spread_80 ?_
            refine s_iald (n := 1583) (x := A (19 + p)) dX7_spread_81 (show kd 385 = 100 + 1583 from rfl) (by omega) (by omega) (by decide) rfl ?_
            refine q_aload_n dX7_spread_82 rfl rfl ?_
            refine sg7 (kf := 0) (v := .ref 385) dX7_spread_83 flX7_7 (show kd 384 = 7 from rfl) (by decide) rfl ?_
            refine z_bipush dX7_spread_86 (by decide +kernel) ?_
            refine q_iload_n dX7_spread_88 rfl rfl ?_
            refine z_iadd dX7_spread_89 ?_
            refine s_iald (n := 1583) (x := A (19 + q)) dX7_spread_90 (show kd 385 = 100 + 1583 from rfl) (by omega) (by omega) (by decide) rfl ?_
            refine z_isub dX7_spread_91 ?_
            refine s_callS (As := [.int (iZ ((A (19 + p)) - (A (19 + q))))]) (S := []) dX7_spread_92 okX7_size mlX7_382 rfl (by omega) rfl (Nat.le_of_ble_eq_true rfl) (m_size (d := d - 1) (v := A (19 + p) - A (19 + q)) (by have a := g.2.1 p (by omega); have b := g.2.1 q (by omega); unfold inR; omega) (ms σ A F)) (fun v_ σ_ hq => ?_)
            obtain ⟨rfl, e9⟩ := hq
            have e9 := e9.symm
            subst e9
            show sE g_tt _ _ _ 95 [some (.ref 384), some (.int (iZ (mSpI A p m0 q))), some (.int (iZ (p : Int))), some (.int (iZ (q : Int)))] [.int (iZ (mAb (A (19 + p) - A (19 + q))))] (ms σ A F)
            refine q_istore_n dX7_spread_95 rfl (by decide) ?_
            show sE g_tt _ _ _ 96 [some (.ref 384), some (.int (iZ (mAb (A (19 + p) - A (19 + q))))), some (.int (iZ (p : Int))), some (.int (iZ (q : Int)))] [] (ms σ A F)
            refine z_iinc dX7_spread_96 rfl (by decide) ?_
            show sE g_tt _ _ _ 99 [some (.ref 384), some (.int (iZ (mAb (A (19 + p) - A (19 + q))))), some (.int (iZ (p : Int))), some (.int (iZ ((q : Int) + 1)))] [] (ms σ A F)
            refine q_goto (tgt := 16) dX7_spread_99 (by decide) ?_
            have k9 := ih (q + 1) (by omega) (by omega)
            rw [show mSpI A p m0 (q + 1) = mAb (A (19 + p) - A (19 + q)) by rw [mSpI, if_pos (by omega)]] at k9
            exact k9
set_option maxHeartbeats 4000000 in
set_option maxRecDepth 100000 in
theorem lp_spread {d : Nat} (hd : 1 ≤ d) (σ : gS) (A F : Nat → Int) {nt : Int} (g : gd 100000 nt A) : ∀ (n : Nat) (p : Nat) (l3 : Option Value), (p : Int) ≤ A 0 → A 0 - (p : Int) < (n : Int) → sE g_tt mX7_spread d (fun r σ' => r = some (.int (iZ (mSpO A (A 0).toNat))) ∧ σ' = ms σ A F) 4 [some (.ref 384), some (.int (iZ (mSpO A p))), some (.int (iZ (p : Int))), l3] [] (ms σ A F) := by
  intro n
  induction n with
  | zero =>
    intro p l3 hp hn
    exact absurd hn (by omega)
  | succ n ih =>
    intro p l3 hp hn
    have g0 := g.1
    refine q_iload_n dX7_spread_4 rfl rfl ?_
    refine q_aload_n dX7_spread_5 rfl rfl ?_
    refine sg7 (kf := 0) (v := .ref 385) dX7_spread_6 flX7_7 (show kd 384 = 7 from rfl) (by decide) rfl ?_
    refine z_iconst dX7_spread_9 ?_
    refine s_iald (n := 1583) (x := A 0) dX7_spread_10 (show kd 385 = 100 + 1583 from rfl) (by omega) (by omega) (by decide) rfl ?_
    refine z_icmp_ge (tgt := 108) dX7_spread_11 (by decide) (by unfold inR at *; omega) (by unfold inR at *; omega) (fun c_1 => ?_) (fun c_1 => ?_)
    · refine q_iload_n dX7_spread_108 rfl rfl ?_
      exact s_iretZ dX7_spread_109 rfl ⟨by rw [show p = (A 0).toNat by omega], rfl⟩
    · refine z_iconst dX7_spread_14 ?_
      refine q_istore_n dX7_spread_15 rfl (by decide) ?_
      show sE g_tt _ _ _ 16 [some (.ref 384), some (.int (iZ (mSpO A p))), some (.int (iZ (p : Int))), some (.int (iZ 0))] [] (ms σ A F)
      refine lp_spread1 hd σ A F g (by omega) (mSpO_ran g p (by omega)) ?_ 6 0 (by omega) (by omega)
      refine z_iinc dX7_spread_102 rfl (by decide) ?_
      show sE g_tt _ _ _ 105 [some (.ref 384), some (.int (iZ (mSpI A p (mSpO A p) p))), some (.int (iZ ((p : Int) + 1))), some (.int (iZ (p : Int)))] [] (ms σ A F)
      refine q_goto (tgt := 4) dX7_spread_105 (by decide) ?_
      exact ih (p + 1) _ (by omega) (by omega)
set_option maxHeartbeats 4000000 in
set_option maxRecDepth 100000 in
theorem m_spread {d : Nat} (hd : 1 ≤ d) (σ : gS) (A F : Nat → Int) {nt : Int} (g : gd 100000 nt A) : sC mX7_spread d [.ref 384] (ms σ A F) (fun r σ' => r = some (.int (iZ (mSpO A (A 0).toNat))) ∧ σ' = ms σ A F) := by
  refine sC_of rfl (Nat.le_of_ble_eq_true rfl) ?_
  show sE g_tt _ _ _ 0 [some (.ref 384), none, none, none] [] (ms σ A F)
  refine z_iconst dX7_spread_0 ?_
  refine q_istore_n dX7_spread_1 rfl (by decide) ?_
  show sE g_tt _ _ _ 2 [some (.ref 384), some (.int (iZ 0)), none, none] [] (ms σ A F)
  refine z_iconst dX7_spread_2 ?_
  refine q_istore_n dX7_spread_3 rfl (by decide) ?_
  show sE g_tt _ _ _ 4 [some (.ref 384), some (.int (iZ 0)), some (.int (iZ 0)), none] [] (ms σ A F)
  exact lp_spread hd σ A F g 6 0 _ (by have := g.1; omega) (by have := g.1; omega)
set_option maxHeartbeats 4000000 in
set_option maxRecDepth 100000 in
theorem m_said {d : Nat} (hd : 2 ≤ d) {h n : Int} (hh : inR h) (hn : inR n) (σ : gS) (A F : Nat → Int) (h0 : 0 ≤ A 4) (h8 : A 4 ≤ 8) : sC mX7_said d [.ref 384, .int (iZ h), .int (iZ n)] (ms σ A F) (fun r σ' => r = some (.int (iZ (if h = -1 then 0 else if ¬ (0 ≤ h ∧ h < 8) ∨ ¬ (0 ≤ n ∧ n ≤ 9) ∨ A 4 = 8 then -2 else A 4 + 1))) ∧ σ' = ms σ (if h = -1 then va_up A 4 0 else if ¬ (0 ≤ h ∧ h < 8) ∨ ¬ (0 ≤ n ∧ n ≤ 9) ∨ A 4 = 8 then A else va_up (va_up (va_up A (37 + 2 * A 4).toNat h) (37 + 2 * A 4 + 1).toNat n) 4 (A 4 + 1)) F) := by
  refine sC_of rfl (Nat.le_of_ble_eq_true rfl) ?_
  show sE g_tt _ _ _ 0 [some (.ref 384), some (.int (iZ h)), some (.int (iZ n))] [] (ms σ A F)
  refine q_iload_n dX7_said_0 rfl rfl ?_
  refine z_iconst dX7_said_1 ?_
  refine z_icmp_ne (tgt := 14) dX7_said_2 (by decide) (by unfold inR at *; omega) (by unfold inR at *; omega) (fun c_1 => ?_) (fun c_1 => ?_)
  · refine q_iload_n dX7_said_14 rfl rfl ?_
    refine s_callS (As := [.int (iZ h)]) (S := []) dX7_said_15 okX7_isHouse mlX7_70 rfl (by omega) rfl (Nat.le_of_ble_eq_true rfl) (m_isHouse (d := d - 1) (by omega) (h := h) (by unfold inR at *; omega) (ms σ A F)) (fun v_ σ_ hq => ?_)
    obtain ⟨rfl, e9⟩ := hq
    have e9 := e9.symm
    subst e9
    show sE g_tt _ _ _ 18 [some (.ref 384), some (.int (iZ h)), some (.int (iZ n))] [.int (iZ (if 0 ≤ h ∧ h < 8 then 1 else 0))] (ms σ A F)
    refine z_if_eq (tgt := 42) dX7_said_18 (by decide) inR_01 (fun c_2 => ?_) (fun c_2 => ?_)
    · have c_2 := if01_0 c_2
      refine z_bipush dX7_said_42 (by decide +kernel) ?_
      exact s_iretZ dX7_said_44 rfl ⟨by congr 3; (repeat (first | rw [if_pos (by omega)] | rw [if_neg (by omega)])), by ((repeat (first | rw [if_pos (by omega)] | rw [if_neg (by omega)])); (try rfl))⟩
    · have c_2 := if01_1 c_2
      refine q_iload_n dX7_said_21 rfl rfl ?_
      refine z_iconst dX7_said_22 ?_
      refine z_bipush dX7_said_23 (by decide +kernel) ?_
      refine s_callS (As := [.int (iZ n), .int (iZ 0), .int (iZ 9)]) (S := []) dX7_said_25 okX7_isIn mlX7_66 rfl (by omega) rfl (Nat.le_of_ble_eq_true rfl) (m_isIn (d := d - 1) (v := n) (a := 0) (b := 9) (by unfold inR at *; omega) (by unfold inR at *; omega) (by unfold inR at *; omega) (ms σ A F)) (fun v_ σ_ hq => ?_)
      obtain ⟨rfl, e9⟩ := hq
      have e9 := e9.symm
      subst e9
      show sE g_tt _ _ _ 28 [some (.ref 384), some (.int (iZ h)), some (.int (iZ n))] [.int (iZ (if 0 ≤ n ∧ n ≤ 9 then 1 else 0))] (ms σ A F)
      refine z_if_eq (tgt := 42) dX7_said_28 (by decide) inR_01 (fun c_3 => ?_) (fun c_3 => ?_)
      · have c_3 := if01_0 c_3
        refine z_bipush dX7_said_42 (by decide +kernel) ?_
        exact s_iretZ dX7_said_44 rfl ⟨by congr 3; (repeat (first | rw [if_pos (by omega)] | rw [if_neg (by omega)])), by ((repeat (first | rw [if_pos (by omega)] | rw [if_neg (by omega)])); (try rfl))⟩
      · have c_3 := if01_1 c_3
        refine q_aload_n dX7_said_31 rfl rfl ?_
        refine sg7 (kf := 0) (v := .ref 385) dX7_said_32 flX7_7 (show kd 384 = 7 from rfl) (by decide) rfl ?_
        refine z_iconst dX7_said_35 ?_
        refine s_iald (n := 1583) (x := A 4) dX7_said_36 (show kd 385 = 100 + 1583 from rfl) (by omega) (by omega) (by decide) rfl ?_
        refine z_bipush dX7_said_37 (by decide +kernel) ?_
        refine z_icmp_ne (tgt := 45) dX7_said_39 (by decide) (by unfold inR at *; omega) (by unfold inR at *; omega) (fun c_4 => ?_) (fun c_4 => ?_)
        · refine q_aload_n dX7_said_45 rfl rfl ?_
          refine sg7 (kf := 0) (v := .ref 385) dX7_said_46 flX7_7 (show kd 384 = 7 from rfl) (by decide) rfl ?_
          refine z_bipush dX7_said_49 (by decide +kernel) ?_
          refine z_iconst dX7_said_51 ?_
          refine q_aload_n dX7_said_52 rfl rfl ?_
          refine sg7 (kf := 0) (v := .ref 385) dX7_said_53 flX7_7 (show kd 384 = 7 from rfl) (by decide) rfl ?_
          refine z_iconst dX7_said_56 ?_
          refine s_iald (n := 1583) (x := A 4) dX7_said_57 (show kd 385 = 100 + 1583 from rfl) (by omega) (by omega) (by decide) rfl ?_
          refine z_imul dX7_said_58 ?_
          refine z_iadd dX7_said_59 ?_
          refine q_iload_n dX7_said_60 rfl rfl ?_
          refine ma_st dX7_said_61 (by omega) (by omega) ?_
          refine q_aload_n dX7_said_62 rfl rfl ?_
          refine sg7 (kf := 0) (v := .ref 385) dX7_said_63 flX7_7 (show kd 384 = 7 from rfl) (by decide) rfl ?_
          refine z_bipush dX7_said_66 (by decide +kernel) ?_
          refine z_iconst dX7_said_68 ?_
          refine q_aload_n dX7_said_69 rfl rfl ?_
          refine sg7 (kf := 0) (v := .ref 385) dX7_said_70 flX7_7 (show kd 384 = 7 from rfl) (by decide) rfl ?_
          refine z_iconst dX7_said_73 ?_
          refine s_iald (n := 1583) (x := A 4) dX7_said_74 (show kd 385 = 100 + 1583 from rfl) (by omega) (by omega) (by decide) (by show (va_up A ((37 + (2 * (A 4))).toNat) h) 4 = _; rw [va_up_ne _ _ (by omega)]) ?_
          refine z_imul dX7_said_75 ?_
          refine z_iadd dX7_said_76 ?_
          refine z_iconst dX7_said_77 ?_
          refine z_iadd dX7_said_78 ?_
          refine q_iload_n dX7_said_79 rfl rfl ?_
          refine ma_st dX7_said_80 (by omega) (by omega) ?_
          refine q_aload_n dX7_said_81 rfl rfl ?_
          refine sg7 (kf := 0) (v := .ref 385) dX7_said_82 flX7_7 (show kd 384 = 7 from rfl) (by decide) rfl ?_
          refine z_iconst dX7_said_85 ?_
          refine q_dup2 dX7_said_86 rfl rfl ?_
          refine s_iald (n := 1583) (x := A 4) dX7_said_87 (show kd 385 = 100 + 1583 from rfl) (by omega) (by omega) (by decide) (by show (va_up (va_up A ((37 + (2 * (A 4))).toNat) h) (((37 + (2 * (A 4))) + 1).toNat) n) 4 = _; rw [va_up_ne _ _ (by omega), va_up_ne _ _ (by omega)]) ?_
          refine z_iconst dX7_said_88 ?_
          refine z_iadd dX7_said_89 ?_
          refine ma_st dX7_said_90 (by omega) (by omega) ?_
          refine q_aload_n dX7_said_91 rfl rfl ?_
          refine sg7 (kf := 0) (v := .ref 385) dX7_said_92 flX7_7 (show kd 384 = 7 from rfl) (by decide) rfl ?_
          refine z_iconst dX7_said_95 ?_
          refine s_iald (n := 1583) (x := (A 4) + 1) dX7_said_96 (show kd 385 = 100 + 1583 from rfl) (by omega) (by omega) (by decide) rfl ?_
          exact s_iretZ dX7_said_97 rfl ⟨by congr 3; (repeat (first | rw [if_pos (by omega)] | rw [if_neg (by omega)])), by ((repeat (first | rw [if_pos (by omega)] | rw [if_neg (by omega)])); (try rfl))⟩
        · refine z_bipush dX7_said_42 (by decide +kernel) ?_
          exact s_iretZ dX7_said_44 rfl ⟨by congr 3; (repeat (first | rw [if_pos (by omega)] | rw [if_neg (by omega)])), by ((repeat (first | rw [if_pos (by omega)] | rw [if_neg (by omega)])); (try rfl))⟩
  · refine q_aload_n dX7_said_5 rfl rfl ?_
    refine sg7 (kf := 0) (v := .ref 385) dX7_said_6 flX7_7 (show kd 384 = 7 from rfl) (by decide) rfl ?_
    refine z_iconst dX7_said_9 ?_
    refine z_iconst dX7_said_10 ?_
    refine ma_st dX7_said_11 (by omega) (by omega) ?_
    refine z_iconst dX7_said_12 ?_
    exact s_iretZ dX7_said_13 rfl ⟨by congr 3; (repeat (first | rw [if_pos (by omega)] | rw [if_neg (by omega)])), by ((repeat (first | rw [if_pos (by omega)] | rw [if_neg (by omega)])); (try rfl))⟩
