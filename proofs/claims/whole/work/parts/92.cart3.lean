/-! ===== a drive of the class's cart ===== -/
theorem bit_and (m k : Nat) : ((m / 2 ^ k &&& 1 : Nat) : Int) = if m.testBit k then 1 else 0 := by
  rw [Nat.and_one_is_mod, Nat.testBit_eq_decide_div_mod_eq]
  by_cases q : m / 2 ^ k % 2 = 1
  · rw [q]; simp
  · rw [show m / 2 ^ k % 2 = 0 by omega]; simp
theorem if1_t {p : Prop} {_ : Decidable p} (h : (if p then (1 : Int) else 0) = 1) : p := by
  by_cases q : p
  · exact q
  · rw [if_neg q] at h; exact absurd h (by decide)
theorem if1_f {p : Prop} {_ : Decidable p} (h : ¬ (if p then (1 : Int) else 0) = 1) : ¬ p := fun q => h (if_pos q)
theorem dvT_l {tu i lo hi : Nat} (h : tu.testBit i = true) : dvT (fun i => tu.testBit i) i lo hi = (lo : Int) - 1 := by unfold dvT; exact if_pos h
theorem dvT_r {tu i lo hi : Nat} (h : tu.testBit i = false) : dvT (fun i => tu.testBit i) i lo hi = (hi : Int) + 1 := by unfold dvT; exact if_neg (fun z => absurd (h.symm.trans z) (by decide))
theorem crtR_tr {σ σ1 σ2 : gS} {l l2 : List Nat} (h : crtR σ σ1 l) (h2 : crtR σ1 σ2 l2) : crtR σ σ2 l2 := ⟨chg_tr h.1 h2.1, h2.2.1.trans h.2.1, h2.2.2.1.trans h.2.2.1, h2.2.2.2.1, h2.2.2.2.2⟩
set_option maxHeartbeats 4000000 in
set_option maxRecDepth 100000 in
theorem tl_drive {d fr tu st lo hi now i to : Nat} {t : Int} (hd : 1 ≤ d) (ht : 0 ≤ t ∧ t ≤ 1000) (hlo : lo < 8) (hhi : hi < 8) (hnow : now < 8) (hto : to < 8) (σ σ1 : gS) {A : Nat → Int} (hdu : ∀ k, k < 8 → 0 ≤ A (29 + k) ∧ A (29 + k) ≤ 31) (hd8 : dueR σ1 A) {l : List Nat} (cr : crtR σ σ1 l) (hl8 : l.length < 8) {Q : Option Value → gS → Prop} (kc : (A (29 + to) = 0 ∨ t + dst to now ≤ A (29 + to) - 1) → ∀ σ2 : gS, crtR σ σ2 (duT A to (t + dst to now) l) → sE g_tt mX0_drive d Q 26 [some (.ref 337), some (.ref 8), some (.int (iZ (fr : Int))), some (.int (iZ (tu : Int))), some (.int (iZ (st : Int))), some (.int (iZ (min (lo : Int) (to : Int)))), some (.int (iZ (max (hi : Int) (to : Int)))), some (.int (iZ (to : Int))), some (.int (iZ (t + dst to now))), some (.int (iZ ((i : Int) + 1))), some (.int (iZ (to : Int)))] [] σ2) (kn : ¬ (A (29 + to) = 0 ∨ t + dst to now ≤ A (29 + to) - 1) → Q (some (.int (iZ (-1)))) σ1) : sE g_tt mX0_drive d Q 66 [some (.ref 337), some (.ref 8), some (.int (iZ (fr : Int))), some (.int (iZ (tu : Int))), some (.int (iZ (st : Int))), some (.int (iZ (lo : Int))), some (.int (iZ (hi : Int))), some (.int (iZ (now : Int))), some (.int (iZ t)), some (.int (iZ (i : Int))), some (.int (iZ (to : Int)))] [] σ1 := by
  have dn := dst_n to now
  have dt := hdu to hto
  have dm : dst to now ≤ 8 := by unfold dst; split <;> omega
  refine q_iload dX0_drive_66 rfl ?_
  refine q_iload dX0_drive_68 rfl ?_
  refine q_iload dX0_drive_70 rfl ?_
  refine z_isub dX0_drive_72 ?_
  refine z_mabs dX0_drive_73 mlX0_62 (by omega) (Nat.le_of_ble_eq_true rfl) (by unfold inR at *; omega) ?_
  refine z_top (y := dst to now) (by unfold dst; split <;> split <;> omega) ?_
  refine z_iadd dX0_drive_76 ?_
  refine q_istore dX0_drive_77 (by decide) ?_
  show sE g_tt _ _ _ 79 [some (.ref 337), some (.ref 8), some (.int (iZ (fr : Int))), some (.int (iZ (tu : Int))), some (.int (iZ (st : Int))), some (.int (iZ (lo : Int))), some (.int (iZ (hi : Int))), some (.int (iZ (now : Int))), some (.int (iZ (t + (dst to now)))), some (.int (iZ (i : Int))), some (.int (iZ (to : Int)))] [] σ1
  refine q_iload dX0_drive_79 rfl ?_
  refine q_istore dX0_drive_81 (by decide) ?_
  show sE g_tt _ _ _ 83 [some (.ref 337), some (.ref 8), some (.int (iZ (fr : Int))), some (.int (iZ (tu : Int))), some (.int (iZ (st : Int))), some (.int (iZ (lo : Int))), some (.int (iZ (hi : Int))), some (.int (iZ (to : Int))), some (.int (iZ (t + (dst to now)))), some (.int (iZ (i : Int))), some (.int (iZ (to : Int)))] [] σ1
  refine q_iload dX0_drive_83 rfl ?_
  refine q_iload dX0_drive_85 rfl ?_
  refine z_mmin dX0_drive_87 mlX0_28 (by omega) (Nat.le_of_ble_eq_true rfl) (by unfold inR at *; omega) (by unfold inR at *; omega) ?_
  refine q_istore dX0_drive_90 (by decide) ?_
  show sE g_tt _ _ _ 92 [some (.ref 337), some (.ref 8), some (.int (iZ (fr : Int))), some (.int (iZ (tu : Int))), some (.int (iZ (st : Int))), some (.int (iZ (min (lo : Int) (to : Int)))), some (.int (iZ (hi : Int))), some (.int (iZ (to : Int))), some (.int (iZ (t + (dst to now)))), some (.int (iZ (i : Int))), some (.int (iZ (to : Int)))] [] σ1
  refine q_iload dX0_drive_92 rfl ?_
  refine q_iload dX0_drive_94 rfl ?_
  refine z_mmax dX0_drive_96 mlX0_34 (by omega) (Nat.le_of_ble_eq_true rfl) (by unfold inR at *; omega) (by unfold inR at *; omega) ?_
  refine q_istore dX0_drive_99 (by decide) ?_
  show sE g_tt _ _ _ 101 [some (.ref 337), some (.ref 8), some (.int (iZ (fr : Int))), some (.int (iZ (tu : Int))), some (.int (iZ (st : Int))), some (.int (iZ (min (lo : Int) (to : Int)))), some (.int (iZ (max (hi : Int) (to : Int)))), some (.int (iZ (to : Int))), some (.int (iZ (t + (dst to now)))), some (.int (iZ (i : Int))), some (.int (iZ (to : Int)))] [] σ1
  refine q_aload_n dX0_drive_101 rfl rfl ?_
  refine q_iload dX0_drive_102 rfl ?_
  refine s_iald (n := 8) (x := A (29 + to) - 1) dX0_drive_104 (show kd 8 = 100 + 8 from rfl) (by omega) (by omega) (by decide) (hd8 to hto) ?_
  refine z_iconst dX0_drive_105 ?_
  refine z_icmp_eq (tgt := 120) dX0_drive_106 (by decide) (by unfold inR at *; omega) (by unfold inR at *; omega) (fun c_1 => ?_) (fun c_1 => ?_)
  · refine q_aload_n dX0_drive_120 rfl rfl ?_
    refine q_aload_n dX0_drive_121 rfl rfl ?_
    refine q_iload dX0_drive_122 rfl ?_
    refine s_callV (ci := 0) (a := 337) (As := [.ref 8, .int (iZ (to : Int))]) (S := []) dX0_drive_124 okX0_visit mlX0_55 rfl (by omega) rfl (Nat.le_of_ble_eq_true rfl) (show kd 337 = 0 from rfl) (by decide) rfl (x_visit (d := d - 1) (h := to) hto σ1 hdu hd8 cr.2.2.2.1 hl8 cr.2.2.2.2) (fun v_ σ_ hq => ?_)
    obtain ⟨rfl, cr2⟩ := hq
    rename gS => σ2
    show sE g_tt _ _ _ 127 [some (.ref 337), some (.ref 8), some (.int (iZ (fr : Int))), some (.int (iZ (tu : Int))), some (.int (iZ (st : Int))), some (.int (iZ (min (lo : Int) (to : Int)))), some (.int (iZ (max (hi : Int) (to : Int)))), some (.int (iZ (to : Int))), some (.int (iZ (t + (dst to now)))), some (.int (iZ (i : Int))), some (.int (iZ (to : Int)))] [] σ2
    refine z_iinc dX0_drive_127 rfl (by decide) ?_
    show sE g_tt _ _ _ 130 [some (.ref 337), some (.ref 8), some (.int (iZ (fr : Int))), some (.int (iZ (tu : Int))), some (.int (iZ (st : Int))), some (.int (iZ (min (lo : Int) (to : Int)))), some (.int (iZ (max (hi : Int) (to : Int)))), some (.int (iZ (to : Int))), some (.int (iZ (t + (dst to now)))), some (.int (iZ ((i : Int) + 1))), some (.int (iZ (to : Int)))] [] σ2
    refine q_goto (tgt := 26) dX0_drive_130 (by decide) ?_
    have on : A (29 + to) = 0 ∨ t + dst to now ≤ A (29 + to) - 1 := by omega
    refine kc on σ2 ?_
    rw [duT_on A l on]
    exact crtR_tr cr cr2
  · refine q_aload_n dX0_drive_109 rfl rfl ?_
    refine q_iload dX0_drive_110 rfl ?_
    refine s_iald (n := 8) (x := A (29 + to) - 1) dX0_drive_112 (show kd 8 = 100 + 8 from rfl) (by omega) (by omega) (by decide) (hd8 to hto) ?_
    refine q_iload dX0_drive_113 rfl ?_
    refine z_icmp_ge (tgt := 120) dX0_drive_115 (by decide) (by unfold inR at *; omega) (by unfold inR at *; omega) (fun c_2 => ?_) (fun c_2 => ?_)
    · refine q_aload_n dX0_drive_120 rfl rfl ?_
      refine q_aload_n dX0_drive_121 rfl rfl ?_
      refine q_iload dX0_drive_122 rfl ?_
      refine s_callV (ci := 0) (a := 337) (As := [.ref 8, .int (iZ (to : Int))]) (S := []) dX0_drive_124 okX0_visit mlX0_55 rfl (by omega) rfl (Nat.le_of_ble_eq_true rfl) (show kd 337 = 0 from rfl) (by decide) rfl (x_visit (d := d - 1) (h := to) hto σ1 hdu hd8 cr.2.2.2.1 hl8 cr.2.2.2.2) (fun v_ σ_ hq => ?_)
      obtain ⟨rfl, cr2⟩ := hq
      rename gS => σ2
      show sE g_tt _ _ _ 127 [some (.ref 337), some (.ref 8), some (.int (iZ (fr : Int))), some (.int (iZ (tu : Int))), some (.int (iZ (st : Int))), some (.int (iZ (min (lo : Int) (to : Int)))), some (.int (iZ (max (hi : Int) (to : Int)))), some (.int (iZ (to : Int))), some (.int (iZ (t + (dst to now)))), some (.int (iZ (i : Int))), some (.int (iZ (to : Int)))] [] σ2
      refine z_iinc dX0_drive_127 rfl (by decide) ?_
      show sE g_tt _ _ _ 130 [some (.ref 337), some (.ref 8), some (.int (iZ (fr : Int))), some (.int (iZ (tu : Int))), some (.int (iZ (st : Int))), some (.int (iZ (min (lo : Int) (to : Int)))), some (.int (iZ (max (hi : Int) (to : Int)))), some (.int (iZ (to : Int))), some (.int (iZ (t + (dst to now)))), some (.int (iZ ((i : Int) + 1))), some (.int (iZ (to : Int)))] [] σ2
      refine q_goto (tgt := 26) dX0_drive_130 (by decide) ?_
      have on : A (29 + to) = 0 ∨ t + dst to now ≤ A (29 + to) - 1 := by omega
      refine kc on σ2 ?_
      rw [duT_on A l on]
      exact crtR_tr cr cr2
    · refine z_iconst dX0_drive_118 ?_
      exact s_iretZ dX0_drive_119 rfl (kn (by omega))
/-- what a drive leaves behind -/
def drvQ (σ : gS) (x : Option (Int × List Nat)) (r : Option Value) (σ' : gS) : Prop := r = some (.int (iZ (oT x))) ∧ chg crtP σ σ' ∧ σ'.1 337 1 = σ.1 337 1 ∧ σ'.1 337 2 = σ.1 337 2 ∧ (x ≠ none → σ'.1 337 4 = (((oL x).length : Nat) : Int) ∧ lrow (σ'.2.1 339) (oL x))
theorem drv_none {σ σ1 : gS} {l : List Nat} (cr : crtR σ σ1 l) : drvQ σ none (some (.int (iZ (-1)))) σ1 := ⟨rfl, cr.1, cr.2.1, cr.2.2.1, fun q => absurd rfl q⟩
theorem drv_some {σ σ1 : gS} {l : List Nat} {t : Int} (cr : crtR σ σ1 l) : drvQ σ (some (t, l)) (some (.int (iZ t))) σ1 := ⟨rfl, cr.1, cr.2.1, cr.2.2.1, fun _ => ⟨cr.2.2.2.1, cr.2.2.2.2⟩⟩
set_option maxHeartbeats 4000000 in
set_option maxRecDepth 100000 in
theorem lx_drive {d fr tu st : Nat} (hd : 1 ≤ d) (hst : st ≤ 7) (htu : tu < 128) (σ : gS) {A : Nat → Int} (hdu : ∀ k, k < 8 → 0 ≤ A (29 + k) ∧ A (29 + k) ≤ 31) (hd8 : dueR σ A) : ∀ (n : Nat) (i lo hi now : Nat) (t : Int) (l : List Nat) (σ1 : gS) (l10 : Option Value), i ≤ st → lo ≤ hi → hi < 8 → now < 8 → (0 ≤ t ∧ t ≤ 8 * (i : Int)) → l.length ≤ i + 1 → crtR σ σ1 l → (st : Int) - (i : Int) < (n : Int) → sE g_tt mX0_drive d (drvQ σ (cDv A (fun i => tu.testBit i) st (8 - i) i lo hi now t l)) 26 [some (.ref 337), some (.ref 8), some (.int (iZ (fr : Int))), some (.int (iZ (tu : Int))), some (.int (iZ (st : Int))), some (.int (iZ (lo : Int))), some (.int (iZ (hi : Int))), some (.int (iZ (now : Int))), some (.int (iZ t)), some (.int (iZ (i : Int))), l10] [] σ1 := by
  intro n
  induction n with
  | zero =>
    intro i lo hi now t l σ1 l10 hi1 hlh hh8 hn8 ht hll cr hn
    exact absurd hn (by omega)
  | succ n ih =>
    intro i lo hi now t l σ1 l10 hi1 hlh hh8 hn8 ht hll cr hn
    refine q_iload dX0_drive_26 rfl ?_
    refine q_iload dX0_drive_28 rfl ?_
    refine z_icmp_ge (tgt := 133) dX0_drive_30 (by decide) (by unfold inR; omega) (by unfold inR; omega) (fun c_1 => ?_) (fun c_1 => ?_)
    · refine q_iload dX0_drive_133 rfl ?_
      exact s_iretZ dX0_drive_135 rfl (by rw [show 8 - i = (8 - (i + 1)) + 1 by omega, cDv, if_pos (by omega)]; exact drv_some cr)
    · refine q_iload_n dX0_drive_33 rfl rfl ?_
      refine q_iload dX0_drive_34 rfl ?_
      refine z_ishr (x := (tu : Int)) (k := i) dX0_drive_36 (by omega) (by unfold inR; omega) ?_
      refine z_top (y := ((tu / 2 ^ i : Nat) : Int)) (by simp) ?_
      refine z_iconst dX0_drive_37 ?_
      refine z_iand (m := tu / 2 ^ i) (k := 1) dX0_drive_38 ?_
      refine z_top (y := if tu.testBit i then 1 else 0) (bit_and tu i) ?_
      refine z_iconst dX0_drive_39 ?_
      refine z_icmp_ne (tgt := 50) dX0_drive_40 (by decide) inR_01 (by unfold inR; omega) (fun c_2 => ?_) (fun c_2 => ?_)
      · refine q_iload dX0_drive_50 rfl ?_
        refine z_iconst dX0_drive_52 ?_
        refine z_iadd dX0_drive_53 ?_
        refine q_istore dX0_drive_54 (by decide) ?_
        show sE g_tt _ _ _ 56 [some (.ref 337), some (.ref 8), some (.int (iZ (fr : Int))), some (.int (iZ (tu : Int))), some (.int (iZ (st : Int))), some (.int (iZ (lo : Int))), some (.int (iZ (hi : Int))), some (.int (iZ (now : Int))), some (.int (iZ t)), some (.int (iZ (i : Int))), some (.int (iZ ((hi : Int) + 1)))] [] σ1
        refine q_iload dX0_drive_56 rfl ?_
        refine s_callSN (host := RX6) (As := [.int (iZ ((hi : Int) + 1))]) (S := []) dX0_drive_58 okX6_isHouse (by decide) rfl (by omega) rfl (Nat.le_of_ble_eq_true rfl) (c_isHouse (d := d - 1) (z := (hi : Int) + 1) (by unfold inR; omega) σ1) (fun v_ σ_ hq => ?_)
        obtain ⟨rfl, e9⟩ := hq
        have e9 := e9.symm
        subst e9
        show sE g_tt _ _ _ 61 [some (.ref 337), some (.ref 8), some (.int (iZ (fr : Int))), some (.int (iZ (tu : Int))), some (.int (iZ (st : Int))), some (.int (iZ (lo : Int))), some (.int (iZ (hi : Int))), some (.int (iZ (now : Int))), some (.int (iZ t)), some (.int (iZ (i : Int))), some (.int (iZ ((hi : Int) + 1)))] [.int (iZ (if 0 ≤ (hi : Int) + 1 ∧ (hi : Int) + 1 < 8 then 1 else 0))] σ1
        refine z_if_ne (tgt := 66) dX0_drive_61 (by decide) inR_01 (fun c_21 => ?_) (fun c_21 => ?_)
        · have c_21 := if01_1 c_21
          have hb : tu.testBit i = false := by have z := if1_f c_2; revert z; cases tu.testBit i <;> simp
          have eD : dvT (fun i => tu.testBit i) i lo hi = (hi : Int) + 1 := dvT_r hb
          have eT : (hi : Int) + 1 = (((hi + 1) : Nat) : Int) := by omega
          have eN : ((hi : Int) + 1 : Int).toNat = (hi + 1) := by omega
          rw [eT]
          refine tl_drive (by omega) (by omega) (by omega) (by omega) (by omega) (to := (hi + 1)) (by omega) σ σ1 hdu (dueR_ch hd8 cr.1) cr (by omega) ?_ ?_
          · intro on σ2 cr2
            have ln := (duT_len A (hi + 1) (t + dst (hi + 1) now) l).1
            have dn := dst_n (hi + 1) now
            have dm : dst (hi + 1) now ≤ 8 := by unfold dst; split <;> omega
            rw [show 8 - i = (8 - (i + 1)) + 1 by omega, cDv, if_neg (by omega), eD, eN, if_neg (show ¬ ¬ (0 ≤ (hi : Int) + 1 ∧ (hi : Int) + 1 < 8) by omega), if_pos on, hb]
            have k9 := ih (i + 1) lo (hi + 1) (hi + 1) (t + dst (hi + 1) now) _ σ2 (some (.int (iZ (((hi + 1) : Nat) : Int)))) (by omega) (by omega) (by omega) (by omega) (by omega) (by omega) cr2 (by omega)
            simp only [Bool.false_eq_true, if_false]
            rw [show min (lo : Int) ((hi + 1 : Nat) : Int) = (lo : Int) by omega, show max (hi : Int) ((hi + 1 : Nat) : Int) = ((hi + 1 : Nat) : Int) by omega]
            exact k9
          · intro on
            rw [show 8 - i = (8 - (i + 1)) + 1 by omega, cDv, if_neg (by omega), eD, eN, if_neg (show ¬ ¬ (0 ≤ (hi : Int) + 1 ∧ (hi : Int) + 1 < 8) by omega), if_neg on]
            exact drv_none cr
        · have c_21 := if01_0 c_21
          refine z_iconst dX0_drive_64 ?_
          exact s_iretZ dX0_drive_65 rfl (by have hb : tu.testBit i = false := (by have z := if1_f c_2; revert z; cases tu.testBit i <;> simp); rw [show 8 - i = (8 - (i + 1)) + 1 by omega, cDv, if_neg (by omega), show dvT (fun i => tu.testBit i) i lo hi = (hi : Int) + 1 from dvT_r hb, if_pos c_21]; exact drv_none cr)
      · refine q_iload dX0_drive_43 rfl ?_
        refine z_iconst dX0_drive_45 ?_
        refine z_isub dX0_drive_46 ?_
        refine q_goto (tgt := 54) dX0_drive_47 (by decide) ?_
        refine q_istore dX0_drive_54 (by decide) ?_
        show sE g_tt _ _ _ 56 [some (.ref 337), some (.ref 8), some (.int (iZ (fr : Int))), some (.int (iZ (tu : Int))), some (.int (iZ (st : Int))), some (.int (iZ (lo : Int))), some (.int (iZ (hi : Int))), some (.int (iZ (now : Int))), some (.int (iZ t)), some (.int (iZ (i : Int))), some (.int (iZ ((lo : Int) - 1)))] [] σ1
        refine q_iload dX0_drive_56 rfl ?_
        refine s_callSN (host := RX6) (As := [.int (iZ ((lo : Int) - 1))]) (S := []) dX0_drive_58 okX6_isHouse (by decide) rfl (by omega) rfl (Nat.le_of_ble_eq_true rfl) (c_isHouse (d := d - 1) (z := (lo : Int) - 1) (by unfold inR; omega) σ1) (fun v_ σ_ hq => ?_)
        obtain ⟨rfl, e9⟩ := hq
        have e9 := e9.symm
        subst e9
        show sE g_tt _ _ _ 61 [some (.ref 337), some (.ref 8), some (.int (iZ (fr : Int))), some (.int (iZ (tu : Int))), some (.int (iZ (st : Int))), some (.int (iZ (lo : Int))), some (.int (iZ (hi : Int))), some (.int (iZ (now : Int))), some (.int (iZ t)), some (.int (iZ (i : Int))), some (.int (iZ ((lo : Int) - 1)))] [.int (iZ (if 0 ≤ (lo : Int) - 1 ∧ (lo : Int) - 1 < 8 then 1 else 0))] σ1
        refine z_if_ne (tgt := 66) dX0_drive_61 (by decide) inR_01 (fun c_21 => ?_) (fun c_21 => ?_)
        · have c_21 := if01_1 c_21
          have hb : tu.testBit i = true := by exact if1_t c_2
          have eD : dvT (fun i => tu.testBit i) i lo hi = (lo : Int) - 1 := dvT_l hb
          have eT : (lo : Int) - 1 = (((lo - 1) : Nat) : Int) := by omega
          have eN : ((lo : Int) - 1 : Int).toNat = (lo - 1) := by omega
          rw [eT]
          refine tl_drive (by omega) (by omega) (by omega) (by omega) (by omega) (to := (lo - 1)) (by omega) σ σ1 hdu (dueR_ch hd8 cr.1) cr (by omega) ?_ ?_
          · intro on σ2 cr2
            have ln := (duT_len A (lo - 1) (t + dst (lo - 1) now) l).1
            have dn := dst_n (lo - 1) now
            have dm : dst (lo - 1) now ≤ 8 := by unfold dst; split <;> omega
            rw [show 8 - i = (8 - (i + 1)) + 1 by omega, cDv, if_neg (by omega), eD, eN, if_neg (show ¬ ¬ (0 ≤ (lo : Int) - 1 ∧ (lo : Int) - 1 < 8) by omega), if_pos on, hb]
            have k9 := ih (i + 1) (lo - 1) hi (lo - 1) (t + dst (lo - 1) now) _ σ2 (some (.int (iZ (((lo - 1) : Nat) : Int)))) (by omega) (by omega) (by omega) (by omega) (by omega) (by omega) cr2 (by omega)
            simp only [if_true]
            rw [show min (lo : Int) ((lo - 1 : Nat) : Int) = ((lo - 1 : Nat) : Int) by omega, show max (hi : Int) ((lo - 1 : Nat) : Int) = (hi : Int) by omega]
            exact k9
          · intro on
            rw [show 8 - i = (8 - (i + 1)) + 1 by omega, cDv, if_neg (by omega), eD, eN, if_neg (show ¬ ¬ (0 ≤ (lo : Int) - 1 ∧ (lo : Int) - 1 < 8) by omega), if_neg on]
            exact drv_none cr
        · have c_21 := if01_0 c_21
          refine z_iconst dX0_drive_64 ?_
          exact s_iretZ dX0_drive_65 rfl (by have hb : tu.testBit i = true := (by exact if1_t c_2); rw [show 8 - i = (8 - (i + 1)) + 1 by omega, cDv, if_neg (by omega), show dvT (fun i => tu.testBit i) i lo hi = (lo : Int) - 1 from dvT_l hb, if_pos c_21]; exact drv_none cr)
set_option maxHeartbeats 4000000 in
set_option maxRecDepth 100000 in
theorem x_drive {d fr tu st : Nat} (hd : 1 ≤ d) (hst : st ≤ 7) (htu : tu < 128) (hfr : fr < 8) (σ : gS) {A : Nat → Int} (hdu : ∀ k, k < 8 → 0 ≤ A (29 + k) ∧ A (29 + k) ≤ 31) (hd8 : dueR σ A) : sC mX0_drive d [.ref 337, .ref 8, .int (iZ (fr : Int)), .int (iZ (tu : Int)), .int (iZ (st : Int))] σ (drvQ σ (cDv A (fun i => tu.testBit i) st 8 0 fr fr fr 0 (duT A fr 0 []))) := by
  have df := hdu fr hfr
  have c0 : chg crtP σ (sI σ 337 4 0) := chg_mono (chg_sI σ 337 4 0) (fun a q => Or.inl q)
  refine sC_of rfl (Nat.le_of_ble_eq_true rfl) ?_
  show sE g_tt _ _ _ 0 [some (.ref 337), some (.ref 8), some (.int (iZ (fr : Int))), some (.int (iZ (tu : Int))), some (.int (iZ (st : Int))), none, none, none, none, none, none] [] σ
  refine q_iload_n dX0_drive_0 rfl rfl ?_
  refine q_istore dX0_drive_1 (by decide) ?_
  show sE g_tt _ _ _ 3 [some (.ref 337), some (.ref 8), some (.int (iZ (fr : Int))), some (.int (iZ (tu : Int))), some (.int (iZ (st : Int))), some (.int (iZ (fr : Int))), none, none, none, none, none] [] σ
  refine q_iload_n dX0_drive_3 rfl rfl ?_
  refine q_istore dX0_drive_4 (by decide) ?_
  show sE g_tt _ _ _ 6 [some (.ref 337), some (.ref 8), some (.int (iZ (fr : Int))), some (.int (iZ (tu : Int))), some (.int (iZ (st : Int))), some (.int (iZ (fr : Int))), some (.int (iZ (fr : Int))), none, none, none, none] [] σ
  refine q_iload_n dX0_drive_6 rfl rfl ?_
  refine q_istore dX0_drive_7 (by decide) ?_
  show sE g_tt _ _ _ 9 [some (.ref 337), some (.ref 8), some (.int (iZ (fr : Int))), some (.int (iZ (tu : Int))), some (.int (iZ (st : Int))), some (.int (iZ (fr : Int))), some (.int (iZ (fr : Int))), some (.int (iZ (fr : Int))), none, none, none] [] σ
  refine z_iconst dX0_drive_9 ?_
  refine q_istore dX0_drive_10 (by decide) ?_
  show sE g_tt _ _ _ 12 [some (.ref 337), some (.ref 8), some (.int (iZ (fr : Int))), some (.int (iZ (tu : Int))), some (.int (iZ (st : Int))), some (.int (iZ (fr : Int))), some (.int (iZ (fr : Int))), some (.int (iZ (fr : Int))), some (.int (iZ 0)), none, none] [] σ
  refine q_aload_n dX0_drive_12 rfl rfl ?_
  refine z_iconst dX0_drive_13 ?_
  refine sp0 (kf := 4) dX0_drive_14 flX0_25 (show kd 337 = 0 from rfl) (by decide) ?_
  refine q_aload_n dX0_drive_17 rfl rfl ?_
  refine q_aload_n dX0_drive_18 rfl rfl ?_
  refine q_iload_n dX0_drive_19 rfl rfl ?_
  refine s_callV (ci := 0) (a := 337) (As := [.ref 8, .int (iZ (fr : Int))]) (S := []) dX0_drive_20 okX0_visit mlX0_55 rfl (by omega) rfl (Nat.le_of_ble_eq_true rfl) (show kd 337 = 0 from rfl) (by decide) rfl (x_visit (d := d - 1) (h := fr) hfr (sI σ 337 4 0) hdu (dueR_ch hd8 c0) (l := []) (up2_at σ.1 337 4 0) (by decide) (lrow_nil _)) (fun v_ σ_ hq => ?_)
  obtain ⟨rfl, cr2⟩ := hq
  rename gS => σ2
  show sE g_tt _ _ _ 23 [some (.ref 337), some (.ref 8), some (.int (iZ (fr : Int))), some (.int (iZ (tu : Int))), some (.int (iZ (st : Int))), some (.int (iZ (fr : Int))), some (.int (iZ (fr : Int))), some (.int (iZ (fr : Int))), some (.int (iZ 0)), none, none] [] σ2
  refine z_iconst dX0_drive_23 ?_
  refine q_istore dX0_drive_24 (by decide) ?_
  show sE g_tt _ _ _ 26 [some (.ref 337), some (.ref 8), some (.int (iZ (fr : Int))), some (.int (iZ (tu : Int))), some (.int (iZ (st : Int))), some (.int (iZ (fr : Int))), some (.int (iZ (fr : Int))), some (.int (iZ (fr : Int))), some (.int (iZ 0)), some (.int (iZ 0)), none] [] σ2
  have on : A (29 + fr) = 0 ∨ (0 : Int) ≤ A (29 + fr) - 1 := by omega
  rw [← duT_on A [] on] at cr2
  have ln := (duT_len A fr 0 []).1
  exact lx_drive hd hst htu σ hdu hd8 9 0 fr fr fr 0 _ σ2 _ (by omega) (by omega) (by omega) (by omega) (by omega) (by simpa using ln) ⟨chg_tr c0 cr2.1, cr2.2.1.trans (up2_k (a := 337) (k := 4) (j := 1) σ.1 0 (by decide)), cr2.2.2.1.trans (up2_k (a := 337) (k := 4) (j := 2) σ.1 0 (by decide)), cr2.2.2.2⟩ (by omega)
