/-! ===== odds of the class ===== -/
theorem sCnt_add (e : Nat → Int) (a : Nat) : ∀ n, sCnt e (a + n) = sCnt e a + sCnt (fun x => e (a + x)) n := by
  intro n
  induction n with
  | zero => rw [Nat.add_zero, show sCnt (fun x => e (a + x)) 0 = 0 from rfl, Int.add_zero]
  | succ n ih => rw [← Nat.add_assoc, sCnt, sCnt, ih, Int.add_assoc]
theorem sCnt_cong {e f : Nat → Int} : ∀ n, (∀ x, x < n → e x = f x) → sCnt e n = sCnt f n := by
  intro n
  induction n with
  | zero => intro _; rfl
  | succ n ih => intro h; rw [sCnt, sCnt, ih (fun x hx => h x (by omega)), h n (by omega)]
/-- the row behind a draw of house h -/
noncomputable def drw (W : wF) (B : Nat → Int) (h : Nat) : Nat → Int := if B (11 + h) + 1 ≤ 99 then rA W (inc B h) else rA W B
theorem mDo_drw (W : wF) {h r c : Nat} (hh : h < 8) (hc : c < 2 ^ (3 * r)) (B : Nat → Int) : mDo W 1 (h * 2 ^ (3 * r) + c) (r + 1) B = mDo W 1 c r (drw W B h) := by
  rw [mDo_hi W 1 hh hc B]
  unfold drw
  by_cases k : B (11 + h) + 1 ≤ 99
  · rw [if_pos k, if_pos k]
  · rw [if_neg k, if_neg k, if_neg (by decide)]
noncomputable def cDr (W : wF) (gv : (Nat → Int) → Int) (r : Nat) (B : Nat → Int) : Int := sCnt (fun c => gv (mDo W 1 c r B).2) (2 ^ (3 * r))
theorem cDr_step (W : wF) (gv : (Nat → Int) → Int) {h r : Nat} (hh : h < 8) (B : Nat → Int) : sCnt (fun c => gv (mDo W 1 c (r + 1) B).2) ((h + 1) * 2 ^ (3 * r)) = sCnt (fun c => gv (mDo W 1 c (r + 1) B).2) (h * 2 ^ (3 * r)) + cDr W gv r (drw W B h) := by
  rw [Nat.add_mul, Nat.one_mul, sCnt_add]
  congr 1
  exact sCnt_cong _ (fun x hx => by rw [mDo_drw W hh hx])
theorem cd_scr {l : Nat} {σ σ' : gS} (h : chg (fun a => stkP a ∨ (364 + 5 * (l + 1) ≤ a ∧ a < 384)) σ σ') : chg scrQ σ σ' := chg_mono h (fun a q => by unfold scrQ; unfold stkP at *; omega)
set_option maxHeartbeats 4000000 in
set_option maxRecDepth 100000 in
theorem x_cdS {r n : Nat} {pz : Int} {gv : (Nat → Int) → Int} {W V : wF} {A I : Nat → Int} {c nt : Int} (hc : c ≤ 88000) (hn4 : nt ≤ 4) (ok : okR c nt A) (oi : okR c (I 1) I) (cd_r : ∀ {l : Nat}, l < 4 → l + r = n → ∀ (d : Nat), 7 + r ≤ d → ∀ (σ : gS) (C : clR σ W V A I) (B : Nat → Int) (gB : gd 98000 4 B) (hB2 : B 2 = A 2) (hB0 : B 0 = A 0) (tB : trS 0 σ (364 + 5 * l) B), sC mX6_countDraws d [.ref 0, .int (iZ pz), .int (iZ (l : Int)), .int (iZ (n : Int))] σ (fun v σ' => v = some (.int (iZ (cDr W gv r B))) ∧ chg (fun a => stkP a ∨ (364 + 5 * (l + 1) ≤ a ∧ a < 384)) σ σ')) (hn3 : n ≤ 3) {l : Nat} (hl : l < 4) (hln : l + (r + 1) = n) (d : Nat) (hd : 7 + (r + 1) ≤ d) (hpz : inR pz) (σ : gS) (C : clR σ W V A I) (B : Nat → Int) (gB : gd 98000 4 B) (hB2 : B 2 = A 2) (hB0 : B 0 = A 0) (tB : trS 0 σ (364 + 5 * l) B) : sC mX6_countDraws d [.ref 0, .int (iZ pz), .int (iZ (l : Int)), .int (iZ (n : Int))] σ (fun v σ' => v = some (.int (iZ (cDr W gv (r + 1) B))) ∧ chg (fun a => stkP a ∨ (364 + 5 * (l + 1) ≤ a ∧ a < 384)) σ σ') := by
  have g := ok_gd hc hn4 ok
  have g0 := g.1
  have a2 := ok_2 ok
  have dr : ∀ h, h < 8 → gd 80 4 (drw W B h) ∧ drw W B h 2 = A 2 ∧ drw W B h 0 = A 0 := fun h hh => by
    have key : ∀ R, gd 100000 4 R → R 2 = A 2 → R 0 = A 0 → gd 80 4 (rA W R) ∧ rA W R 2 = A 2 ∧ rA W R 0 = A 0 := fun R gR e2 e0 => by
      have ro := rA_ok (w0_of C) gR (by omega) (by omega)
      exact ⟨ro.1, by rw [ro.2.1, e2], by rw [show rA W R 0 = R 0 from sett_lo2 (w0_of C) _ _ _ gR (by omega) (by omega) 0 (by omega), e0]⟩
    unfold drw
    split
    · exact key _ (gd_mono (inc_gd gB hh) (by decide)) (by rw [inc_2, hB2]) ((show inc B h 0 = B 0 from va_up_ne _ _ (by omega)).trans hB0)
    · exact key _ (gd_mono gB (by decide)) hB2 hB0
  have cd_l := fun (d : Nat) (B : Nat → Int) (σ : gS) (h7 : 7 + r ≤ d) (C : clR σ W V A I) (gB : gd 98000 4 B) (hB2 : B 2 = A 2) (hB0 : B 0 = A 0) (tB : trS 0 σ (364 + 5 * (l + 1)) B) => cd_r (l := l + 1) (by omega) (by omega) d h7 σ C B gB hB2 hB0 tB
  refine sC_of rfl (Nat.le_of_ble_eq_true rfl) ?_
  have lp : ∀ (m h : Nat) (σ1 : gS) (l7 : Option Value), h ≤ 8 → trS 0 σ1 (364 + 5 * l) B → chg (fun a => stkP a ∨ (364 + 5 * (l + 1) ≤ a ∧ a < 384)) σ σ1 → 8 - (h : Int) < (m : Int) → sE g_tt mX6_countDraws d (fun v σ' => v = some (.int (iZ (cDr W gv (r + 1) B))) ∧ chg (fun a => stkP a ∨ (364 + 5 * (l + 1) ≤ a ∧ a < 384)) σ σ') 91 [some (.ref 0), some (.int (iZ pz)), some (.int (iZ (l : Int))), some (.int (iZ (n : Int))), some (.ref (364 + 5 * l)), some (.int (iZ (sCnt (fun c => gv (mDo W 1 c (r + 1) B).2) (h * 2 ^ (3 * r))))), some (.int (iZ (h : Int))), l7] [] σ1 := by
    intro m
    induction m with
    | zero => intro h σ1 l7 h8 _ _ hm; exact absurd hm (by omega)
    | succ m ih =>
      intro h σ1 l7 h8 tB s1 hm
      have C1 := clR_ch ok oi C (cd_scr s1)
      by_cases h88 : h < 8
      · have kB := kd_ran gB h88
        have gU : gd 100000 4 (inc B h) := gd_mono (inc_gd gB h88) (by decide)
        have hU2 : inc B h 2 = A 2 := by rw [inc_2, hB2]
        refine q_iload dX6_countDraws_91 rfl ?_
        refine z_bipush dX6_countDraws_93 (by decide +kernel) ?_
        refine z_icmp_ge (tgt := 168) dX6_countDraws_95 (by decide) (by unfold inR at *; omega) (by unfold inR at *; omega) (fun c_1 => ?_) (fun c_1 => ?_)
        · exfalso
          omega
        · refine q_aload_n dX6_countDraws_98 rfl rfl ?_
          refine sg6 (kf := 6) (v := .ref 334) dX6_countDraws_99 flX6_48 (show kd 0 = 6 from rfl) (by decide) rfl ?_
          refine q_iload_n dX6_countDraws_102 rfl rfl ?_
          refine z_iconst dX6_countDraws_103 ?_
          refine z_iadd dX6_countDraws_104 ?_
          refine s_aaldS (n := 4) (x := (364 + 5 * (l + 1))) dX6_countDraws_105 (show kd 334 = 300000 + 4 from rfl) (by omega) (by omega) (by decide) (by rw [show ((l : Int) + 1).toNat = l + 1 by omega]; exact C1.2.2.2.2 (l + 1) (by omega)) ?_
          refine q_astore dX6_countDraws_106 (by decide) ?_
          show sE g_tt _ _ _ 108 [some (.ref 0), some (.int (iZ pz)), some (.int (iZ (l : Int))), some (.int (iZ (n : Int))), some (.ref (364 + 5 * l)), some (.int (iZ (sCnt (fun c => gv (mDo W 1 c (r + 1) B).2) (h * 2 ^ (3 * r))))), some (.int (iZ (h : Int))), some (.ref (364 + 5 * (l + 1)))] [] σ1
          refine q_aload dX6_countDraws_108 rfl ?_
          refine q_aload dX6_countDraws_110 rfl ?_
          refine s_callV (ci := 2) (a := (364 + 5 * (l + 1))) (As := [.ref (364 + 5 * l)]) (S := []) dX6_countDraws_112 okX2_take mlX6_218 rfl (by omega) rfl (Nat.le_of_ble_eq_true rfl) (kd_lv (l := l + 1) (by omega)) (by decide) rfl (t_take (d := d - 1) (s := (364 + 5 * (l + 1))) (o := (364 + 5 * l)) (by omega) (kd_lv (l := l + 1) (by omega)) σ1 (kd_lv (l := l) (by omega)) (by omega)) (fun v_ σ_ hq => ?_)
          obtain ⟨rfl, hc2, ht2⟩ := hq
          rename gS => σ2
          have s2 : chg (fun a => stkP a ∨ (364 + 5 * (l + 1) ≤ a ∧ a < 384)) σ1 σ2 := chg_mono hc2 (fun a q => by omega)
          have C2 := clR_ch ok oi C1 (cd_scr s2)
          have t2 : trS 0 σ2 (364 + 5 * (l + 1)) B := ht2 0 B gB.1.2 (fun q => absurd rfl q) tB
          have tB2 : trS 0 σ2 (364 + 5 * l) B := trS_ch tB hc2 (fun a x y => by omega)
          have su : chg (fun a => stkP a ∨ (364 + 5 * (l + 1) ≤ a ∧ a < 384)) σ2 (sR σ2 ((364 + 5 * (l + 1)) + 1) h (B (11 + h) + 1)) := chg_mono (chg_sR σ2 ((364 + 5 * (l + 1)) + 1) h _) (fun a q => by omega)
          have CU := clR_ch ok oi C2 (cd_scr su)
          have tU : trS 0 (sR σ2 ((364 + 5 * (l + 1)) + 1) h (B (11 + h) + 1)) (364 + 5 * (l + 1)) (inc B h) := trS_kind t2 (by omega) _
          show sE g_tt _ _ _ 115 [some (.ref 0), some (.int (iZ pz)), some (.int (iZ (l : Int))), some (.int (iZ (n : Int))), some (.ref (364 + 5 * l)), some (.int (iZ (sCnt (fun c => gv (mDo W 1 c (r + 1) B).2) (h * 2 ^ (3 * r))))), some (.int (iZ (h : Int))), some (.ref (364 + 5 * (l + 1)))] [] σ2
          refine q_aload dX6_countDraws_115 rfl ?_
          refine q_iload dX6_countDraws_117 rfl ?_
          refine z_iconst dX6_countDraws_119 ?_
          refine s_callV (ci := 2) (a := (364 + 5 * (l + 1))) (As := [.int (iZ (h : Int)), .int (iZ 1)]) (S := []) dX6_countDraws_120 okX2_takesGood mlX6_115 rfl (by omega) rfl (Nat.le_of_ble_eq_true rfl) (kd_lv (l := l + 1) (by omega)) (by decide) rfl (t_takesGood (d := d - 1) (s := (364 + 5 * (l + 1))) (kd_lv (l := l + 1) (by omega)) σ2 (j := h) (by omega) (n := 1) (by rw [t2.1 h (by omega)]; unfold inR; omega)) (fun v_ σ_ hq => ?_)
          obtain ⟨rfl, e9⟩ := hq
          have e9 := e9.symm
          subst e9
          refine z_top (y := if B (11 + h) + 1 ≤ 99 then 1 else 0) (by rw [t2.1 h (by omega)]) ?_
          show sE g_tt _ _ _ 123 [some (.ref 0), some (.int (iZ pz)), some (.int (iZ (l : Int))), some (.int (iZ (n : Int))), some (.ref (364 + 5 * l)), some (.int (iZ (sCnt (fun c => gv (mDo W 1 c (r + 1) B).2) (h * 2 ^ (3 * r))))), some (.int (iZ (h : Int))), some (.ref (364 + 5 * (l + 1)))] [.int (iZ (if B (11 + h) + 1 ≤ 99 then 1 else 0))] σ2
          refine z_if_eq (tgt := 138) dX6_countDraws_123 (by decide) inR_01 (fun c_2 => ?_) (fun c_2 => ?_)
          · have c_2 := if01_0 c_2
            refine q_aload dX6_countDraws_138 rfl ?_
            refine q_aload_n dX6_countDraws_140 rfl rfl ?_
            refine s_callV (ci := 6) (a := 0) (As := []) (S := [.ref (364 + 5 * (l + 1))]) dX6_countDraws_141 okX6_rule mlX6_125 rfl (by omega) rfl (Nat.le_of_ble_eq_true rfl) (show kd 0 = 6 from rfl) (by decide) rfl (x_rule (d := d - 1) (by omega) σ2 hc hn4 ok oi C2) (fun v_ σ_ hq => ?_)
            obtain ⟨rfl, e9⟩ := hq
            have e9 := e9.symm
            subst e9
            show sE g_tt _ _ _ 144 [some (.ref 0), some (.int (iZ pz)), some (.int (iZ (l : Int))), some (.int (iZ (n : Int))), some (.ref (364 + 5 * l)), some (.int (iZ (sCnt (fun c => gv (mDo W 1 c (r + 1) B).2) (h * 2 ^ (3 * r))))), some (.int (iZ (h : Int))), some (.ref (364 + 5 * (l + 1)))] [.ref (txp (A 2)), .ref (364 + 5 * (l + 1))] σ2
            refine s_callV (ci := 2) (a := (364 + 5 * (l + 1))) (As := [.ref (txp (A 2))]) (S := []) dX6_countDraws_144 okX2_settleBy mlX6_140 rfl (by omega) rfl (Nat.le_of_ble_eq_true rfl) (kd_lv (l := l + 1) (by omega)) (by decide) rfl (t_settle (d := d - 1) (s := (364 + 5 * (l + 1))) (by omega) (kd_lv (l := l + 1) (by omega)) σ2 (C2.2.2.1 (A 2) a2.1 a2.2) B zF (gd_mono gB (by decide)) hB2 t2) (fun v_ σ_ hq => ?_)
            obtain ⟨rfl, hc3, ht3, hm3, hn3'⟩ := hq
            rename gS => σ3
            have s3 : chg (fun a => stkP a ∨ (364 + 5 * (l + 1) ≤ a ∧ a < 384)) σ σ3 := chg_tr (chg_tr s1 s2) (chg_mono hc3 (fun a q => by unfold atS at q; unfold stkP at *; omega))
            have C3 := clR_ch ok oi C (cd_scr s3)
            have tB3 : trS 0 σ3 (364 + 5 * l) B := trS_ch tB2 hc3 (fun a x y => by unfold atS stkP; omega)
            have eD : drw W B h = rA W B := if_neg c_2
            have tD : trS 0 σ3 (364 + 5 * (l + 1)) (drw W B h) := by rw [eD]; exact ht3
            show sE g_tt _ _ _ 147 [some (.ref 0), some (.int (iZ pz)), some (.int (iZ (l : Int))), some (.int (iZ (n : Int))), some (.ref (364 + 5 * l)), some (.int (iZ (sCnt (fun c => gv (mDo W 1 c (r + 1) B).2) (h * 2 ^ (3 * r))))), some (.int (iZ (h : Int))), some (.ref (364 + 5 * (l + 1)))] [.int (iZ ((mS W B zF).1.length : Int))] σ3
            refine q_pop dX6_countDraws_147 rfl ?_
            refine q_iload dX6_countDraws_148 rfl ?_
            refine q_aload_n dX6_countDraws_150 rfl rfl ?_
            refine q_iload_n dX6_countDraws_151 rfl rfl ?_
            refine q_iload_n dX6_countDraws_152 rfl rfl ?_
            refine z_iconst dX6_countDraws_153 ?_
            refine z_iadd dX6_countDraws_154 ?_
            refine q_iload_n dX6_countDraws_155 rfl rfl ?_
            refine s_callV (ci := 6) (a := 0) (As := [.int (iZ pz), .int (iZ ((l : Int) + 1)), .int (iZ (n : Int))]) (S := [.int (iZ (sCnt (fun c => gv (mDo W 1 c (r + 1) B).2) (h * 2 ^ (3 * r))))]) dX6_countDraws_156 okX6_countDraws mlX6_270 rfl (by omega) rfl (Nat.le_of_ble_eq_true rfl) (show kd 0 = 6 from rfl) (by decide) rfl (cd_l (d - 1) (drw W B h) σ3 (by omega) C3 (gd_mono (dr h (by omega)).1 (by decide)) (dr h (by omega)).2.1 (dr h (by omega)).2.2 tD) (fun v_ σ_ hq => ?_)
            obtain ⟨rfl, hc4⟩ := hq
            rename gS => σ4
            have s4 : chg (fun a => stkP a ∨ (364 + 5 * (l + 1) ≤ a ∧ a < 384)) σ σ4 := chg_tr s3 (chg_mono hc4 (fun a q => by unfold stkP at *; omega))
            have tB4 : trS 0 σ4 (364 + 5 * l) B := trS_ch tB3 hc4 (fun a x y => by unfold stkP; omega)
            show sE g_tt _ _ _ 159 [some (.ref 0), some (.int (iZ pz)), some (.int (iZ (l : Int))), some (.int (iZ (n : Int))), some (.ref (364 + 5 * l)), some (.int (iZ (sCnt (fun c => gv (mDo W 1 c (r + 1) B).2) (h * 2 ^ (3 * r))))), some (.int (iZ (h : Int))), some (.ref (364 + 5 * (l + 1)))] [.int (iZ (cDr W gv r (drw W B h))), .int (iZ (sCnt (fun c => gv (mDo W 1 c (r + 1) B).2) (h * 2 ^ (3 * r))))] σ4
            refine z_iadd dX6_countDraws_159 ?_
            refine q_istore dX6_countDraws_160 (by decide) ?_
            show sE g_tt _ _ _ 162 [some (.ref 0), some (.int (iZ pz)), some (.int (iZ (l : Int))), some (.int (iZ (n : Int))), some (.ref (364 + 5 * l)), some (.int (iZ ((sCnt (fun c => gv (mDo W 1 c (r + 1) B).2) (h * 2 ^ (3 * r))) + (cDr W gv r (drw W B h))))), some (.int (iZ (h : Int))), some (.ref (364 + 5 * (l + 1)))] [] σ4
            refine z_iinc dX6_countDraws_162 rfl (by decide) ?_
            show sE g_tt _ _ _ 165 [some (.ref 0), some (.int (iZ pz)), some (.int (iZ (l : Int))), some (.int (iZ (n : Int))), some (.ref (364 + 5 * l)), some (.int (iZ ((sCnt (fun c => gv (mDo W 1 c (r + 1) B).2) (h * 2 ^ (3 * r))) + (cDr W gv r (drw W B h))))), some (.int (iZ ((h : Int) + 1))), some (.ref (364 + 5 * (l + 1)))] [] σ4
            refine q_goto (tgt := 91) dX6_countDraws_165 (by decide) ?_
            have k9 := ih (h + 1) σ4 (some (.ref (364 + 5 * (l + 1)))) (by omega) tB4 s4 (by omega)
            rw [cDr_step W gv (by omega) B] at k9
            exact k9
          · have c_2 := if01_1 c_2
            refine q_aload dX6_countDraws_126 rfl ?_
            refine sg2 (kf := 0) (v := .ref ((364 + 5 * (l + 1)) + 1)) dX6_countDraws_128 flX6_122 (kd_lv (l := l + 1) (by omega)) (by decide) rfl ?_
            refine q_iload dX6_countDraws_131 rfl ?_
            refine q_dup2 dX6_countDraws_133 rfl rfl ?_
            refine s_iald (n := 8) (x := B (11 + h)) dX6_countDraws_134 (kd_st (kd_lv (l := l + 1) (by omega))).1 (by omega) (by omega) (by decide) (t2.1 h (by omega)) ?_
            refine z_iconst dX6_countDraws_135 ?_
            refine z_iadd dX6_countDraws_136 ?_
            refine s_iast (n := 8) dX6_countDraws_137 (kd_st (kd_lv (l := l + 1) (by omega))).1 (by omega) (by omega) (by decide) ?_
            refine q_aload dX6_countDraws_138 rfl ?_
            refine q_aload_n dX6_countDraws_140 rfl rfl ?_
            refine s_callV (ci := 6) (a := 0) (As := []) (S := [.ref (364 + 5 * (l + 1))]) dX6_countDraws_141 okX6_rule mlX6_125 rfl (by omega) rfl (Nat.le_of_ble_eq_true rfl) (show kd 0 = 6 from rfl) (by decide) rfl (x_rule (d := d - 1) (by omega) (sR σ2 ((364 + 5 * (l + 1)) + 1) h ((B (11 + h)) + 1)) hc hn4 ok oi CU) (fun v_ σ_ hq => ?_)
            obtain ⟨rfl, e9⟩ := hq
            have e9 := e9.symm
            subst e9
            show sE g_tt _ _ _ 144 [some (.ref 0), some (.int (iZ pz)), some (.int (iZ (l : Int))), some (.int (iZ (n : Int))), some (.ref (364 + 5 * l)), some (.int (iZ (sCnt (fun c => gv (mDo W 1 c (r + 1) B).2) (h * 2 ^ (3 * r))))), some (.int (iZ (h : Int))), some (.ref (364 + 5 * (l + 1)))] [.ref (txp (A 2)), .ref (364 + 5 * (l + 1))] (sR σ2 ((364 + 5 * (l + 1)) + 1) h ((B (11 + h)) + 1))
            refine s_callV (ci := 2) (a := (364 + 5 * (l + 1))) (As := [.ref (txp (A 2))]) (S := []) dX6_countDraws_144 okX2_settleBy mlX6_140 rfl (by omega) rfl (Nat.le_of_ble_eq_true rfl) (kd_lv (l := l + 1) (by omega)) (by decide) rfl (t_settle (d := d - 1) (s := (364 + 5 * (l + 1))) (by omega) (kd_lv (l := l + 1) (by omega)) (sR σ2 ((364 + 5 * (l + 1)) + 1) h (B (11 + h) + 1)) (CU.2.2.1 (A 2) a2.1 a2.2) (inc B h) zF gU hU2 tU) (fun v_ σ_ hq => ?_)
            obtain ⟨rfl, hc3, ht3, hm3, hn3'⟩ := hq
            rename gS => σ3
            have s3 : chg (fun a => stkP a ∨ (364 + 5 * (l + 1) ≤ a ∧ a < 384)) σ σ3 := chg_tr (chg_tr s1 s2) (chg_tr su (chg_mono hc3 (fun a q => by unfold atS at q; unfold stkP at *; omega)))
            have C3 := clR_ch ok oi C (cd_scr s3)
            have tB3 : trS 0 σ3 (364 + 5 * l) B := trS_ch (trS_ch tB2 (chg_sR σ2 ((364 + 5 * (l + 1)) + 1) h _) (fun a x y => by omega)) hc3 (fun a x y => by unfold atS stkP; omega)
            have eD : drw W B h = rA W (inc B h) := if_pos c_2
            have tD : trS 0 σ3 (364 + 5 * (l + 1)) (drw W B h) := by rw [eD]; exact ht3
            show sE g_tt _ _ _ 147 [some (.ref 0), some (.int (iZ pz)), some (.int (iZ (l : Int))), some (.int (iZ (n : Int))), some (.ref (364 + 5 * l)), some (.int (iZ (sCnt (fun c => gv (mDo W 1 c (r + 1) B).2) (h * 2 ^ (3 * r))))), some (.int (iZ (h : Int))), some (.ref (364 + 5 * (l + 1)))] [.int (iZ ((mS W (inc B h) zF).1.length : Int))] σ3
            refine q_pop dX6_countDraws_147 rfl ?_
            refine q_iload dX6_countDraws_148 rfl ?_
            refine q_aload_n dX6_countDraws_150 rfl rfl ?_
            refine q_iload_n dX6_countDraws_151 rfl rfl ?_
            refine q_iload_n dX6_countDraws_152 rfl rfl ?_
            refine z_iconst dX6_countDraws_153 ?_
            refine z_iadd dX6_countDraws_154 ?_
            refine q_iload_n dX6_countDraws_155 rfl rfl ?_
            refine s_callV (ci := 6) (a := 0) (As := [.int (iZ pz), .int (iZ ((l : Int) + 1)), .int (iZ (n : Int))]) (S := [.int (iZ (sCnt (fun c => gv (mDo W 1 c (r + 1) B).2) (h * 2 ^ (3 * r))))]) dX6_countDraws_156 okX6_countDraws mlX6_270 rfl (by omega) rfl (Nat.le_of_ble_eq_true rfl) (show kd 0 = 6 from rfl) (by decide) rfl (cd_l (d - 1) (drw W B h) σ3 (by omega) C3 (gd_mono (dr h (by omega)).1 (by decide)) (dr h (by omega)).2.1 (dr h (by omega)).2.2 tD) (fun v_ σ_ hq => ?_)
            obtain ⟨rfl, hc4⟩ := hq
            rename gS => σ4
            have s4 : chg (fun a => stkP a ∨ (364 + 5 * (l + 1) ≤ a ∧ a < 384)) σ σ4 := chg_tr s3 (chg_mono hc4 (fun a q => by unfold stkP at *; omega))
            have tB4 : trS 0 σ4 (364 + 5 * l) B := trS_ch tB3 hc4 (fun a x y => by unfold stkP; omega)
            show sE g_tt _ _ _ 159 [some (.ref 0), some (.int (iZ pz)), some (.int (iZ (l : Int))), some (.int (iZ (n : Int))), some (.ref (364 + 5 * l)), some (.int (iZ (sCnt (fun c => gv (mDo W 1 c (r + 1) B).2) (h * 2 ^ (3 * r))))), some (.int (iZ (h : Int))), some (.ref (364 + 5 * (l + 1)))] [.int (iZ (cDr W gv r (drw W B h))), .int (iZ (sCnt (fun c => gv (mDo W 1 c (r + 1) B).2) (h * 2 ^ (3 * r))))] σ4
            refine z_iadd dX6_countDraws_159 ?_
            refine q_istore dX6_countDraws_160 (by decide) ?_
            show sE g_tt _ _ _ 162 [some (.ref 0), some (.int (iZ pz)), some (.int (iZ (l : Int))), some (.int (iZ (n : Int))), some (.ref (364 + 5 * l)), some (.int (iZ ((sCnt (fun c => gv (mDo W 1 c (r + 1) B).2) (h * 2 ^ (3 * r))) + (cDr W gv r (drw W B h))))), some (.int (iZ (h : Int))), some (.ref (364 + 5 * (l + 1)))] [] σ4
            refine z_iinc dX6_countDraws_162 rfl (by decide) ?_
            show sE g_tt _ _ _ 165 [some (.ref 0), some (.int (iZ pz)), some (.int (iZ (l : Int))), some (.int (iZ (n : Int))), some (.ref (364 + 5 * l)), some (.int (iZ ((sCnt (fun c => gv (mDo W 1 c (r + 1) B).2) (h * 2 ^ (3 * r))) + (cDr W gv r (drw W B h))))), some (.int (iZ ((h : Int) + 1))), some (.ref (364 + 5 * (l + 1)))] [] σ4
            refine q_goto (tgt := 91) dX6_countDraws_165 (by decide) ?_
            have k9 := ih (h + 1) σ4 (some (.ref (364 + 5 * (l + 1)))) (by omega) tB4 s4 (by omega)
            rw [cDr_step W gv (by omega) B] at k9
            exact k9
      · have e8 : h = 8 := by omega
        refine q_iload dX6_countDraws_91 rfl ?_
        refine z_bipush dX6_countDraws_93 (by decide +kernel) ?_
        refine z_icmp_ge (tgt := 168) dX6_countDraws_95 (by decide) (by unfold inR at *; omega) (by unfold inR at *; omega) (fun c_1 => ?_) (fun c_1 => ?_)
        · refine q_iload dX6_countDraws_168 rfl ?_
          exact s_iretZ dX6_countDraws_170 rfl ⟨by rw [show h = 8 by omega]; unfold cDr; rw [show 3 * (r + 1) = 3 * r + 3 by omega, Nat.pow_add, show (2 : Nat) ^ 3 = 8 from rfl, Nat.mul_comm], s1⟩
        · exfalso
          omega
  show sE g_tt _ _ _ 0 [some (.ref 0), some (.int (iZ pz)), some (.int (iZ (l : Int))), some (.int (iZ (n : Int))), none, none, none, none] [] σ
  refine q_aload_n dX6_countDraws_0 rfl rfl ?_
  refine sg6 (kf := 6) (v := .ref 334) dX6_countDraws_1 flX6_48 (show kd 0 = 6 from rfl) (by decide) rfl ?_
  refine q_iload_n dX6_countDraws_4 rfl rfl ?_
  refine s_aaldS (n := 4) (x := (364 + 5 * l)) dX6_countDraws_5 (show kd 334 = 300000 + 4 from rfl) (by omega) (by omega) (by decide) (C.2.2.2.2 l (by omega)) ?_
  refine q_astore dX6_countDraws_6 (by decide) ?_
  show sE g_tt _ _ _ 8 [some (.ref 0), some (.int (iZ pz)), some (.int (iZ (l : Int))), some (.int (iZ (n : Int))), some (.ref (364 + 5 * l)), none, none, none] [] σ
  refine q_iload_n dX6_countDraws_8 rfl rfl ?_
  refine q_iload_n dX6_countDraws_9 rfl rfl ?_
  refine z_icmp_ge (tgt := 24) dX6_countDraws_10 (by decide) (by unfold inR at *; omega) (by unfold inR at *; omega) (fun c_1 => ?_) (fun c_1 => ?_)
  · exfalso
    omega
  · refine q_iload_n dX6_countDraws_13 rfl rfl ?_
    refine z_iconst dX6_countDraws_14 ?_
    refine z_iadd dX6_countDraws_15 ?_
    refine q_aload_n dX6_countDraws_16 rfl rfl ?_
    refine sg6 (kf := 6) (v := .ref 334) dX6_countDraws_17 flX6_48 (show kd 0 = 6 from rfl) (by decide) rfl ?_
    refine s_alen (n := 4) dX6_countDraws_20 (show kd 334 = 300000 + 4 from rfl) (Or.inr (Or.inr (Or.inr (Or.inl ⟨rfl, rfl⟩)))) (by decide) ?_
    refine z_icmp_lt (tgt := 85) dX6_countDraws_21 (by decide) (by unfold inR at *; omega) (by unfold inR at *; omega) (fun c_2 => ?_) (fun c_2 => ?_)
    · refine z_iconst dX6_countDraws_85 ?_
      refine q_istore dX6_countDraws_86 (by decide) ?_
      show sE g_tt _ _ _ 88 [some (.ref 0), some (.int (iZ pz)), some (.int (iZ (l : Int))), some (.int (iZ (n : Int))), some (.ref (364 + 5 * l)), some (.int (iZ 0)), none, none] [] σ
      refine z_iconst dX6_countDraws_88 ?_
      refine q_istore dX6_countDraws_89 (by decide) ?_
      show sE g_tt _ _ _ 91 [some (.ref 0), some (.int (iZ pz)), some (.int (iZ (l : Int))), some (.int (iZ (n : Int))), some (.ref (364 + 5 * l)), some (.int (iZ 0)), some (.int (iZ 0)), none] [] σ
      have k9 := lp 9 0 σ none (by omega) tB (chg_rf _ _) (by omega)
      rw [Nat.zero_mul] at k9
      exact k9
    · exfalso
      omega
theorem x_countD {n : Nat} {pz : Int} {gv : (Nat → Int) → Int} {W V : wF} {A I : Nat → Int} {c nt : Int} (hc : c ≤ 88000) (hn4 : nt ≤ 4) (ok : okR c nt A) (oi : okR c (I 1) I) (hn3 : n ≤ 3) (hpz : inR pz) (leaf : ∀ (d l : Nat) (σ : gS) (B : Nat → Int), l < 4 → l = n → 2 ≤ d → clR σ W V A I → gd 98000 4 B → B 0 = A 0 → trS 0 σ (364 + 5 * l) B → sC mX6_countDraws d [.ref 0, .int (iZ pz), .int (iZ (l : Int)), .int (iZ (n : Int))] σ (fun r σ' => r = some (.int (iZ (gv B))) ∧ σ' = σ)) : ∀ (r : Nat) {l : Nat}, l < 4 → l + r = n → ∀ (d : Nat), 7 + r ≤ d → ∀ (σ : gS) (C : clR σ W V A I) (B : Nat → Int) (gB : gd 98000 4 B) (hB2 : B 2 = A 2) (hB0 : B 0 = A 0) (tB : trS 0 σ (364 + 5 * l) B), sC mX6_countDraws d [.ref 0, .int (iZ pz), .int (iZ (l : Int)), .int (iZ (n : Int))] σ (fun v σ' => v = some (.int (iZ (cDr W gv r B))) ∧ chg (fun a => stkP a ∨ (364 + 5 * (l + 1) ≤ a ∧ a < 384)) σ σ') := by
  intro r
  induction r with
  | zero =>
    intro l hl hln d hd σ C B gB hB2 hB0 tB
    refine sC_imp ?_ (leaf d l σ B hl (by omega) (by omega) C gB hB0 tB)
    rintro v σ' ⟨e1, e2⟩
    rw [e2]
    refine ⟨?_, chg_rf _ _⟩
    rw [e1]
    unfold cDr
    rw [show 2 ^ (3 * 0) = 0 + 1 from rfl, sCnt, show sCnt (fun c => gv (mDo W 1 c 0 B).2) 0 = 0 from rfl, Int.zero_add]
    rfl
  | succ r ih => intro l hl hln d hd σ C B gB hB2 hB0 tB; exact x_cdS hc hn4 ok oi ih hn3 hl hln d hd hpz σ C B gB hB2 hB0 tB
set_option maxHeartbeats 4000000 in
set_option maxRecDepth 100000 in
theorem x_leafP {n p : Nat} (σ : gS) {W V : wF} {A I : Nat → Int} {c nt : Int} (hc : c ≤ 88000) (hn4 : nt ≤ 4) (ok : okR c nt A) (oi : okR c (I 1) I) (C : clR σ W V A I) (hp : (p : Int) < A 0) (d l : Nat) (B : Nat → Int) (hl : l < 4) (hln : l = n) (hd : 2 ≤ d) (gB : gd 98000 4 B) (hB0 : B 0 = A 0) (tB : trS 0 σ (364 + 5 * l) B) : sC mX6_countDraws d [.ref 0, .int (iZ (p : Int)), .int (iZ (l : Int)), .int (iZ (n : Int))] σ (fun r σ' => r = some (.int (iZ (if B (19 + p) = A (19 + p) then 0 else 1))) ∧ σ' = σ) := by
  have g := ok_gd hc hn4 ok
  have g0 := g.1
  have b1 := gB.2.1 p (by omega)
  have b2 := g.2.1 p (by omega)
  refine sC_of rfl (Nat.le_of_ble_eq_true rfl) ?_
  show sE g_tt _ _ _ 0 [some (.ref 0), some (.int (iZ (p : Int))), some (.int (iZ (l : Int))), some (.int (iZ (n : Int))), none, none, none, none] [] σ
  refine q_aload_n dX6_countDraws_0 rfl rfl ?_
  refine sg6 (kf := 6) (v := .ref 334) dX6_countDraws_1 flX6_48 (show kd 0 = 6 from rfl) (by decide) rfl ?_
  refine q_iload_n dX6_countDraws_4 rfl rfl ?_
  refine s_aaldS (n := 4) (x := (364 + 5 * l)) dX6_countDraws_5 (show kd 334 = 300000 + 4 from rfl) (by omega) (by omega) (by decide) (C.2.2.2.2 l (by omega)) ?_
  refine q_astore dX6_countDraws_6 (by decide) ?_
  show sE g_tt _ _ _ 8 [some (.ref 0), some (.int (iZ (p : Int))), some (.int (iZ (l : Int))), some (.int (iZ (n : Int))), some (.ref (364 + 5 * l)), none, none, none] [] σ
  refine q_iload_n dX6_countDraws_8 rfl rfl ?_
  refine q_iload_n dX6_countDraws_9 rfl rfl ?_
  refine z_icmp_ge (tgt := 24) dX6_countDraws_10 (by decide) (by unfold inR at *; omega) (by unfold inR at *; omega) (fun c_1 => ?_) (fun c_1 => ?_)
  · refine q_iload_n dX6_countDraws_24 rfl rfl ?_
    refine z_iconst dX6_countDraws_25 ?_
    refine z_icmp_ne (tgt := 45) dX6_countDraws_26 (by decide) (by unfold inR at *; omega) (by unfold inR at *; omega) (fun c_2 => ?_) (fun c_2 => ?_)
    · refine q_aload dX6_countDraws_45 rfl ?_
      refine sg2 (kf := 1) (v := .ref ((364 + 5 * l) + 2)) dX6_countDraws_47 flX6_190 (kd_lv (l := l) (by omega)) (by decide) rfl ?_
      refine q_iload_n dX6_countDraws_50 rfl rfl ?_
      refine s_iald (n := 5) (x := B (19 + p)) dX6_countDraws_51 (kd_sH (l := l) (by omega)) (by omega) (by omega) (by decide) (tB.2.1 p (by rw [hB0]; assumption)) ?_
      refine q_aload_n dX6_countDraws_52 rfl rfl ?_
      refine sg6 (kf := 0) (v := .ref 1) dX6_countDraws_53 flX6_10 (show kd 0 = 6 from rfl) (by decide) rfl ?_
      refine sg5 (kf := 0) (v := .ref 2) dX6_countDraws_56 flX6_72 (show kd 1 = 5 from rfl) (by decide) rfl ?_
      refine sg2 (kf := 1) (v := .ref 4) dX6_countDraws_59 flX6_190 (show kd 2 = 2 from rfl) (by decide) rfl ?_
      refine q_iload_n dX6_countDraws_62 rfl rfl ?_
      refine s_iald (n := 5) (x := A (19 + p)) dX6_countDraws_63 (show kd 4 = 100 + 5 from rfl) (by omega) (by omega) (by decide) (C.1.1.2.1 p (by omega)) ?_
      refine z_icmp_eq (tgt := 71) dX6_countDraws_64 (by decide) (by unfold inR at *; omega) (by unfold inR at *; omega) (fun c_3 => ?_) (fun c_3 => ?_)
      · refine z_iconst dX6_countDraws_71 ?_
        refine q_istore dX6_countDraws_72 (by decide) ?_
        show sE g_tt _ _ _ 74 [some (.ref 0), some (.int (iZ (p : Int))), some (.int (iZ (l : Int))), some (.int (iZ (n : Int))), some (.ref (364 + 5 * l)), some (.int (iZ 0)), none, none] [] σ
        refine q_iload dX6_countDraws_74 rfl ?_
        refine z_if_eq (tgt := 83) dX6_countDraws_76 (by decide) (by unfold inR at *; omega) (fun c_4 => ?_) (fun c_4 => ?_)
        · refine z_iconst dX6_countDraws_83 ?_
          exact s_iretZ dX6_countDraws_84 rfl ⟨by rw [if_pos (by omega)], rfl⟩
        · exfalso
          revert c_4
          decide
      · refine z_iconst dX6_countDraws_67 ?_
        refine q_goto (tgt := 72) dX6_countDraws_68 (by decide) ?_
        refine q_istore dX6_countDraws_72 (by decide) ?_
        show sE g_tt _ _ _ 74 [some (.ref 0), some (.int (iZ (p : Int))), some (.int (iZ (l : Int))), some (.int (iZ (n : Int))), some (.ref (364 + 5 * l)), some (.int (iZ 1)), none, none] [] σ
        refine q_iload dX6_countDraws_74 rfl ?_
        refine z_if_eq (tgt := 83) dX6_countDraws_76 (by decide) (by unfold inR at *; omega) (fun c_5 => ?_) (fun c_5 => ?_)
        · exfalso
          revert c_5
          decide
        · refine z_iconst dX6_countDraws_79 ?_
          refine q_goto (tgt := 84) dX6_countDraws_80 (by decide) ?_
          exact s_iretZ dX6_countDraws_84 rfl ⟨by rw [if_neg (by omega)], rfl⟩
    · exfalso
      omega
  · exfalso
    omega
theorem cCn_all (B : Nat → Int) (z : Int) : ∀ n : Nat, (0 ≤ cCn B z n ∧ cCn B z n ≤ (n : Int)) ∧ (cCn B z n = (n : Int) ↔ ∀ j, j < n → B (19 + j) = z) := by
  intro n
  induction n with
  | zero => exact ⟨⟨by show (0 : Int) ≤ 0; omega, by show (0 : Int) ≤ 0; omega⟩, ⟨fun _ j hj => absurd hj (by omega), fun _ => rfl⟩⟩
  | succ n ih =>
    rw [cCn]
    by_cases k : B (19 + n) = z
    · rw [if_pos k]
      refine ⟨by omega, ⟨fun e j hj => ?_, fun e => ?_⟩⟩
      · by_cases q : j = n
        · rw [q]; exact k
        · exact ih.2.1 (by omega) j (by omega)
      · have := ih.2.2 (fun j hj => e j (by omega)); omega
    · rw [if_neg k]
      refine ⟨by omega, ⟨fun e => by omega, fun e => absurd (e n (by omega)) k⟩⟩
noncomputable def goneB (A B : Nat → Int) : Int := @ite Int (∀ j : Nat, (j : Int) < A 0 → B (19 + j) = -1) (Classical.propDecidable _) 1 0
theorem goneB_y {A B : Nat → Int} (h0 : 0 ≤ A 0) (e : B 0 = A 0) (h : B 0 - cCn B (-1) (B 0).toNat = 0) : goneB A B = 1 := by
  unfold goneB
  rw [if_pos]
  intro j hj
  exact (cCn_all B (-1) (B 0).toNat).2.1 (by omega) j (by omega)
theorem goneB_n {A B : Nat → Int} (h0 : 0 ≤ A 0) (e : B 0 = A 0) (h : ¬ B 0 - cCn B (-1) (B 0).toNat = 0) : goneB A B = 0 := by
  unfold goneB
  rw [if_neg]
  intro k
  have := (cCn_all B (-1) (B 0).toNat).2.2 (fun j hj => k j (by omega))
  omega
set_option maxHeartbeats 4000000 in
set_option maxRecDepth 100000 in
theorem x_leafN {n : Nat} (σ : gS) {W V : wF} {A I : Nat → Int} {c nt : Int} (hc : c ≤ 88000) (hn4 : nt ≤ 4) (ok : okR c nt A) (oi : okR c (I 1) I) (C : clR σ W V A I) (d l : Nat) (B : Nat → Int) (hl : l < 4) (hln : l = n) (hd : 2 ≤ d) (gB : gd 98000 4 B) (hB0 : B 0 = A 0) (tB : trS 0 σ (364 + 5 * l) B) : sC mX6_countDraws d [.ref 0, .int (iZ (-1)), .int (iZ (l : Int)), .int (iZ (n : Int))] σ (fun r σ' => r = some (.int (iZ (goneB A B))) ∧ σ' = σ) := by
  have g := ok_gd hc hn4 ok
  have g0 := g.1
  have cr := (cCn_all B (-1) (B 0).toNat).1
  refine sC_of rfl (Nat.le_of_ble_eq_true rfl) ?_
  show sE g_tt _ _ _ 0 [some (.ref 0), some (.int (iZ (-1))), some (.int (iZ (l : Int))), some (.int (iZ (n : Int))), none, none, none, none] [] σ
  refine q_aload_n dX6_countDraws_0 rfl rfl ?_
  refine sg6 (kf := 6) (v := .ref 334) dX6_countDraws_1 flX6_48 (show kd 0 = 6 from rfl) (by decide) rfl ?_
  refine q_iload_n dX6_countDraws_4 rfl rfl ?_
  refine s_aaldS (n := 4) (x := (364 + 5 * l)) dX6_countDraws_5 (show kd 334 = 300000 + 4 from rfl) (by omega) (by omega) (by decide) (C.2.2.2.2 l (by omega)) ?_
  refine q_astore dX6_countDraws_6 (by decide) ?_
  show sE g_tt _ _ _ 8 [some (.ref 0), some (.int (iZ (-1))), some (.int (iZ (l : Int))), some (.int (iZ (n : Int))), some (.ref (364 + 5 * l)), none, none, none] [] σ
  refine q_iload_n dX6_countDraws_8 rfl rfl ?_
  refine q_iload_n dX6_countDraws_9 rfl rfl ?_
  refine z_icmp_ge (tgt := 24) dX6_countDraws_10 (by decide) (by unfold inR at *; omega) (by unfold inR at *; omega) (fun c_1 => ?_) (fun c_1 => ?_)
  · refine q_iload_n dX6_countDraws_24 rfl rfl ?_
    refine z_iconst dX6_countDraws_25 ?_
    refine z_icmp_ne (tgt := 45) dX6_countDraws_26 (by decide) (by unfold inR at *; omega) (by unfold inR at *; omega) (fun c_2 => ?_) (fun c_2 => ?_)
    · exfalso
      revert c_2
      decide
    · refine q_aload dX6_countDraws_29 rfl ?_
      refine s_callV (ci := 2) (a := (364 + 5 * l)) (As := []) (S := []) dX6_countDraws_31 okX2_inStreet mlX6_147 rfl (by omega) rfl (Nat.le_of_ble_eq_true rfl) (kd_lv (l := l) (by omega)) (by decide) rfl (t_inStreet (d := d - 1) (s := (364 + 5 * l)) (by omega) (kd_lv (l := l) (by omega)) σ gB tB) (fun v_ σ_ hq => ?_)
      obtain ⟨rfl, e9⟩ := hq
      have e9 := e9.symm
      subst e9
      show sE g_tt _ _ _ 34 [some (.ref 0), some (.int (iZ (-1))), some (.int (iZ (l : Int))), some (.int (iZ (n : Int))), some (.ref (364 + 5 * l)), none, none, none] [.int (iZ (B 0 - cCn B (-1) (B 0).toNat))] σ
      refine z_if_ne (tgt := 41) dX6_countDraws_34 (by decide) (by unfold inR at *; omega) (fun c_3 => ?_) (fun c_3 => ?_)
      · refine z_iconst dX6_countDraws_41 ?_
        refine q_goto (tgt := 72) dX6_countDraws_42 (by decide) ?_
        refine q_istore dX6_countDraws_72 (by decide) ?_
        show sE g_tt _ _ _ 74 [some (.ref 0), some (.int (iZ (-1))), some (.int (iZ (l : Int))), some (.int (iZ (n : Int))), some (.ref (364 + 5 * l)), some (.int (iZ 0)), none, none] [] σ
        refine q_iload dX6_countDraws_74 rfl ?_
        refine z_if_eq (tgt := 83) dX6_countDraws_76 (by decide) (by unfold inR at *; omega) (fun c_4 => ?_) (fun c_4 => ?_)
        · refine z_iconst dX6_countDraws_83 ?_
          exact s_iretZ dX6_countDraws_84 rfl ⟨by rw [goneB_n g0.1 hB0 (by omega)], rfl⟩
        · exfalso
          revert c_4
          decide
      · refine z_iconst dX6_countDraws_37 ?_
        refine q_goto (tgt := 72) dX6_countDraws_38 (by decide) ?_
        refine q_istore dX6_countDraws_72 (by decide) ?_
        show sE g_tt _ _ _ 74 [some (.ref 0), some (.int (iZ (-1))), some (.int (iZ (l : Int))), some (.int (iZ (n : Int))), some (.ref (364 + 5 * l)), some (.int (iZ 1)), none, none] [] σ
        refine q_iload dX6_countDraws_74 rfl ?_
        refine z_if_eq (tgt := 83) dX6_countDraws_76 (by decide) (by unfold inR at *; omega) (fun c_5 => ?_) (fun c_5 => ?_)
        · exfalso
          revert c_5
          decide
        · refine z_iconst dX6_countDraws_79 ?_
          refine q_goto (tgt := 84) dX6_countDraws_80 (by decide) ?_
          exact s_iretZ dX6_countDraws_84 rfl ⟨by rw [goneB_y g0.1 hB0 (by omega)], rfl⟩
  · exfalso
    omega
def hlf : Nat → Nat → Nat → Nat × Nat
  | 0, a, b => (a, b)
  | f + 1, a, b => if 1 < b ∧ a % 2 = 0 then hlf f (a / 2) (b / 2) else (a, b)
theorem hlf_8 : ∀ a, a < 513 → hlf 10 a 8 = (a / Nat.gcd a 8, 8 / Nat.gcd a 8) := by decide +kernel
theorem hlf_64 : ∀ a, a < 513 → hlf 10 a 64 = (a / Nat.gcd a 64, 64 / Nat.gcd a 64) := by decide +kernel
theorem hlf_512 : ∀ a, a < 513 → hlf 10 a 512 = (a / Nat.gcd a 512, 512 / Nat.gcd a 512) := by decide +kernel
theorem hlf_n {a n : Nat} (ha : a ≤ 512) (h1 : 1 ≤ n) (h3 : n ≤ 3) : hlf 10 a (2 ^ (3 * n)) = (a / Nat.gcd a (2 ^ (3 * n)), 2 ^ (3 * n) / Nat.gcd a (2 ^ (3 * n))) := by
  have : n = 1 ∨ n = 2 ∨ n = 3 := by omega
  rcases this with rfl | rfl | rfl
  · exact hlf_8 a (by omega)
  · exact hlf_64 a (by omega)
  · exact hlf_512 a (by omega)
theorem hlf_end {f a b : Nat} (h : ¬ (1 < b ∧ a % 2 = 0)) : hlf f a b = (a, b) := by
  cases f with
  | zero => rfl
  | succ f => rw [hlf, if_neg h]
set_option maxHeartbeats 4000000 in
set_option maxRecDepth 100000 in
theorem lx_inLow {d a n : Nat} {u : Int} (hu : u = 0 ∨ u = 1) (σ : gS) {R : Nat × Nat} : ∀ (f x y : Nat), x ≤ 512 → y ≤ 512 → hlf f x y = R → y < 2 ^ f → sE g_tt mX6_inLowestTerms d (fun r σ' => r = some (.int (iZ (if u = 0 then (R.1 : Int) else (R.2 : Int)))) ∧ σ' = σ) 9 [some (.int (iZ (a : Int))), some (.int (iZ (n : Int))), some (.int (iZ u)), some (.int (iZ (x : Int))), some (.int (iZ (y : Int)))] [] σ := by
  intro f
  induction f with
  | zero =>
    intro x y hx hy hR hy2
    rw [Nat.pow_zero] at hy2
    refine q_iload dX6_inLowestTerms_9 rfl ?_
    refine z_iconst dX6_inLowestTerms_11 ?_
    refine z_icmp_le (tgt := 34) dX6_inLowestTerms_12 (by decide) (by unfold inR at *; omega) (by unfold inR at *; omega) (fun c_1 => ?_) (fun c_1 => ?_)
    · refine q_iload_n dX6_inLowestTerms_34 rfl rfl ?_
      refine z_if_eq (tgt := 43) dX6_inLowestTerms_35 (by decide) (by unfold inR at *; omega) (fun c_2 => ?_) (fun c_2 => ?_)
      · refine q_iload_n dX6_inLowestTerms_43 rfl rfl ?_
        exact s_iretZ dX6_inLowestTerms_44 rfl ⟨by rw [← hR, show hlf 0 x y = (x, y) from hlf_end (by omega)]; first | rw [if_pos (by omega)] | rw [if_neg (by omega)], rfl⟩
      · refine q_iload dX6_inLowestTerms_38 rfl ?_
        refine q_goto (tgt := 44) dX6_inLowestTerms_40 (by decide) ?_
        exact s_iretZ dX6_inLowestTerms_44 rfl ⟨by rw [← hR, show hlf 0 x y = (x, y) from hlf_end (by omega)]; first | rw [if_pos (by omega)] | rw [if_neg (by omega)], rfl⟩
    · exfalso
      omega
  | succ f ih =>
    intro x y hx hy hR hy2
    refine q_iload dX6_inLowestTerms_9 rfl ?_
    refine z_iconst dX6_inLowestTerms_11 ?_
    refine z_icmp_le (tgt := 34) dX6_inLowestTerms_12 (by decide) (by unfold inR at *; omega) (by unfold inR at *; omega) (fun c_1 => ?_) (fun c_1 => ?_)
    · refine q_iload_n dX6_inLowestTerms_34 rfl rfl ?_
      refine z_if_eq (tgt := 43) dX6_inLowestTerms_35 (by decide) (by unfold inR at *; omega) (fun c_2 => ?_) (fun c_2 => ?_)
      · refine q_iload_n dX6_inLowestTerms_43 rfl rfl ?_
        exact s_iretZ dX6_inLowestTerms_44 rfl ⟨by rw [← hR, show hlf (f + 1) x y = (x, y) from hlf_end (by omega)]; first | rw [if_pos (by omega)] | rw [if_neg (by omega)], rfl⟩
      · refine q_iload dX6_inLowestTerms_38 rfl ?_
        refine q_goto (tgt := 44) dX6_inLowestTerms_40 (by decide) ?_
        exact s_iretZ dX6_inLowestTerms_44 rfl ⟨by rw [← hR, show hlf (f + 1) x y = (x, y) from hlf_end (by omega)]; first | rw [if_pos (by omega)] | rw [if_neg (by omega)], rfl⟩
    · refine q_iload_n dX6_inLowestTerms_15 rfl rfl ?_
      refine z_iconst dX6_inLowestTerms_16 ?_
      refine z_irem dX6_inLowestTerms_17 (by unfold inR at *; omega) (by unfold inR at *; omega) (by decide) ?_
      refine z_top (y := ((x % 2 : Nat) : Int)) rfl ?_
      refine z_if_ne (tgt := 34) dX6_inLowestTerms_18 (by decide) (by unfold inR at *; omega) (fun c_3 => ?_) (fun c_3 => ?_)
      · refine q_iload_n dX6_inLowestTerms_34 rfl rfl ?_
        refine z_if_eq (tgt := 43) dX6_inLowestTerms_35 (by decide) (by unfold inR at *; omega) (fun c_4 => ?_) (fun c_4 => ?_)
        · refine q_iload_n dX6_inLowestTerms_43 rfl rfl ?_
          exact s_iretZ dX6_inLowestTerms_44 rfl ⟨by rw [← hR, show hlf (f + 1) x y = (x, y) from hlf_end (by omega)]; first | rw [if_pos (by omega)] | rw [if_neg (by omega)], rfl⟩
        · refine q_iload dX6_inLowestTerms_38 rfl ?_
          refine q_goto (tgt := 44) dX6_inLowestTerms_40 (by decide) ?_
          exact s_iretZ dX6_inLowestTerms_44 rfl ⟨by rw [← hR, show hlf (f + 1) x y = (x, y) from hlf_end (by omega)]; first | rw [if_pos (by omega)] | rw [if_neg (by omega)], rfl⟩
      · refine q_iload_n dX6_inLowestTerms_21 rfl rfl ?_
        refine z_iconst dX6_inLowestTerms_22 ?_
        refine z_idiv dX6_inLowestTerms_23 (by unfold inR at *; omega) (by unfold inR at *; omega) (by decide) ?_
        refine z_top (y := ((x / 2 : Nat) : Int)) rfl ?_
        refine q_istore_n dX6_inLowestTerms_24 rfl (by decide) ?_
        show sE g_tt _ _ _ 25 [some (.int (iZ (a : Int))), some (.int (iZ (n : Int))), some (.int (iZ u)), some (.int (iZ ((x / 2 : Nat) : Int))), some (.int (iZ (y : Int)))] [] σ
        refine q_iload dX6_inLowestTerms_25 rfl ?_
        refine z_iconst dX6_inLowestTerms_27 ?_
        refine z_idiv dX6_inLowestTerms_28 (by unfold inR at *; omega) (by unfold inR at *; omega) (by decide) ?_
        refine z_top (y := ((y / 2 : Nat) : Int)) rfl ?_
        refine q_istore dX6_inLowestTerms_29 (by decide) ?_
        show sE g_tt _ _ _ 31 [some (.int (iZ (a : Int))), some (.int (iZ (n : Int))), some (.int (iZ u)), some (.int (iZ ((x / 2 : Nat) : Int))), some (.int (iZ ((y / 2 : Nat) : Int)))] [] σ
        refine q_goto (tgt := 9) dX6_inLowestTerms_31 (by decide) ?_
        exact ih (x / 2) (y / 2) (by omega) (by omega) (by rw [← hR, hlf, if_pos ⟨by omega, by omega⟩]) (by rw [Nat.pow_succ] at hy2; omega)
set_option maxHeartbeats 4000000 in
set_option maxRecDepth 100000 in
theorem x_inLow {d a n : Nat} (ha : a ≤ 512) (h1 : 1 ≤ n) (h3 : n ≤ 3) {u : Int} (hu : u = 0 ∨ u = 1) (σ : gS) : sC mX6_inLowestTerms d [.int (iZ (a : Int)), .int (iZ (n : Int)), .int (iZ u)] σ (fun r σ' => r = some (.int (iZ (mPt u a (2 ^ (3 * n))))) ∧ σ' = σ) := by
  have pw : 2 ^ (3 * n) ≤ 512 ∧ 0 < 2 ^ (3 * n) := ⟨Nat.pow_le_pow_right (by decide) (show 3 * n ≤ 9 by omega), Nat.pow_pos (by decide)⟩
  refine sC_of rfl (Nat.le_of_ble_eq_true rfl) ?_
  show sE g_tt _ _ _ 0 [some (.int (iZ (a : Int))), some (.int (iZ (n : Int))), some (.int (iZ u)), none, none] [] σ
  refine q_iload_n dX6_inLowestTerms_0 rfl rfl ?_
  refine q_istore_n dX6_inLowestTerms_1 rfl (by decide) ?_
  show sE g_tt _ _ _ 2 [some (.int (iZ (a : Int))), some (.int (iZ (n : Int))), some (.int (iZ u)), some (.int (iZ (a : Int))), none] [] σ
  refine z_iconst dX6_inLowestTerms_2 ?_
  refine z_iconst dX6_inLowestTerms_3 ?_
  refine q_iload_n dX6_inLowestTerms_4 rfl rfl ?_
  refine z_imul dX6_inLowestTerms_5 ?_
  refine z_top (y := ((3 * n : Nat) : Int)) (by omega) ?_
  refine z_ishl (x := 1) (k := 3 * n) dX6_inLowestTerms_6 (by omega) ?_
  refine z_top (y := ((2 ^ (3 * n) : Nat) : Int)) (by simp) ?_
  refine q_istore dX6_inLowestTerms_7 (by decide) ?_
  show sE g_tt _ _ _ 9 [some (.int (iZ (a : Int))), some (.int (iZ (n : Int))), some (.int (iZ u)), some (.int (iZ (a : Int))), some (.int (iZ ((2 ^ (3 * n) : Nat) : Int)))] [] σ
  have k9 := lx_inLow (d := d) (a := a) (n := n) hu σ (R := (a / Nat.gcd a (2 ^ (3 * n)), 2 ^ (3 * n) / Nat.gcd a (2 ^ (3 * n)))) 10 a (2 ^ (3 * n)) ha pw.1 (hlf_n ha h1 h3) (by have := pw.1; omega)
  exact k9
theorem x_cnt_likely {d p n : Nat} (hd : 10 ≤ d) (hn3 : n ≤ 3) (σ : gS) {W V : wF} {A I : Nat → Int} {c nt : Int} (hc : c ≤ 88000) (hn4 : nt ≤ 4) (ok : okR c nt A) (oi : okR c (I 1) I) (C : clR σ W V A I) (hp : (p : Int) < A 0) (t1 : trS 0 σ 364 A) : sC mX6_countDraws d [.ref 0, .int (iZ (p : Int)), .int (iZ 0), .int (iZ (n : Int))] σ (fun v σ' => v = some (.int (iZ (((sCnt (soB W A p n) (2 ^ (3 * n))).toNat : Nat) : Int))) ∧ chg scrQ σ σ') := by
  have g := ok_gd hc hn4 ok
  have g0 := g.1
  have cr := sCnt_ran (e := (soB W A p n)) (fun k => soB_01 W A p n k) (2 ^ (3 * n))
  have k := x_countD (n := n) (pz := (p : Int)) (gv := (fun B => if B (19 + p) = A (19 + p) then 0 else 1)) hc hn4 ok oi hn3 (by unfold inR; omega) (fun d l σ B h1 h2 h3 C gB e0 tB => x_leafP σ hc hn4 ok oi C hp d l B h1 h2 h3 gB e0 tB) n (l := 0) (by omega) (by omega) d (by omega) σ C A (gd_mono g (by decide)) rfl rfl t1
  refine sC_imp ?_ k
  rintro v σ' ⟨e1, e2⟩
  refine ⟨?_, cd_scr e2⟩
  rw [e1, show (((sCnt (soB W A p n) (2 ^ (3 * n))).toNat : Nat) : Int) = (sCnt (soB W A p n) (2 ^ (3 * n))) by omega]
  rfl
set_option maxHeartbeats 4000000 in
set_option maxRecDepth 100000 in
theorem x_likely {d p n : Nat} (hd : 12 ≤ d) (hn1 : 1 ≤ n) (hn3 : n ≤ 3) {u : Int} (hu : u = 0 ∨ u = 1) (σ : gS) {W V : wF} {A I : Nat → Int} {c nt : Int} (hc : c ≤ 88000) (hn4 : nt ≤ 4) (ok : okR c nt A) (oi : okR c (I 1) I) (C : clR σ W V A I) (hp : (p : Int) < A 0) : sC mX6_likely d [.ref 0, .int (iZ (p : Int)), .int (iZ (n : Int)), .int (iZ u)] σ (fun r σ' => r = some (.int (iZ (mPt u (sCnt (soB W A p n) (2 ^ (3 * n))).toNat (2 ^ (3 * n))))) ∧ chg scrQ σ σ') := by
  have g := ok_gd hc hn4 ok
  have g0 := g.1
  have n1 := ok.2.2.1
  have a2 := ok_2 ok
  have g10 := g.2.2.2.2.1
  have gL : gd 100000 4 A := gd_mono g (by decide)
  have rk := rA_ok (w0_of C) gL a2.1 a2.2
  have pw : 2 ^ (3 * n) ≤ 512 := Nat.pow_le_pow_right (by decide) (show 3 * n ≤ 9 by omega)
  have cr := sCnt_ran (e := (soB W A p n)) (fun k => soB_01 W A p n k) (2 ^ (3 * n))
  refine sC_of rfl (Nat.le_of_ble_eq_true rfl) ?_
  show sE g_tt _ _ _ 0 [some (.ref 0), some (.int (iZ (p : Int))), some (.int (iZ (n : Int))), some (.int (iZ u))] [] σ
  refine q_aload_n dX6_likely_0 rfl rfl ?_
  refine q_iload_n dX6_likely_1 rfl rfl ?_
  refine s_callV (ci := 6) (a := 0) (As := [.int (iZ (p : Int))]) (S := []) dX6_likely_2 okX6_isPerson mlX6_187 rfl (by omega) rfl (Nat.le_of_ble_eq_true rfl) (show kd 0 = 6 from rfl) (by decide) rfl (x_isPerson (d := d - 1) (p := (p : Int)) (by unfold inR at *; omega) σ hc hn4 ok oi C) (fun v_ σ_ hq => ?_)
  obtain ⟨rfl, e9⟩ := hq
  have e9 := e9.symm
  subst e9
  show sE g_tt _ _ _ 5 [some (.ref 0), some (.int (iZ (p : Int))), some (.int (iZ (n : Int))), some (.int (iZ u))] [.int (iZ (if 0 ≤ (p : Int) ∧ (p : Int) < A 0 then 1 else 0))] σ
  refine z_if_eq (tgt := 18) dX6_likely_5 (by decide) inR_01 (fun c_1 => ?_) (fun c_1 => ?_)
  · have c_1 := if01_0 c_1
    exfalso
    omega
  · have c_1 := if01_1 c_1
    refine q_iload_n dX6_likely_8 rfl rfl ?_
    refine z_iconst dX6_likely_9 ?_
    refine z_icmp_lt (tgt := 18) dX6_likely_10 (by decide) (by unfold inR at *; omega) (by unfold inR at *; omega) (fun c_2 => ?_) (fun c_2 => ?_)
    · exfalso
      omega
    · refine q_iload_n dX6_likely_13 rfl rfl ?_
      refine z_iconst dX6_likely_14 ?_
      refine z_icmp_le (tgt := 20) dX6_likely_15 (by decide) (by unfold inR at *; omega) (by unfold inR at *; omega) (fun c_3 => ?_) (fun c_3 => ?_)
      · refine q_aload_n dX6_likely_20 rfl rfl ?_
        refine sg6 (kf := 6) (v := .ref 334) dX6_likely_21 flX6_48 (show kd 0 = 6 from rfl) (by decide) rfl ?_
        refine z_iconst dX6_likely_24 ?_
        refine s_aaldS (n := 4) (x := 364) dX6_likely_25 (show kd 334 = 300000 + 4 from rfl) (by omega) (by omega) (by decide) (C.2.2.2.2 0 (by omega)) ?_
        refine q_aload_n dX6_likely_26 rfl rfl ?_
        refine sg6 (kf := 0) (v := .ref 1) dX6_likely_27 flX6_10 (show kd 0 = 6 from rfl) (by decide) rfl ?_
        refine sg5 (kf := 0) (v := .ref 2) dX6_likely_30 flX6_72 (show kd 1 = 5 from rfl) (by decide) rfl ?_
        refine s_callV (ci := 2) (a := 364) (As := [.ref 2]) (S := []) dX6_likely_33 okX2_take mlX6_218 rfl (by omega) rfl (Nat.le_of_ble_eq_true rfl) (show kd 364 = 2 from rfl) (by decide) rfl (t_take (d := d - 1) (s := 364) (o := 2) (by omega) rfl σ rfl (by decide)) (fun v_ σ_ hq => ?_)
        obtain ⟨rfl, hc1, ht1⟩ := hq
        rename gS => σ1
        have s1 : chg scrQ σ σ1 := chg_mono hc1 (fun a q => scr5 (by omega) q)
        have C1 := clR_ch ok oi C s1
        have t1 : trS 0 σ1 364 A := trS_off (ht1 1 A g0.2 (fun _ => ok.1.2.2.2.2.1.2) C.1.1)
        show sE g_tt _ _ _ 36 [some (.ref 0), some (.int (iZ (p : Int))), some (.int (iZ (n : Int))), some (.int (iZ u))] [] σ1
        refine q_aload_n dX6_likely_36 rfl rfl ?_
        refine q_iload_n dX6_likely_37 rfl rfl ?_
        refine z_iconst dX6_likely_38 ?_
        refine q_iload_n dX6_likely_39 rfl rfl ?_
        refine s_callV (ci := 6) (a := 0) (As := [.int (iZ (p : Int)), .int (iZ 0), .int (iZ (n : Int))]) (S := []) dX6_likely_40 okX6_countDraws mlX6_270 rfl (by omega) rfl (Nat.le_of_ble_eq_true rfl) (show kd 0 = 6 from rfl) (by decide) rfl (x_cnt_likely (d := d - 1) (n := n) (by omega) (by omega) σ1 hc hn4 ok oi C1 hp t1) (fun v_ σ_ hq => ?_)
        obtain ⟨rfl, hc2⟩ := hq
        rename gS => σ2
        have s2 : chg scrQ σ σ2 := chg_tr s1 hc2
        show sE g_tt _ _ _ 43 [some (.ref 0), some (.int (iZ (p : Int))), some (.int (iZ (n : Int))), some (.int (iZ u))] [.int (iZ (((sCnt (soB W A p n) (2 ^ (3 * n))).toNat : Nat) : Int))] σ2
        refine q_iload_n dX6_likely_43 rfl rfl ?_
        refine q_iload_n dX6_likely_44 rfl rfl ?_
        refine s_callS (As := [.int (iZ (((sCnt (soB W A p n) (2 ^ (3 * n))).toNat : Nat) : Int)), .int (iZ (n : Int)), .int (iZ u)]) (S := []) dX6_likely_45 okX6_inLowestTerms mlX6_274 rfl (by omega) rfl (Nat.le_of_ble_eq_true rfl) (x_inLow (d := d - 1) (a := (sCnt (soB W A p n) (2 ^ (3 * n))).toNat) (n := n) (by omega) (by omega) (by omega) hu σ2) (fun v_ σ_ hq => ?_)
        obtain ⟨rfl, e9⟩ := hq
        have e9 := e9.symm
        subst e9
        show sE g_tt _ _ _ 48 [some (.ref 0), some (.int (iZ (p : Int))), some (.int (iZ (n : Int))), some (.int (iZ u))] [.int (iZ (mPt u (sCnt (soB W A p n) (2 ^ (3 * n))).toNat (2 ^ (3 * n))))] σ2
        exact s_iretZ dX6_likely_48 rfl ⟨rfl, s2⟩
      · exfalso
        omega
set_option maxHeartbeats 4000000 in
set_option maxRecDepth 100000 in
theorem x_likely0 {d : Nat} (hd : 1 ≤ d) {p m u : Int} (hp : inR p) (hm : inR m) (σ : gS) {W V : wF} {A I : Nat → Int} {c nt : Int} (hc : c ≤ 88000) (hn4 : nt ≤ 4) (ok : okR c nt A) (oi : okR c (I 1) I) (C : clR σ W V A I) (hno : ¬ ((0 ≤ p ∧ p < A 0) ∧ 1 ≤ m ∧ m ≤ 3)) : sC mX6_likely d [.ref 0, .int (iZ p), .int (iZ m), .int (iZ u)] σ (fun r σ' => r = some (.int (iZ (-1))) ∧ σ' = σ) := by
  have g := ok_gd hc hn4 ok
  have g0 := g.1
  refine sC_of rfl (Nat.le_of_ble_eq_true rfl) ?_
  show sE g_tt _ _ _ 0 [some (.ref 0), some (.int (iZ p)), some (.int (iZ m)), some (.int (iZ u))] [] σ
  refine q_aload_n dX6_likely_0 rfl rfl ?_
  refine q_iload_n dX6_likely_1 rfl rfl ?_
  refine s_callV (ci := 6) (a := 0) (As := [.int (iZ p)]) (S := []) dX6_likely_2 okX6_isPerson mlX6_187 rfl (by omega) rfl (Nat.le_of_ble_eq_true rfl) (show kd 0 = 6 from rfl) (by decide) rfl (x_isPerson (d := d - 1) (p := p) (by unfold inR at *; omega) σ hc hn4 ok oi C) (fun v_ σ_ hq => ?_)
  obtain ⟨rfl, e9⟩ := hq
  have e9 := e9.symm
  subst e9
  show sE g_tt _ _ _ 5 [some (.ref 0), some (.int (iZ p)), some (.int (iZ m)), some (.int (iZ u))] [.int (iZ (if 0 ≤ p ∧ p < A 0 then 1 else 0))] σ
  refine z_if_eq (tgt := 18) dX6_likely_5 (by decide) inR_01 (fun c_1 => ?_) (fun c_1 => ?_)
  · have c_1 := if01_0 c_1
    refine z_iconst dX6_likely_18 ?_
    exact s_iretZ dX6_likely_19 rfl ⟨rfl, rfl⟩
  · have c_1 := if01_1 c_1
    refine q_iload_n dX6_likely_8 rfl rfl ?_
    refine z_iconst dX6_likely_9 ?_
    refine z_icmp_lt (tgt := 18) dX6_likely_10 (by decide) (by unfold inR at *; omega) (by unfold inR at *; omega) (fun c_2 => ?_) (fun c_2 => ?_)
    · refine z_iconst dX6_likely_18 ?_
      exact s_iretZ dX6_likely_19 rfl ⟨rfl, rfl⟩
    · refine q_iload_n dX6_likely_13 rfl rfl ?_
      refine z_iconst dX6_likely_14 ?_
      refine z_icmp_le (tgt := 20) dX6_likely_15 (by decide) (by unfold inR at *; omega) (by unfold inR at *; omega) (fun c_3 => ?_) (fun c_3 => ?_)
      · exfalso
        omega
      · refine z_iconst dX6_likely_18 ?_
        exact s_iretZ dX6_likely_19 rfl ⟨rfl, rfl⟩
theorem x_cnt_off {d n : Nat} (hd : 10 ≤ d) (hn3 : n ≤ 3) (σ : gS) {W V : wF} {A I : Nat → Int} {c nt : Int} (hc : c ≤ 88000) (hn4 : nt ≤ 4) (ok : okR c nt A) (oi : okR c (I 1) I) (C : clR σ W V A I) (t1 : trS 0 σ 364 A) : sC mX6_countDraws d [.ref 0, .int (iZ (-1)), .int (iZ 0), .int (iZ (n : Int))] σ (fun v σ' => v = some (.int (iZ (((sCnt (soN W A n) (2 ^ (3 * n))).toNat : Nat) : Int))) ∧ chg scrQ σ σ') := by
  have g := ok_gd hc hn4 ok
  have g0 := g.1
  have cr := sCnt_ran (e := (soN W A n)) (fun k => soN_01 W A n k) (2 ^ (3 * n))
  have k := x_countD (n := n) (pz := (-1)) (gv := (goneB A)) hc hn4 ok oi hn3 (by unfold inR; omega) (fun d l σ B h1 h2 h3 C gB e0 tB => x_leafN σ hc hn4 ok oi C d l B h1 h2 h3 gB e0 tB) n (l := 0) (by omega) (by omega) d (by omega) σ C A (gd_mono g (by decide)) rfl rfl t1
  refine sC_imp ?_ k
  rintro v σ' ⟨e1, e2⟩
  refine ⟨?_, cd_scr e2⟩
  rw [e1, show (((sCnt (soN W A n) (2 ^ (3 * n))).toNat : Nat) : Int) = (sCnt (soN W A n) (2 ^ (3 * n))) by omega]
  rfl
set_option maxHeartbeats 4000000 in
set_option maxRecDepth 100000 in
theorem x_off {d n : Nat} (hd : 12 ≤ d) (hn1 : 1 ≤ n) (hn3 : n ≤ 3) {u : Int} (hu : u = 0 ∨ u = 1) (σ : gS) {W V : wF} {A I : Nat → Int} {c nt : Int} (hc : c ≤ 88000) (hn4 : nt ≤ 4) (ok : okR c nt A) (oi : okR c (I 1) I) (C : clR σ W V A I) : sC mX6_off d [.ref 0, .int (iZ (n : Int)), .int (iZ u)] σ (fun r σ' => r = some (.int (iZ (mPt u (sCnt (soN W A n) (2 ^ (3 * n))).toNat (2 ^ (3 * n))))) ∧ chg scrQ σ σ') := by
  have g := ok_gd hc hn4 ok
  have g0 := g.1
  have n1 := ok.2.2.1
  have a2 := ok_2 ok
  have g10 := g.2.2.2.2.1
  have gL : gd 100000 4 A := gd_mono g (by decide)
  have rk := rA_ok (w0_of C) gL a2.1 a2.2
  have pw : 2 ^ (3 * n) ≤ 512 := Nat.pow_le_pow_right (by decide) (show 3 * n ≤ 9 by omega)
  have cr := sCnt_ran (e := (soN W A n)) (fun k => soN_01 W A n k) (2 ^ (3 * n))
  refine sC_of rfl (Nat.le_of_ble_eq_true rfl) ?_
  show sE g_tt _ _ _ 0 [some (.ref 0), some (.int (iZ (n : Int))), some (.int (iZ u))] [] σ
  refine q_iload_n dX6_off_0 rfl rfl ?_
  refine z_iconst dX6_off_1 ?_
  refine z_icmp_lt (tgt := 10) dX6_off_2 (by decide) (by unfold inR at *; omega) (by unfold inR at *; omega) (fun c_1 => ?_) (fun c_1 => ?_)
  · exfalso
    omega
  · refine q_iload_n dX6_off_5 rfl rfl ?_
    refine z_iconst dX6_off_6 ?_
    refine z_icmp_le (tgt := 12) dX6_off_7 (by decide) (by unfold inR at *; omega) (by unfold inR at *; omega) (fun c_2 => ?_) (fun c_2 => ?_)
    · refine q_aload_n dX6_off_12 rfl rfl ?_
      refine sg6 (kf := 6) (v := .ref 334) dX6_off_13 flX6_48 (show kd 0 = 6 from rfl) (by decide) rfl ?_
      refine z_iconst dX6_off_16 ?_
      refine s_aaldS (n := 4) (x := 364) dX6_off_17 (show kd 334 = 300000 + 4 from rfl) (by omega) (by omega) (by decide) (C.2.2.2.2 0 (by omega)) ?_
      refine q_aload_n dX6_off_18 rfl rfl ?_
      refine sg6 (kf := 0) (v := .ref 1) dX6_off_19 flX6_10 (show kd 0 = 6 from rfl) (by decide) rfl ?_
      refine sg5 (kf := 0) (v := .ref 2) dX6_off_22 flX6_72 (show kd 1 = 5 from rfl) (by decide) rfl ?_
      refine s_callV (ci := 2) (a := 364) (As := [.ref 2]) (S := []) dX6_off_25 okX2_take mlX6_218 rfl (by omega) rfl (Nat.le_of_ble_eq_true rfl) (show kd 364 = 2 from rfl) (by decide) rfl (t_take (d := d - 1) (s := 364) (o := 2) (by omega) rfl σ rfl (by decide)) (fun v_ σ_ hq => ?_)
      obtain ⟨rfl, hc1, ht1⟩ := hq
      rename gS => σ1
      have s1 : chg scrQ σ σ1 := chg_mono hc1 (fun a q => scr5 (by omega) q)
      have C1 := clR_ch ok oi C s1
      have t1 : trS 0 σ1 364 A := trS_off (ht1 1 A g0.2 (fun _ => ok.1.2.2.2.2.1.2) C.1.1)
      show sE g_tt _ _ _ 28 [some (.ref 0), some (.int (iZ (n : Int))), some (.int (iZ u))] [] σ1
      refine q_aload_n dX6_off_28 rfl rfl ?_
      refine z_iconst dX6_off_29 ?_
      refine z_iconst dX6_off_30 ?_
      refine q_iload_n dX6_off_31 rfl rfl ?_
      refine s_callV (ci := 6) (a := 0) (As := [.int (iZ (-1)), .int (iZ 0), .int (iZ (n : Int))]) (S := []) dX6_off_32 okX6_countDraws mlX6_270 rfl (by omega) rfl (Nat.le_of_ble_eq_true rfl) (show kd 0 = 6 from rfl) (by decide) rfl (x_cnt_off (d := d - 1) (n := n) (by omega) (by omega) σ1 hc hn4 ok oi C1 t1) (fun v_ σ_ hq => ?_)
      obtain ⟨rfl, hc2⟩ := hq
      rename gS => σ2
      have s2 : chg scrQ σ σ2 := chg_tr s1 hc2
      show sE g_tt _ _ _ 35 [some (.ref 0), some (.int (iZ (n : Int))), some (.int (iZ u))] [.int (iZ (((sCnt (soN W A n) (2 ^ (3 * n))).toNat : Nat) : Int))] σ2
      refine q_iload_n dX6_off_35 rfl rfl ?_
      refine q_iload_n dX6_off_36 rfl rfl ?_
      refine s_callS (As := [.int (iZ (((sCnt (soN W A n) (2 ^ (3 * n))).toNat : Nat) : Int)), .int (iZ (n : Int)), .int (iZ u)]) (S := []) dX6_off_37 okX6_inLowestTerms mlX6_274 rfl (by omega) rfl (Nat.le_of_ble_eq_true rfl) (x_inLow (d := d - 1) (a := (sCnt (soN W A n) (2 ^ (3 * n))).toNat) (n := n) (by omega) (by omega) (by omega) hu σ2) (fun v_ σ_ hq => ?_)
      obtain ⟨rfl, e9⟩ := hq
      have e9 := e9.symm
      subst e9
      show sE g_tt _ _ _ 40 [some (.ref 0), some (.int (iZ (n : Int))), some (.int (iZ u))] [.int (iZ (mPt u (sCnt (soN W A n) (2 ^ (3 * n))).toNat (2 ^ (3 * n))))] σ2
      exact s_iretZ dX6_off_40 rfl ⟨rfl, s2⟩
    · exfalso
      omega
set_option maxHeartbeats 4000000 in
set_option maxRecDepth 100000 in
theorem x_off0 {d : Nat} (hd : 1 ≤ d) {m u : Int} (hm : inR m) (σ : gS) {W V : wF} {A I : Nat → Int} {c nt : Int} (hc : c ≤ 88000) (hn4 : nt ≤ 4) (ok : okR c nt A) (oi : okR c (I 1) I) (C : clR σ W V A I) (hno : ¬ (1 ≤ m ∧ m ≤ 3)) : sC mX6_off d [.ref 0, .int (iZ m), .int (iZ u)] σ (fun r σ' => r = some (.int (iZ (-1))) ∧ σ' = σ) := by
  have g := ok_gd hc hn4 ok
  have g0 := g.1
  refine sC_of rfl (Nat.le_of_ble_eq_true rfl) ?_
  show sE g_tt _ _ _ 0 [some (.ref 0), some (.int (iZ m)), some (.int (iZ u))] [] σ
  refine q_iload_n dX6_off_0 rfl rfl ?_
  refine z_iconst dX6_off_1 ?_
  refine z_icmp_lt (tgt := 10) dX6_off_2 (by decide) (by unfold inR at *; omega) (by unfold inR at *; omega) (fun c_1 => ?_) (fun c_1 => ?_)
  · refine z_iconst dX6_off_10 ?_
    exact s_iretZ dX6_off_11 rfl ⟨rfl, rfl⟩
  · refine q_iload_n dX6_off_5 rfl rfl ?_
    refine z_iconst dX6_off_6 ?_
    refine z_icmp_le (tgt := 12) dX6_off_7 (by decide) (by unfold inR at *; omega) (by unfold inR at *; omega) (fun c_2 => ?_) (fun c_2 => ?_)
    · exfalso
      omega
    · refine z_iconst dX6_off_10 ?_
      exact s_iretZ dX6_off_11 rfl ⟨rfl, rfl⟩
