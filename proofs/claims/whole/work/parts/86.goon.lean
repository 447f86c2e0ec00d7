/-! ===== goOn, findMeeting, meet of the class ===== -/
theorem kd_lv {l : Nat} (h : l < 4) : kd (364 + 5 * l) = 2 := by
  have : ∀ l, l < 4 → kd (364 + 5 * l) = 2 := by decide
  exact this l h
theorem fst1_none {e : Nat → Int} : ∀ (f k : Nat), (∀ c, k ≤ c → c < k + f → ¬ e c = 1) → fst1 e f k = -1 := by
  intro f
  induction f with
  | zero => intro k _; rfl
  | succ f ih => intro k h; rw [fst1, if_neg (h k (by omega) (by omega))]; exact ih (k + 1) (fun c a b => h c (by omega) (by omega))
theorem fst1_some {e : Nat → Int} {c : Nat} (he : e c = 1) : ∀ (f k : Nat), k ≤ c → c < k + f → (∀ x, k ≤ x → x < c → ¬ e x = 1) → fst1 e f k = (c : Int) := by
  intro f
  induction f with
  | zero => intro k a b _; omega
  | succ f ih =>
    intro k a b h
    rw [fst1]
    by_cases q : k = c
    · rw [q, if_pos he]
    · rw [if_neg (h k (by omega) (by omega))]; exact ih (k + 1) (by omega) (by omega) (fun x y z => h x (by omega) z)
theorem hd3_lo {h r c k : Nat} (hk : k < r) : hd3 (h * 2 ^ (3 * r) + c) k = hd3 c k := by
  unfold hd3
  obtain ⟨m, rfl⟩ : ∃ m, r = k + 1 + m := ⟨r - k - 1, by omega⟩
  have e : h * 2 ^ (3 * (k + 1 + m)) = 2 ^ (3 * k) * (8 * (h * 2 ^ (3 * m))) := by
    rw [show 3 * (k + 1 + m) = 3 * k + (3 + 3 * m) by omega, Nat.pow_add, Nat.pow_add, show (2 : Nat) ^ 3 = 8 from rfl, Nat.mul_left_comm, Nat.mul_left_comm h 8]
  rw [e, Nat.mul_add_div (Nat.pow_pos (by decide)), Nat.mul_add_mod]
theorem hd3_hi {h r c : Nat} (hh : h < 8) (hc : c < 2 ^ (3 * r)) : hd3 (h * 2 ^ (3 * r) + c) r = h := by
  unfold hd3
  rw [Nat.mul_comm, Nat.mul_add_div (Nat.pow_pos (by decide)), Nat.div_eq_of_lt hc, Nat.add_zero, Nat.mod_eq_of_lt hh]
theorem mDo_lo (W : wF) (b : Int) {h r c : Nat} : ∀ (k : Nat) (B : Nat → Int), k ≤ r → mDo W b (h * 2 ^ (3 * r) + c) k B = mDo W b c k B := by
  intro k
  induction k with
  | zero => intro B _; rfl
  | succ k ih =>
    intro B hk
    rw [mDo, mDo, hd3_lo (by omega), ih _ (by omega), ih _ (by omega)]
theorem mDo_hi (W : wF) (b : Int) {h r c : Nat} (hh : h < 8) (hc : c < 2 ^ (3 * r)) (B : Nat → Int) : mDo W b (h * 2 ^ (3 * r) + c) (r + 1) B = if B (11 + h) + 1 ≤ 99 then mDo W b c r (rA W (inc B h)) else if b = 0 then (0, B) else mDo W b c r (rA W B) := by
  rw [mDo, hd3_hi hh hc, mDo_lo W b r _ (Nat.le_refl _), mDo_lo W b r _ (Nat.le_refl _)]
theorem metB_hi (W : wF) (p q : Nat) {h r c : Nat} (hh : h < 8) (hc : c < 2 ^ (3 * r)) (B : Nat → Int) : metB W B p q (r + 1) (h * 2 ^ (3 * r) + c) = if B (11 + h) + 1 ≤ 99 then metB W (rA W (inc B h)) p q r c else 0 := by
  unfold metB
  rw [mDo_hi W 0 hh hc]
  by_cases k : B (11 + h) + 1 ≤ 99
  · rw [if_pos k, if_pos k]
  · rw [if_neg k, if_neg k, if_pos rfl, if_neg (fun z => absurd z.1 (show ¬ (0 : Int) = 1 by decide))]
theorem c_split {h r c : Nat} (hc : h * 2 ^ (3 * r) ≤ c) (hc2 : c < (h + 1) * 2 ^ (3 * r)) : ∃ x, x < 2 ^ (3 * r) ∧ c = h * 2 ^ (3 * r) + x := by
  rw [Nat.add_mul, Nat.one_mul] at hc2
  exact ⟨c - h * 2 ^ (3 * r), by omega, by omega⟩
theorem inc_gd {c nt : Int} {B : Nat → Int} (g : gd c nt B) {h : Nat} (hh : h < 8) : gd (c + 1) nt (inc B h) := gd_inc g hh
set_option maxHeartbeats 4000000 in
set_option maxRecDepth 100000 in
theorem x_goOn {d l h : Nat} (hd : 6 ≤ d) (hl : l < 3) (hh : h < 8) (σ : gS) {W V : wF} {A I : Nat → Int} {c nt : Int} (hc : c ≤ 88000) (hn4 : nt ≤ 4) (ok : okR c nt A) (oi : okR c (I 1) I) (C : clR σ W V A I) (B : Nat → Int) (gB : gd 98000 4 B) (hB2 : B 2 = A 2) (tB : trS 0 σ (364 + 5 * l) B) : sC mX6_goOn d [.ref 0, .int (iZ (l : Int)), .int (iZ (h : Int))] σ (fun r σ' => r = some (.int (iZ (if B (11 + h) + 1 ≤ 99 then 1 else 0))) ∧ chg (atS (364 + 5 * (l + 1))) σ σ' ∧ (B (11 + h) + 1 ≤ 99 → trS 0 σ' (364 + 5 * (l + 1)) (rA W (inc B h)))) := by
  have a2 := ok_2 ok
  have kB := kd_ran gB hh
  have gU : gd 100000 4 (inc B h) := gd_mono (inc_gd gB hh) (by decide)
  have hU2 : inc B h 2 = A 2 := by rw [inc_2, hB2]
  refine sC_of rfl (Nat.le_of_ble_eq_true rfl) ?_
  show sE g_tt _ _ _ 0 [some (.ref 0), some (.int (iZ (l : Int))), some (.int (iZ (h : Int))), none] [] σ
  refine q_iload_n dX6_goOn_0 rfl rfl ?_
  refine z_iconst dX6_goOn_1 ?_
  refine z_iadd dX6_goOn_2 ?_
  refine q_aload_n dX6_goOn_3 rfl rfl ?_
  refine sg6 (kf := 6) (v := .ref 334) dX6_goOn_4 flX6_48 (show kd 0 = 6 from rfl) (by decide) rfl ?_
  refine s_alen (n := 4) dX6_goOn_7 (show kd 334 = 300000 + 4 from rfl) (Or.inr (Or.inr (Or.inr (Or.inl ⟨rfl, rfl⟩)))) (by decide) ?_
  refine z_icmp_ge (tgt := 25) dX6_goOn_8 (by decide) (by unfold inR at *; omega) (by unfold inR at *; omega) (fun c_1 => ?_) (fun c_1 => ?_)
  · exfalso
    omega
  · refine q_aload_n dX6_goOn_11 rfl rfl ?_
    refine sg6 (kf := 6) (v := .ref 334) dX6_goOn_12 flX6_48 (show kd 0 = 6 from rfl) (by decide) rfl ?_
    refine q_iload_n dX6_goOn_15 rfl rfl ?_
    refine s_aaldS (n := 4) (x := (364 + 5 * l)) dX6_goOn_16 (show kd 334 = 300000 + 4 from rfl) (by omega) (by omega) (by decide) (C.2.2.2.2 l (by omega)) ?_
    refine q_iload_n dX6_goOn_17 rfl rfl ?_
    refine z_iconst dX6_goOn_18 ?_
    refine s_callV (ci := 2) (a := (364 + 5 * l)) (As := [.int (iZ (h : Int)), .int (iZ 1)]) (S := []) dX6_goOn_19 okX2_takesGood mlX6_115 rfl (by omega) rfl (Nat.le_of_ble_eq_true rfl) (kd_lv (l := l) (by omega)) (by decide) rfl (t_takesGood (d := d - 1) (s := (364 + 5 * l)) (kd_lv (l := l) (by omega)) σ hh (n := 1) (by rw [tB.1 h hh]; unfold inR; omega)) (fun v_ σ_ hq => ?_)
    obtain ⟨rfl, e9⟩ := hq
    have e9 := e9.symm
    subst e9
    refine z_top (y := if B (11 + h) + 1 ≤ 99 then 1 else 0) (by rw [tB.1 h hh]) ?_
    show sE g_tt _ _ _ 22 [some (.ref 0), some (.int (iZ (l : Int))), some (.int (iZ (h : Int))), none] [.int (iZ (if B (11 + h) + 1 ≤ 99 then 1 else 0))] σ
    refine z_if_ne (tgt := 27) dX6_goOn_22 (by decide) inR_01 (fun c_2 => ?_) (fun c_2 => ?_)
    · have c_2 := if01_1 c_2
      refine q_aload_n dX6_goOn_27 rfl rfl ?_
      refine sg6 (kf := 6) (v := .ref 334) dX6_goOn_28 flX6_48 (show kd 0 = 6 from rfl) (by decide) rfl ?_
      refine q_iload_n dX6_goOn_31 rfl rfl ?_
      refine z_iconst dX6_goOn_32 ?_
      refine z_iadd dX6_goOn_33 ?_
      refine s_aaldS (n := 4) (x := (364 + 5 * (l + 1))) dX6_goOn_34 (show kd 334 = 300000 + 4 from rfl) (by omega) (by omega) (by decide) (by rw [show ((l : Int) + 1).toNat = l + 1 by omega]; exact C.2.2.2.2 (l + 1) (by omega)) ?_
      refine q_astore_n dX6_goOn_35 rfl (by decide) ?_
      show sE g_tt _ _ _ 36 [some (.ref 0), some (.int (iZ (l : Int))), some (.int (iZ (h : Int))), some (.ref (364 + 5 * (l + 1)))] [] σ
      refine q_aload_n dX6_goOn_36 rfl rfl ?_
      refine q_aload_n dX6_goOn_37 rfl rfl ?_
      refine sg6 (kf := 6) (v := .ref 334) dX6_goOn_38 flX6_48 (show kd 0 = 6 from rfl) (by decide) rfl ?_
      refine q_iload_n dX6_goOn_41 rfl rfl ?_
      refine s_aaldS (n := 4) (x := (364 + 5 * l)) dX6_goOn_42 (show kd 334 = 300000 + 4 from rfl) (by omega) (by omega) (by decide) (C.2.2.2.2 l (by omega)) ?_
      refine s_callV (ci := 2) (a := (364 + 5 * (l + 1))) (As := [.ref (364 + 5 * l)]) (S := []) dX6_goOn_43 okX2_take mlX6_218 rfl (by omega) rfl (Nat.le_of_ble_eq_true rfl) (kd_lv (l := l + 1) (by omega)) (by decide) rfl (t_take (d := d - 1) (s := (364 + 5 * (l + 1))) (o := (364 + 5 * l)) (by omega) (kd_lv (l := l + 1) (by omega)) σ (kd_lv (l := l) (by omega)) (by omega)) (fun v_ σ_ hq => ?_)
      obtain ⟨rfl, hc1, ht1⟩ := hq
      rename gS => σ1
      have s1 : chg scrQ σ σ1 := chg_mono hc1 (fun a q => scr5 (by omega) q)
      have C1 := clR_ch ok oi C s1
      have t1 : trS 0 σ1 (364 + 5 * (l + 1)) B := ht1 0 B gB.1.2 (fun q => absurd rfl q) tB
      have s2 : chg (fun a => (364 + 5 * (l + 1)) ≤ a ∧ a < (364 + 5 * (l + 1)) + 5) σ1 (sR σ1 ((364 + 5 * (l + 1)) + 1) h (B (11 + h) + 1)) := chg_mono (chg_sR σ1 ((364 + 5 * (l + 1)) + 1) h _) (fun a q => by omega)
      have su : chg scrQ σ1 (sR σ1 ((364 + 5 * (l + 1)) + 1) h (B (11 + h) + 1)) := chg_mono s2 (fun a q => scr5 (by omega) q)
      have CU := clR_ch ok oi C1 su
      have tU : trS 0 (sR σ1 ((364 + 5 * (l + 1)) + 1) h (B (11 + h) + 1)) (364 + 5 * (l + 1)) (inc B h) := trS_kind t1 hh _
      show sE g_tt _ _ _ 46 [some (.ref 0), some (.int (iZ (l : Int))), some (.int (iZ (h : Int))), some (.ref (364 + 5 * (l + 1)))] [] σ1
      refine q_aload_n dX6_goOn_46 rfl rfl ?_
      refine sg2 (kf := 0) (v := .ref ((364 + 5 * (l + 1)) + 1)) dX6_goOn_47 flX6_122 (kd_lv (l := l + 1) (by omega)) (by decide) rfl ?_
      refine q_iload_n dX6_goOn_50 rfl rfl ?_
      refine q_dup2 dX6_goOn_51 rfl rfl ?_
      refine s_iald (n := 8) (x := B (11 + h)) dX6_goOn_52 (kd_st (kd_lv (l := l + 1) (by omega))).1 (by omega) (by omega) (by decide) (t1.1 h hh) ?_
      refine z_iconst dX6_goOn_53 ?_
      refine z_iadd dX6_goOn_54 ?_
      refine s_iast (n := 8) dX6_goOn_55 (kd_st (kd_lv (l := l + 1) (by omega))).1 (by omega) (by omega) (by decide) ?_
      refine q_aload_n dX6_goOn_56 rfl rfl ?_
      refine q_aload_n dX6_goOn_57 rfl rfl ?_
      refine s_callV (ci := 6) (a := 0) (As := []) (S := [.ref (364 + 5 * (l + 1))]) dX6_goOn_58 okX6_rule mlX6_125 rfl (by omega) rfl (Nat.le_of_ble_eq_true rfl) (show kd 0 = 6 from rfl) (by decide) rfl (x_rule (d := d - 1) (by omega) (sR σ1 ((364 + 5 * (l + 1)) + 1) h (B (11 + h) + 1)) hc hn4 ok oi CU) (fun v_ σ_ hq => ?_)
      obtain ⟨rfl, e9⟩ := hq
      have e9 := e9.symm
      subst e9
      show sE g_tt _ _ _ 61 [some (.ref 0), some (.int (iZ (l : Int))), some (.int (iZ (h : Int))), some (.ref (364 + 5 * (l + 1)))] [.ref (txp (A 2)), .ref (364 + 5 * (l + 1))] (sR σ1 ((364 + 5 * (l + 1)) + 1) h ((B (11 + h)) + 1))
      refine s_callV (ci := 2) (a := (364 + 5 * (l + 1))) (As := [.ref (txp (A 2))]) (S := []) dX6_goOn_61 okX2_settleBy mlX6_140 rfl (by omega) rfl (Nat.le_of_ble_eq_true rfl) (kd_lv (l := l + 1) (by omega)) (by decide) rfl (t_settle (d := d - 1) (s := (364 + 5 * (l + 1))) (by omega) (kd_lv (l := l + 1) (by omega)) (sR σ1 ((364 + 5 * (l + 1)) + 1) h (B (11 + h) + 1)) (CU.2.2.1 (A 2) a2.1 a2.2) (inc B h) zF gU hU2 tU) (fun v_ σ_ hq => ?_)
      obtain ⟨rfl, hc2, ht2, hm2, hn2⟩ := hq
      rename gS => σ2
      show sE g_tt _ _ _ 64 [some (.ref 0), some (.int (iZ (l : Int))), some (.int (iZ (h : Int))), some (.ref (364 + 5 * (l + 1)))] [.int (iZ ((mS W (inc B h) zF).1.length : Int))] σ2
      refine q_pop dX6_goOn_64 rfl ?_
      refine z_iconst dX6_goOn_65 ?_
      exact s_zret dX6_goOn_66 rfl (by omega) ⟨by rw [if_pos (by omega)], chg_tr (chg_mono hc1 (fun a q => Or.inr q)) (chg_tr (chg_mono s2 (fun a q => Or.inr q)) hc2), fun _ => ht2⟩
    · have c_2 := if01_0 c_2
      refine z_iconst dX6_goOn_25 ?_
      exact s_zret dX6_goOn_26 rfl (by omega) ⟨by rw [if_neg (by omega)], chg_rf _ _, fun z => absurd z (by omega)⟩
/-- two meet by r houses more (or not); the lowest such are in the path -/
def fmQ (W : wF) (B : Nat → Int) (p q l r : Nat) (σ : gS) (v : Option Value) (σ' : gS) : Prop :=
  chg (fun a => stkP a ∨ a = 335 ∨ (364 + 5 * (l + 1) ≤ a ∧ a < 384)) σ σ' ∧ ((v = some (.int (iZ 0)) ∧ ∀ c, c < 2 ^ (3 * r) → metB W B p q r c = 0) ∨ (v = some (.int (iZ 1)) ∧ ∃ c, c < 2 ^ (3 * r) ∧ metB W B p q r c = 1 ∧ (∀ x, x < c → metB W B p q r x = 0) ∧ ∀ i, i < r → σ'.2.1 335 (l + i) = ((hd3 c (r - 1 - i) : Nat) : Int)))
theorem fm_scr {l : Nat} {σ σ' : gS} (h : chg (fun a => stkP a ∨ a = 335 ∨ (364 + 5 * (l + 1) ≤ a ∧ a < 384)) σ σ') : chg scrQ σ σ' := chg_mono h (fun a q => by unfold scrQ; unfold stkP at *; omega)
theorem kd_sH {l : Nat} (h : l < 4) : kd (364 + 5 * l + 2) = 100 + 5 := by
  have : ∀ l, l < 4 → kd (364 + 5 * l + 2) = 105 := by decide
  exact this l h
theorem metB_0 (W : wF) (B : Nat → Int) (p q : Nat) : metB W B p q 0 0 = if B (19 + p) = B (19 + q) ∧ B (19 + p) ≠ -1 then 1 else 0 := by
  unfold metB
  by_cases k : B (19 + p) = B (19 + q) ∧ B (19 + p) ≠ -1
  · rw [if_pos k]; exact if_pos ⟨rfl, k⟩
  · rw [if_neg k]; exact if_neg (fun z => k z.2)
set_option maxHeartbeats 4000000 in
set_option maxRecDepth 100000 in
theorem x_fm0 {d l n p q : Nat} (hl : l < 4) (hln : l = n) (σ : gS) {W V : wF} {A I : Nat → Int} {c nt : Int} (hc : c ≤ 88000) (hn4 : nt ≤ 4) (ok : okR c nt A) (oi : okR c (I 1) I) (C : clR σ W V A I) (B : Nat → Int) (gB : gd 98000 4 B) (hB2 : B 2 = A 2) (hB0 : B 0 = A 0) (tB : trS 0 σ (364 + 5 * l) B) (hp : (p : Int) < A 0) (hqa : (q : Int) < A 0) : sC mX6_findMeeting d [.ref 0, .int (iZ (p : Int)), .int (iZ (q : Int)), .int (iZ (l : Int)), .int (iZ (n : Int))] σ (fmQ W B p q l 0 σ) := by
  have g := ok_gd hc hn4 ok
  have g0 := g.1
  have b1 := gB.2.1 p (by omega)
  have b2 := gB.2.1 q (by omega)
  refine sC_of rfl (Nat.le_of_ble_eq_true rfl) ?_
  show sE g_tt _ _ _ 0 [some (.ref 0), some (.int (iZ (p : Int))), some (.int (iZ (q : Int))), some (.int (iZ (l : Int))), some (.int (iZ (n : Int))), none] [] σ
  refine q_iload_n dX6_findMeeting_0 rfl rfl ?_
  refine q_iload dX6_findMeeting_1 rfl ?_
  refine z_icmp_lt (tgt := 47) dX6_findMeeting_3 (by decide) (by unfold inR at *; omega) (by unfold inR at *; omega) (fun c_1 => ?_) (fun c_1 => ?_)
  · exfalso
    omega
  · refine q_aload_n dX6_findMeeting_6 rfl rfl ?_
    refine sg6 (kf := 6) (v := .ref 334) dX6_findMeeting_7 flX6_48 (show kd 0 = 6 from rfl) (by decide) rfl ?_
    refine q_iload_n dX6_findMeeting_10 rfl rfl ?_
    refine s_aaldS (n := 4) (x := (364 + 5 * l)) dX6_findMeeting_11 (show kd 334 = 300000 + 4 from rfl) (by omega) (by omega) (by decide) (C.2.2.2.2 l (by omega)) ?_
    refine sg2 (kf := 1) (v := .ref ((364 + 5 * l) + 2)) dX6_findMeeting_12 flX6_190 (kd_lv (l := l) (by omega)) (by decide) rfl ?_
    refine q_iload_n dX6_findMeeting_15 rfl rfl ?_
    refine s_iald (n := 5) (x := B (19 + p)) dX6_findMeeting_16 (kd_sH (l := l) (by omega)) (by omega) (by omega) (by decide) (tB.2.1 p (by rw [hB0]; assumption)) ?_
    refine q_istore dX6_findMeeting_17 (by decide) ?_
    show sE g_tt _ _ _ 19 [some (.ref 0), some (.int (iZ (p : Int))), some (.int (iZ (q : Int))), some (.int (iZ (l : Int))), some (.int (iZ (n : Int))), some (.int (iZ (B (19 + p))))] [] σ
    refine q_iload dX6_findMeeting_19 rfl ?_
    refine z_iconst dX6_findMeeting_21 ?_
    refine z_icmp_eq (tgt := 45) dX6_findMeeting_22 (by decide) (by unfold inR at *; omega) (by unfold inR at *; omega) (fun c_2 => ?_) (fun c_2 => ?_)
    · refine z_iconst dX6_findMeeting_45 ?_
      exact s_zret dX6_findMeeting_46 rfl (by omega) ⟨chg_rf _ _, Or.inl ⟨rfl, fun c hc => by rw [show c = 0 by (have := hc; simp at this; omega)]; exact (metB_0 W B p q).trans (if_neg (by omega))⟩⟩
    · refine q_iload dX6_findMeeting_25 rfl ?_
      refine q_aload_n dX6_findMeeting_27 rfl rfl ?_
      refine sg6 (kf := 6) (v := .ref 334) dX6_findMeeting_28 flX6_48 (show kd 0 = 6 from rfl) (by decide) rfl ?_
      refine q_iload_n dX6_findMeeting_31 rfl rfl ?_
      refine s_aaldS (n := 4) (x := (364 + 5 * l)) dX6_findMeeting_32 (show kd 334 = 300000 + 4 from rfl) (by omega) (by omega) (by decide) (C.2.2.2.2 l (by omega)) ?_
      refine sg2 (kf := 1) (v := .ref ((364 + 5 * l) + 2)) dX6_findMeeting_33 flX6_190 (kd_lv (l := l) (by omega)) (by decide) rfl ?_
      refine q_iload_n dX6_findMeeting_36 rfl rfl ?_
      refine s_iald (n := 5) (x := B (19 + q)) dX6_findMeeting_37 (kd_sH (l := l) (by omega)) (by omega) (by omega) (by decide) (tB.2.1 q (by rw [hB0]; assumption)) ?_
      refine z_icmp_ne (tgt := 45) dX6_findMeeting_38 (by decide) (by unfold inR at *; omega) (by unfold inR at *; omega) (fun c_3 => ?_) (fun c_3 => ?_)
      · refine z_iconst dX6_findMeeting_45 ?_
        exact s_zret dX6_findMeeting_46 rfl (by omega) ⟨chg_rf _ _, Or.inl ⟨rfl, fun c hc => by rw [show c = 0 by (have := hc; simp at this; omega)]; exact (metB_0 W B p q).trans (if_neg (by omega))⟩⟩
      · refine z_iconst dX6_findMeeting_41 ?_
        refine q_goto (tgt := 46) dX6_findMeeting_42 (by decide) ?_
        exact s_zret dX6_findMeeting_46 rfl (by omega) ⟨chg_rf _ _, Or.inr ⟨rfl, 0, by decide, (metB_0 W B p q).trans (if_pos (by omega)), fun x hx => by omega, fun i hi => by omega⟩⟩
set_option maxHeartbeats 4000000 in
set_option maxRecDepth 100000 in
theorem x_fmS {r : Nat} (fm_r : ∀ {l n p q : Nat}, l < 4 → l + r = n → n ≤ 3 → ∀ (d : Nat), 7 + r ≤ d → ∀ (σ : gS) {W V : wF} {A I : Nat → Int} {c nt : Int} (hc : c ≤ 88000) (hn4 : nt ≤ 4) (ok : okR c nt A) (oi : okR c (I 1) I) (C : clR σ W V A I) (B : Nat → Int) (gB : gd 98000 4 B) (hB2 : B 2 = A 2) (hB0 : B 0 = A 0) (tB : trS 0 σ (364 + 5 * l) B) (hp : (p : Int) < A 0) (hqa : (q : Int) < A 0), sC mX6_findMeeting d [.ref 0, .int (iZ (p : Int)), .int (iZ (q : Int)), .int (iZ (l : Int)), .int (iZ (n : Int))] σ (fmQ W B p q l r σ)) {l n p q : Nat} (hl : l < 4) (hln : l + (r + 1) = n) (hn3 : n ≤ 3) (d : Nat) (hd : 7 + (r + 1) ≤ d) (σ : gS) {W V : wF} {A I : Nat → Int} {c nt : Int} (hc : c ≤ 88000) (hn4 : nt ≤ 4) (ok : okR c nt A) (oi : okR c (I 1) I) (C : clR σ W V A I) (B : Nat → Int) (gB : gd 98000 4 B) (hB2 : B 2 = A 2) (hB0 : B 0 = A 0) (tB : trS 0 σ (364 + 5 * l) B) (hp : (p : Int) < A 0) (hqa : (q : Int) < A 0) : sC mX6_findMeeting d [.ref 0, .int (iZ (p : Int)), .int (iZ (q : Int)), .int (iZ (l : Int)), .int (iZ (n : Int))] σ (fmQ W B p q l (r + 1) σ) := by
  have g := ok_gd hc hn4 ok
  have g0 := g.1
  have a2 := ok_2 ok
  have rk : ∀ h, h < 8 → gd 80 4 (rA W (inc B h)) ∧ rA W (inc B h) 2 = A 2 ∧ rA W (inc B h) 0 = A 0 := fun h hh => by
    have gU : gd 100000 4 (inc B h) := gd_mono (inc_gd gB hh) (by decide)
    have u2 : inc B h 2 = A 2 := by rw [inc_2, hB2]
    have ro := rA_ok (w0_of C) gU (by omega) (by omega)
    exact ⟨ro.1, by rw [ro.2.1, u2], by rw [show rA W (inc B h) 0 = inc B h 0 from sett_lo2 (w0_of C) _ _ _ gU (by omega) (by omega) 0 (by omega), show inc B h 0 = B 0 from va_up_ne _ _ (by omega), hB0]⟩
  have fm_l := fun (d : Nat) (B : Nat → Int) (σ : gS) (h7 : 7 + r ≤ d) (C : clR σ W V A I) (gB : gd 98000 4 B) (hB2 : B 2 = A 2) (hB0 : B 0 = A 0) (tB : trS 0 σ (364 + 5 * (l + 1)) B) => fm_r (l := l + 1) (n := n) (p := p) (q := q) (by omega) (by omega) hn3 d h7 σ hc hn4 ok oi C B gB hB2 hB0 tB hp hqa
  refine sC_of rfl (Nat.le_of_ble_eq_true rfl) ?_
  have lp : ∀ (m h : Nat) (σ1 : gS), h ≤ 8 → trS 0 σ1 (364 + 5 * l) B → chg (fun a => stkP a ∨ a = 335 ∨ (364 + 5 * (l + 1) ≤ a ∧ a < 384)) σ σ1 → (∀ c, c < h * 2 ^ (3 * r) → metB W B p q (r + 1) c = 0) → 8 - (h : Int) < (m : Int) → sE g_tt mX6_findMeeting d (fmQ W B p q l (r + 1) σ) 50 [some (.ref 0), some (.int (iZ (p : Int))), some (.int (iZ (q : Int))), some (.int (iZ (l : Int))), some (.int (iZ (n : Int))), some (.int (iZ (h : Int)))] [] σ1 := by
    intro m
    induction m with
    | zero => intro h σ1 h8 _ _ _ hm; exact absurd hm (by omega)
    | succ m ih =>
      intro h σ1 h8 tB s1 hz hm
      have C1 := clR_ch ok oi C (fm_scr s1)
      refine q_iload dX6_findMeeting_50 rfl ?_
      refine z_bipush dX6_findMeeting_52 (by decide +kernel) ?_
      refine z_icmp_ge (tgt := 97) dX6_findMeeting_54 (by decide) (by unfold inR at *; omega) (by unfold inR at *; omega) (fun c_1 => ?_) (fun c_1 => ?_)
      · refine z_iconst dX6_findMeeting_97 ?_
        exact s_zret dX6_findMeeting_98 rfl (by omega) ⟨s1, Or.inl ⟨rfl, fun c hc' => hz c (by rw [show h = 8 by omega]; rw [show 3 * (r + 1) = 3 * r + 3 by omega, Nat.pow_add, show (2 : Nat) ^ 3 = 8 from rfl] at hc'; omega)⟩⟩
      · refine q_aload_n dX6_findMeeting_57 rfl rfl ?_
        refine q_iload_n dX6_findMeeting_58 rfl rfl ?_
        refine q_iload dX6_findMeeting_59 rfl ?_
        refine s_callV (ci := 6) (a := 0) (As := [.int (iZ (l : Int)), .int (iZ (h : Int))]) (S := []) dX6_findMeeting_61 okX6_goOn mlX6_267 rfl (by omega) rfl (Nat.le_of_ble_eq_true rfl) (show kd 0 = 6 from rfl) (by decide) rfl (x_goOn (d := d - 1) (l := l) (h := h) (by omega) (by omega) (by omega) σ1 hc hn4 ok oi C1 B gB hB2 tB) (fun v_ σ_ hq => ?_)
        obtain ⟨rfl, hc2, ht2⟩ := hq
        rename gS => σ2
        have s2 : chg (fun a => stkP a ∨ a = 335 ∨ (364 + 5 * (l + 1) ≤ a ∧ a < 384)) σ σ2 := chg_tr s1 (chg_mono hc2 (fun a q => by unfold atS at q; unfold stkP at *; omega))
        have C2 := clR_ch ok oi C (fm_scr s2)
        have tB2 : trS 0 σ2 (364 + 5 * l) B := trS_ch tB hc2 (fun a x y => by unfold atS stkP; omega)
        show sE g_tt _ _ _ 64 [some (.ref 0), some (.int (iZ (p : Int))), some (.int (iZ (q : Int))), some (.int (iZ (l : Int))), some (.int (iZ (n : Int))), some (.int (iZ (h : Int)))] [.int (iZ (if B (11 + h) + 1 ≤ 99 then 1 else 0))] σ2
        refine z_if_eq (tgt := 91) dX6_findMeeting_64 (by decide) inR_01 (fun c_2 => ?_) (fun c_2 => ?_)
        · have c_2 := if01_0 c_2
          refine z_iinc dX6_findMeeting_91 rfl (by decide) ?_
          show sE g_tt _ _ _ 94 [some (.ref 0), some (.int (iZ (p : Int))), some (.int (iZ (q : Int))), some (.int (iZ (l : Int))), some (.int (iZ (n : Int))), some (.int (iZ ((h : Int) + 1)))] [] σ2
          refine q_goto (tgt := 50) dX6_findMeeting_94 (by decide) ?_
          refine ih (h + 1) σ2 (by omega) tB2 s2 ?_ (by omega)
          intro c hc'
          by_cases k : c < h * 2 ^ (3 * r)
          · exact hz c k
          · obtain ⟨x, hx, rfl⟩ := c_split (by omega) hc'
            rw [metB_hi W p q (by omega) hx]
            rw [if_neg c_2]
        · have c_2 := if01_1 c_2
          refine q_aload_n dX6_findMeeting_67 rfl rfl ?_
          refine q_iload_n dX6_findMeeting_68 rfl rfl ?_
          refine q_iload_n dX6_findMeeting_69 rfl rfl ?_
          refine q_iload_n dX6_findMeeting_70 rfl rfl ?_
          refine z_iconst dX6_findMeeting_71 ?_
          refine z_iadd dX6_findMeeting_72 ?_
          refine q_iload dX6_findMeeting_73 rfl ?_
          refine s_callV (ci := 6) (a := 0) (As := [.int (iZ (p : Int)), .int (iZ (q : Int)), .int (iZ ((l : Int) + 1)), .int (iZ (n : Int))]) (S := []) dX6_findMeeting_75 okX6_findMeeting mlX6_257 rfl (by omega) rfl (Nat.le_of_ble_eq_true rfl) (show kd 0 = 6 from rfl) (by decide) rfl (fm_l (d - 1) (rA W (inc B h)) σ2 (by omega) C2 (gd_mono (rk h (by omega)).1 (by decide)) (rk h (by omega)).2.1 (rk h (by omega)).2.2 (ht2 c_2)) (fun v_ σ_ hq => ?_)
          obtain ⟨hc3, hv3⟩ := hq
          rename gS => σ3
          have s3 : chg (fun a => stkP a ∨ a = 335 ∨ (364 + 5 * (l + 1) ≤ a ∧ a < 384)) σ σ3 := chg_tr s2 (chg_mono hc3 (fun a q => by unfold stkP at *; omega))
          have tB3 : trS 0 σ3 (364 + 5 * l) B := trS_ch tB2 hc3 (fun a x y => by unfold stkP; omega)
          rcases hv3 with ⟨rfl, hv3⟩ | ⟨rfl, c, hc0, hc1, hc2', hc3'⟩
          · show sE g_tt _ _ _ 78 [some (.ref 0), some (.int (iZ (p : Int))), some (.int (iZ (q : Int))), some (.int (iZ (l : Int))), some (.int (iZ (n : Int))), some (.int (iZ (h : Int)))] [.int (iZ 0)] σ3
            refine z_if_eq (tgt := 91) dX6_findMeeting_78 (by decide) (by unfold inR; omega) (fun c_30 => ?_) (fun c_30 => absurd rfl c_30)
            refine z_iinc dX6_findMeeting_91 rfl (by decide) ?_
            show sE g_tt _ _ _ 94 [some (.ref 0), some (.int (iZ (p : Int))), some (.int (iZ (q : Int))), some (.int (iZ (l : Int))), some (.int (iZ (n : Int))), some (.int (iZ ((h : Int) + 1)))] [] σ3
            refine q_goto (tgt := 50) dX6_findMeeting_94 (by decide) ?_
            refine ih (h + 1) σ3 (by omega) tB3 s3 ?_ (by omega)
            intro c hc'
            by_cases k : c < h * 2 ^ (3 * r)
            · exact hz c k
            · obtain ⟨x, hx, rfl⟩ := c_split (by omega) hc'
              rw [metB_hi W p q (by omega) hx]
              rw [if_pos c_2]
              exact hv3 x hx
          · show sE g_tt _ _ _ 78 [some (.ref 0), some (.int (iZ (p : Int))), some (.int (iZ (q : Int))), some (.int (iZ (l : Int))), some (.int (iZ (n : Int))), some (.int (iZ (h : Int)))] [.int (iZ 1)] σ3
            refine z_if_eq (tgt := 91) dX6_findMeeting_78 (by decide) (by unfold inR; omega) (fun c_30 => absurd c_30 (by decide)) (fun c_30 => ?_)
            have hcL : h * 2 ^ (3 * r) + c < 2 ^ (3 * (r + 1)) := by
              rw [show 3 * (r + 1) = 3 * r + 3 by omega, Nat.pow_add, show (2 : Nat) ^ 3 = 8 from rfl]
              have : h * 2 ^ (3 * r) ≤ 7 * 2 ^ (3 * r) := Nat.mul_le_mul_right _ (by omega)
              omega
            refine q_aload_n dX6_findMeeting_81 rfl rfl ?_
            refine sg6 (kf := 7) (v := .ref 335) dX6_findMeeting_82 flX6_52 (show kd 0 = 6 from rfl) (by decide) rfl ?_
            refine q_iload_n dX6_findMeeting_85 rfl rfl ?_
            refine q_iload dX6_findMeeting_86 rfl ?_
            refine s_iast (n := 3) dX6_findMeeting_88 (show kd 335 = 100 + 3 from rfl) (by omega) (by omega) (by decide) ?_
            refine z_iconst dX6_findMeeting_89 ?_
            refine s_zret dX6_findMeeting_90 rfl (by omega) ⟨chg_tr s3 (chg_mono (chg_sR σ3 335 l _) (fun a q => Or.inr (Or.inl q))), Or.inr ⟨rfl, h * 2 ^ (3 * r) + c, hcL, by rw [metB_hi W p q (by omega) hc0, if_pos c_2]; exact hc1, ?_, ?_⟩⟩
            · intro x hx
              by_cases k : x < h * 2 ^ (3 * r)
              · exact hz x k
              · obtain ⟨y, hy, rfl⟩ := c_split (h := h) (r := r) (c := x) (by omega) (by rw [Nat.add_mul, Nat.one_mul]; omega)
                rw [metB_hi W p q (by omega) hy, if_pos c_2]
                exact hc2' y (by omega)
            · intro i hi
              by_cases k : i = 0
              · rw [k, Nat.add_zero, show r + 1 - 1 - 0 = r by omega, hd3_hi (by omega) hc0]
                exact up2_at σ3.2.1 335 l _
              · rw [show r + 1 - 1 - i = r - 1 - (i - 1) by omega, hd3_lo (by omega), ← hc3' (i - 1) (by omega), show l + 1 + (i - 1) = l + i by omega]
                exact up2_k (a := 335) (k := l) σ3.2.1 _ (show l + i ≠ l by omega)
  show sE g_tt _ _ _ 0 [some (.ref 0), some (.int (iZ (p : Int))), some (.int (iZ (q : Int))), some (.int (iZ (l : Int))), some (.int (iZ (n : Int))), none] [] σ
  refine q_iload_n dX6_findMeeting_0 rfl rfl ?_
  refine q_iload dX6_findMeeting_1 rfl ?_
  refine z_icmp_lt (tgt := 47) dX6_findMeeting_3 (by decide) (by unfold inR at *; omega) (by unfold inR at *; omega) (fun c_1 => ?_) (fun c_1 => ?_)
  · refine z_iconst dX6_findMeeting_47 ?_
    refine q_istore dX6_findMeeting_48 (by decide) ?_
    show sE g_tt _ _ _ 50 [some (.ref 0), some (.int (iZ (p : Int))), some (.int (iZ (q : Int))), some (.int (iZ (l : Int))), some (.int (iZ (n : Int))), some (.int (iZ 0))] [] σ
    exact lp 9 0 σ (by omega) tB (chg_rf _ _) (fun c hc' => by rw [Nat.zero_mul] at hc'; omega) (by omega)
  · exfalso
    omega
theorem x_findMeeting : ∀ (r : Nat) {l n p q : Nat}, l < 4 → l + r = n → n ≤ 3 → ∀ (d : Nat), 7 + r ≤ d → ∀ (σ : gS) {W V : wF} {A I : Nat → Int} {c nt : Int} (hc : c ≤ 88000) (hn4 : nt ≤ 4) (ok : okR c nt A) (oi : okR c (I 1) I) (C : clR σ W V A I) (B : Nat → Int) (gB : gd 98000 4 B) (hB2 : B 2 = A 2) (hB0 : B 0 = A 0) (tB : trS 0 σ (364 + 5 * l) B) (hp : (p : Int) < A 0) (hqa : (q : Int) < A 0), sC mX6_findMeeting d [.ref 0, .int (iZ (p : Int)), .int (iZ (q : Int)), .int (iZ (l : Int)), .int (iZ (n : Int))] σ (fmQ W B p q l r σ) := by
  intro r
  induction r with
  | zero => intro l n p q hl hln hn d hd σ W V A I c nt hc hn4 ok oi C B gB hB2 hB0 tB hp hqa; exact x_fm0 hl (by omega) σ hc hn4 ok oi C B gB hB2 hB0 tB hp hqa
  | succ r ih => intro l n p q hl hln hn d hd σ W V A I c nt hc hn4 ok oi C B gB hB2 hB0 tB hp hqa; exact x_fmS ih hl hln hn d hd σ hc hn4 ok oi C B gB hB2 hB0 tB hp hqa
set_option maxHeartbeats 4000000 in
set_option maxRecDepth 100000 in
theorem lx_meet {d p q : Nat} (hd : 11 ≤ d) {i : Int} (hi : -1 ≤ i ∧ i ≤ 2) (σ : gS) {W V : wF} {A I : Nat → Int} {c nt : Int} (hc : c ≤ 88000) (hn4 : nt ≤ 4) (ok : okR c nt A) (oi : okR c (I 1) I) (C : clR σ W V A I) (hp : (p : Int) < A 0) (hqa : (q : Int) < A 0) : ∀ (f : Nat) (n : Nat) (σ1 : gS), n ≤ 4 → trS 0 σ1 364 A → chg scrQ σ σ1 → 4 - (n : Int) < (f : Int) → sE g_tt mX6_meet d (fun r σ' => r = some (.int (iZ (mMe W A p q i (4 - n) n))) ∧ chg scrQ σ σ') 53 [some (.ref 0), some (.int (iZ (p : Int))), some (.int (iZ (q : Int))), some (.int (iZ i)), some (.int (iZ (n : Int)))] [] σ1 := by
  intro f
  induction f with
  | zero =>
    intro n σ1 hn1 t1 s1 hf
    exact absurd hf (by omega)
  | succ f ih =>
    intro n σ1 hn1 t1 s1 hf
    have g := ok_gd hc hn4 ok
    have g0 := g.1
    have n1 := ok.2.2.1
    have a2 := ok_2 ok
    have g10 := g.2.2.2.2.1
    have gL : gd 100000 4 A := gd_mono g (by decide)
    have rk := rA_ok (w0_of C) gL a2.1 a2.2
    have C1 := clR_ch ok oi C s1
    refine q_iload dX6_meet_53 rfl ?_
    refine z_iconst dX6_meet_55 ?_
    refine z_icmp_gt (tgt := 103) dX6_meet_56 (by decide) (by unfold inR at *; omega) (by unfold inR at *; omega) (fun c_1 => ?_) (fun c_1 => ?_)
    · refine z_bipush dX6_meet_103 (by decide +kernel) ?_
      exact s_iretZ dX6_meet_105 rfl ⟨by rw [show 4 - n = 0 by omega, mMe], s1⟩
    · refine q_aload_n dX6_meet_59 rfl rfl ?_
      refine q_iload_n dX6_meet_60 rfl rfl ?_
      refine q_iload_n dX6_meet_61 rfl rfl ?_
      refine z_iconst dX6_meet_62 ?_
      refine q_iload dX6_meet_63 rfl ?_
      refine s_callV (ci := 6) (a := 0) (As := [.int (iZ (p : Int)), .int (iZ (q : Int)), .int (iZ 0), .int (iZ (n : Int))]) (S := []) dX6_meet_65 okX6_findMeeting mlX6_257 rfl (by omega) rfl (Nat.le_of_ble_eq_true rfl) (show kd 0 = 6 from rfl) (by decide) rfl (x_findMeeting n (l := 0) (n := n) (p := p) (q := q) (by omega) (by omega) (by omega) (d - 1) (by omega) σ1 hc hn4 ok oi C1 A (gd_mono g (by decide)) rfl rfl t1 hp hqa) (fun v_ σ_ hq => ?_)
      obtain ⟨hc2, hv2⟩ := hq
      rename gS => σ2
      have s2 : chg scrQ σ σ2 := chg_tr s1 (fm_scr hc2)
      rcases hv2 with ⟨rfl, hv2⟩ | ⟨rfl, c, hc0, hc1, hc2', hc3'⟩
      · show sE g_tt _ _ _ 68 [some (.ref 0), some (.int (iZ (p : Int))), some (.int (iZ (q : Int))), some (.int (iZ i)), some (.int (iZ (n : Int)))] [.int (iZ 0)] σ2
        refine z_if_eq (tgt := 97) dX6_meet_68 (by decide) (by unfold inR; omega) (fun c_30 => ?_) (fun c_30 => absurd rfl c_30)
        refine z_iinc dX6_meet_97 rfl (by decide) ?_
        show sE g_tt _ _ _ 100 [some (.ref 0), some (.int (iZ (p : Int))), some (.int (iZ (q : Int))), some (.int (iZ i)), some (.int (iZ ((n : Int) + 1)))] [] σ2
        refine q_goto (tgt := 53) dX6_meet_100 (by decide) ?_
        rw [show 4 - n = (4 - (n + 1)) + 1 by omega, mMe, if_pos (fst1_none _ _ (fun c _ y => by rw [hv2 c (by omega)]; decide))]
        exact ih (n + 1) σ2 (by omega) (trS_ch t1 hc2 (fun a x y => by unfold stkP; omega)) s2 (by omega)
      · show sE g_tt _ _ _ 68 [some (.ref 0), some (.int (iZ (p : Int))), some (.int (iZ (q : Int))), some (.int (iZ i)), some (.int (iZ (n : Int)))] [.int (iZ 1)] σ2
        refine z_if_eq (tgt := 97) dX6_meet_68 (by decide) (by unfold inR; omega) (fun c_30 => absurd c_30 (by decide)) (fun c_30 => ?_)
        refine q_iload_n dX6_meet_71 rfl rfl ?_
        refine z_iconst dX6_meet_72 ?_
        refine z_icmp_ne (tgt := 79) dX6_meet_73 (by decide) (by unfold inR at *; omega) (by unfold inR at *; omega) (fun c_1 => ?_) (fun c_1 => ?_)
        · refine q_iload_n dX6_meet_79 rfl rfl ?_
          refine q_iload dX6_meet_80 rfl ?_
          refine z_icmp_ge (tgt := 94) dX6_meet_82 (by decide) (by unfold inR at *; omega) (by unfold inR at *; omega) (fun c_2 => ?_) (fun c_2 => ?_)
          · refine z_bipush dX6_meet_94 (by decide +kernel) ?_
            exact s_iretZ dX6_meet_96 rfl ⟨by rw [show 4 - n = (4 - (n + 1)) + 1 by omega, mMe, fst1_some hc1 _ 0 (by omega) (by omega) (fun x _ z => by rw [hc2' x z]; decide), if_neg (by omega), Int.toNat_natCast]; (repeat (first | rw [if_pos (by omega)] | rw [if_neg (by omega)])), s2⟩
          · refine q_aload_n dX6_meet_85 rfl rfl ?_
            refine sg6 (kf := 7) (v := .ref 335) dX6_meet_86 flX6_52 (show kd 0 = 6 from rfl) (by decide) rfl ?_
            refine q_iload_n dX6_meet_89 rfl rfl ?_
            refine s_iald (n := 3) (x := ((hd3 c (n - 1 - i.toNat) : Nat) : Int)) dX6_meet_90 (show kd 335 = 100 + 3 from rfl) (by omega) (by omega) (by decide) (by have e := hc3' i.toNat (by omega); rw [Nat.zero_add] at e; exact e) ?_
            refine q_goto (tgt := 96) dX6_meet_91 (by decide) ?_
            exact s_iretZ dX6_meet_96 rfl ⟨by rw [show 4 - n = (4 - (n + 1)) + 1 by omega, mMe, fst1_some hc1 _ 0 (by omega) (by omega) (fun x _ z => by rw [hc2' x z]; decide), if_neg (by omega), Int.toNat_natCast]; (repeat (first | rw [if_pos (by omega)] | rw [if_neg (by omega)])), s2⟩
        · refine q_iload dX6_meet_76 rfl ?_
          exact s_iretZ dX6_meet_78 rfl ⟨by rw [show 4 - n = (4 - (n + 1)) + 1 by omega, mMe, fst1_some hc1 _ 0 (by omega) (by omega) (fun x _ z => by rw [hc2' x z]; decide), if_neg (by omega), Int.toNat_natCast]; (repeat (first | rw [if_pos (by omega)] | rw [if_neg (by omega)])), s2⟩
set_option maxHeartbeats 4000000 in
set_option maxRecDepth 100000 in
theorem x_meet {d p q : Nat} (hd : 11 ≤ d) {i : Int} (hi : -1 ≤ i ∧ i ≤ 2) (σ : gS) {W V : wF} {A I : Nat → Int} {c nt : Int} (hc : c ≤ 88000) (hn4 : nt ≤ 4) (ok : okR c nt A) (oi : okR c (I 1) I) (C : clR σ W V A I) (hp : (p : Int) < A 0) (hqa : (q : Int) < A 0) (hpq : p ≠ q) : sC mX6_meet d [.ref 0, .int (iZ (p : Int)), .int (iZ (q : Int)), .int (iZ i)] σ (fun r σ' => r = some (.int (iZ (mMe W A p q i 4 0))) ∧ chg scrQ σ σ') := by
  have g := ok_gd hc hn4 ok
  have g0 := g.1
  have n1 := ok.2.2.1
  have a2 := ok_2 ok
  have g10 := g.2.2.2.2.1
  have gL : gd 100000 4 A := gd_mono g (by decide)
  have rk := rA_ok (w0_of C) gL a2.1 a2.2
  refine sC_of rfl (Nat.le_of_ble_eq_true rfl) ?_
  show sE g_tt _ _ _ 0 [some (.ref 0), some (.int (iZ (p : Int))), some (.int (iZ (q : Int))), some (.int (iZ i)), none] [] σ
  refine q_aload_n dX6_meet_0 rfl rfl ?_
  refine q_iload_n dX6_meet_1 rfl rfl ?_
  refine s_callV (ci := 6) (a := 0) (As := [.int (iZ (p : Int))]) (S := []) dX6_meet_2 okX6_isPerson mlX6_187 rfl (by omega) rfl (Nat.le_of_ble_eq_true rfl) (show kd 0 = 6 from rfl) (by decide) rfl (x_isPerson (d := d - 1) (p := (p : Int)) (by unfold inR at *; omega) σ hc hn4 ok oi C) (fun v_ σ_ hq => ?_)
  obtain ⟨rfl, e9⟩ := hq
  have e9 := e9.symm
  subst e9
  show sE g_tt _ _ _ 5 [some (.ref 0), some (.int (iZ (p : Int))), some (.int (iZ (q : Int))), some (.int (iZ i)), none] [.int (iZ (if 0 ≤ (p : Int) ∧ (p : Int) < A 0 then 1 else 0))] σ
  refine z_if_eq (tgt := 31) dX6_meet_5 (by decide) inR_01 (fun c_1 => ?_) (fun c_1 => ?_)
  · have c_1 := if01_0 c_1
    exfalso
    omega
  · have c_1 := if01_1 c_1
    refine q_aload_n dX6_meet_8 rfl rfl ?_
    refine q_iload_n dX6_meet_9 rfl rfl ?_
    refine s_callV (ci := 6) (a := 0) (As := [.int (iZ (q : Int))]) (S := []) dX6_meet_10 okX6_isPerson mlX6_187 rfl (by omega) rfl (Nat.le_of_ble_eq_true rfl) (show kd 0 = 6 from rfl) (by decide) rfl (x_isPerson (d := d - 1) (p := (q : Int)) (by unfold inR at *; omega) σ hc hn4 ok oi C) (fun v_ σ_ hq => ?_)
    obtain ⟨rfl, e9⟩ := hq
    have e9 := e9.symm
    subst e9
    show sE g_tt _ _ _ 13 [some (.ref 0), some (.int (iZ (p : Int))), some (.int (iZ (q : Int))), some (.int (iZ i)), none] [.int (iZ (if 0 ≤ (q : Int) ∧ (q : Int) < A 0 then 1 else 0))] σ
    refine z_if_eq (tgt := 31) dX6_meet_13 (by decide) inR_01 (fun c_2 => ?_) (fun c_2 => ?_)
    · have c_2 := if01_0 c_2
      exfalso
      omega
    · have c_2 := if01_1 c_2
      refine q_iload_n dX6_meet_16 rfl rfl ?_
      refine q_iload_n dX6_meet_17 rfl rfl ?_
      refine z_icmp_eq (tgt := 31) dX6_meet_18 (by decide) (by unfold inR at *; omega) (by unfold inR at *; omega) (fun c_3 => ?_) (fun c_3 => ?_)
      · exfalso
        omega
      · refine q_iload_n dX6_meet_21 rfl rfl ?_
        refine z_iconst dX6_meet_22 ?_
        refine z_icmp_lt (tgt := 31) dX6_meet_23 (by decide) (by unfold inR at *; omega) (by unfold inR at *; omega) (fun c_4 => ?_) (fun c_4 => ?_)
        · exfalso
          omega
        · refine q_iload_n dX6_meet_26 rfl rfl ?_
          refine z_iconst dX6_meet_27 ?_
          refine z_icmp_lt (tgt := 34) dX6_meet_28 (by decide) (by unfold inR at *; omega) (by unfold inR at *; omega) (fun c_5 => ?_) (fun c_5 => ?_)
          · refine q_aload_n dX6_meet_34 rfl rfl ?_
            refine sg6 (kf := 6) (v := .ref 334) dX6_meet_35 flX6_48 (show kd 0 = 6 from rfl) (by decide) rfl ?_
            refine z_iconst dX6_meet_38 ?_
            refine s_aaldS (n := 4) (x := 364) dX6_meet_39 (show kd 334 = 300000 + 4 from rfl) (by omega) (by omega) (by decide) (C.2.2.2.2 0 (by omega)) ?_
            refine q_aload_n dX6_meet_40 rfl rfl ?_
            refine sg6 (kf := 0) (v := .ref 1) dX6_meet_41 flX6_10 (show kd 0 = 6 from rfl) (by decide) rfl ?_
            refine sg5 (kf := 0) (v := .ref 2) dX6_meet_44 flX6_72 (show kd 1 = 5 from rfl) (by decide) rfl ?_
            refine s_callV (ci := 2) (a := 364) (As := [.ref 2]) (S := []) dX6_meet_47 okX2_take mlX6_218 rfl (by omega) rfl (Nat.le_of_ble_eq_true rfl) (show kd 364 = 2 from rfl) (by decide) rfl (t_take (d := d - 1) (s := 364) (o := 2) (by omega) rfl σ rfl (by decide)) (fun v_ σ_ hq => ?_)
            obtain ⟨rfl, hc1, ht1⟩ := hq
            rename gS => σ1
            have s1 : chg scrQ σ σ1 := chg_mono hc1 (fun a q => scr5 (by omega) q)
            have C1 := clR_ch ok oi C s1
            have t1 : trS 0 σ1 364 A := trS_off (ht1 1 A g0.2 (fun _ => ok.1.2.2.2.2.1.2) C.1.1)
            show sE g_tt _ _ _ 50 [some (.ref 0), some (.int (iZ (p : Int))), some (.int (iZ (q : Int))), some (.int (iZ i)), none] [] σ1
            refine z_iconst dX6_meet_50 ?_
            refine q_istore dX6_meet_51 (by decide) ?_
            show sE g_tt _ _ _ 53 [some (.ref 0), some (.int (iZ (p : Int))), some (.int (iZ (q : Int))), some (.int (iZ i)), some (.int (iZ 0))] [] σ1
            exact lx_meet hd hi σ hc hn4 ok oi C hp hqa 5 0 σ1 (by omega) t1 s1 (by omega)
          · exfalso
            omega
set_option maxHeartbeats 4000000 in
set_option maxRecDepth 100000 in
theorem x_meet0 {d : Nat} (hd : 1 ≤ d) {p q i : Int} (hp : inR p) (hqq : inR q) (hi : inR i) (σ : gS) {W V : wF} {A I : Nat → Int} {c nt : Int} (hc : c ≤ 88000) (hn4 : nt ≤ 4) (ok : okR c nt A) (oi : okR c (I 1) I) (C : clR σ W V A I) (hno : ¬ ((0 ≤ p ∧ p < A 0) ∧ (0 ≤ q ∧ q < A 0) ∧ p ≠ q ∧ (-1 ≤ i ∧ i ≤ 2))) : sC mX6_meet d [.ref 0, .int (iZ p), .int (iZ q), .int (iZ i)] σ (fun r σ' => r = some (.int (iZ (-2))) ∧ σ' = σ) := by
  have g := ok_gd hc hn4 ok
  have g0 := g.1
  refine sC_of rfl (Nat.le_of_ble_eq_true rfl) ?_
  show sE g_tt _ _ _ 0 [some (.ref 0), some (.int (iZ p)), some (.int (iZ q)), some (.int (iZ i)), none] [] σ
  refine q_aload_n dX6_meet_0 rfl rfl ?_
  refine q_iload_n dX6_meet_1 rfl rfl ?_
  refine s_callV (ci := 6) (a := 0) (As := [.int (iZ p)]) (S := []) dX6_meet_2 okX6_isPerson mlX6_187 rfl (by omega) rfl (Nat.le_of_ble_eq_true rfl) (show kd 0 = 6 from rfl) (by decide) rfl (x_isPerson (d := d - 1) (p := p) (by unfold inR at *; omega) σ hc hn4 ok oi C) (fun v_ σ_ hq => ?_)
  obtain ⟨rfl, e9⟩ := hq
  have e9 := e9.symm
  subst e9
  show sE g_tt _ _ _ 5 [some (.ref 0), some (.int (iZ p)), some (.int (iZ q)), some (.int (iZ i)), none] [.int (iZ (if 0 ≤ p ∧ p < A 0 then 1 else 0))] σ
  refine z_if_eq (tgt := 31) dX6_meet_5 (by decide) inR_01 (fun c_1 => ?_) (fun c_1 => ?_)
  · have c_1 := if01_0 c_1
    refine z_bipush dX6_meet_31 (by decide +kernel) ?_
    exact s_iretZ dX6_meet_33 rfl ⟨rfl, rfl⟩
  · have c_1 := if01_1 c_1
    refine q_aload_n dX6_meet_8 rfl rfl ?_
    refine q_iload_n dX6_meet_9 rfl rfl ?_
    refine s_callV (ci := 6) (a := 0) (As := [.int (iZ q)]) (S := []) dX6_meet_10 okX6_isPerson mlX6_187 rfl (by omega) rfl (Nat.le_of_ble_eq_true rfl) (show kd 0 = 6 from rfl) (by decide) rfl (x_isPerson (d := d - 1) (p := q) (by unfold inR at *; omega) σ hc hn4 ok oi C) (fun v_ σ_ hq => ?_)
    obtain ⟨rfl, e9⟩ := hq
    have e9 := e9.symm
    subst e9
    show sE g_tt _ _ _ 13 [some (.ref 0), some (.int (iZ p)), some (.int (iZ q)), some (.int (iZ i)), none] [.int (iZ (if 0 ≤ q ∧ q < A 0 then 1 else 0))] σ
    refine z_if_eq (tgt := 31) dX6_meet_13 (by decide) inR_01 (fun c_2 => ?_) (fun c_2 => ?_)
    · have c_2 := if01_0 c_2
      refine z_bipush dX6_meet_31 (by decide +kernel) ?_
      exact s_iretZ dX6_meet_33 rfl ⟨rfl, rfl⟩
    · have c_2 := if01_1 c_2
      refine q_iload_n dX6_meet_16 rfl rfl ?_
      refine q_iload_n dX6_meet_17 rfl rfl ?_
      refine z_icmp_eq (tgt := 31) dX6_meet_18 (by decide) (by unfold inR at *; omega) (by unfold inR at *; omega) (fun c_3 => ?_) (fun c_3 => ?_)
      · refine z_bipush dX6_meet_31 (by decide +kernel) ?_
        exact s_iretZ dX6_meet_33 rfl ⟨rfl, rfl⟩
      · refine q_iload_n dX6_meet_21 rfl rfl ?_
        refine z_iconst dX6_meet_22 ?_
        refine z_icmp_lt (tgt := 31) dX6_meet_23 (by decide) (by unfold inR at *; omega) (by unfold inR at *; omega) (fun c_4 => ?_) (fun c_4 => ?_)
        · refine z_bipush dX6_meet_31 (by decide +kernel) ?_
          exact s_iretZ dX6_meet_33 rfl ⟨rfl, rfl⟩
        · refine q_iload_n dX6_meet_26 rfl rfl ?_
          refine z_iconst dX6_meet_27 ?_
          refine z_icmp_lt (tgt := 34) dX6_meet_28 (by decide) (by unfold inR at *; omega) (by unfold inR at *; omega) (fun c_5 => ?_) (fun c_5 => ?_)
          · exfalso
            omega
          · refine z_bipush dX6_meet_31 (by decide +kernel) ?_
            exact s_iretZ dX6_meet_33 rfl ⟨rfl, rfl⟩
