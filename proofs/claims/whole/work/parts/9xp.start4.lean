/-! ===== the constructor of ThankedMoves ===== -/
def tTr (i : Nat) : va_E := .inl (4, 4, .inr (.inr (.inr (.inr (fun j => if j < i then some (340 + 6 * j) else none)))))
def lTr (i : Nat) : va_E := .inl (3, 4, .inr (.inr (.inr (.inr (fun j => if j < i then some (364 + 5 * j) else none)))))
abbrev gX (i l : Nat) : Nat → va_E := va_up (va_up F0c 321 (tTr i)) 334 (lTr l)
theorem tTr_0 : tTr 0 = .inl (4, 4, .inr (.inr (.inr (.inr (fun _ => none))))) := by
  unfold tTr
  have e : (fun j => if j < 0 then some (340 + 6 * j) else none) = fun _ => none := by funext j; rw [if_neg (by omega)]
  rw [e]
theorem lTr_0 : lTr 0 = .inl (3, 4, .inr (.inr (.inr (.inr (fun _ => none))))) := by
  unfold lTr
  have e : (fun j => if j < 0 then some (364 + 5 * j) else none) = fun _ => none := by funext j; rw [if_neg (by omega)]
  rw [e]
theorem tTr_s (i : Nat) : va_up (fun j => if j < i then some (340 + 6 * j) else none) i (some (340 + 6 * i)) = fun j => if j < i + 1 then some (340 + 6 * j) else none := by
  funext j
  by_cases e : j = i
  · rw [e, va_up_self, if_pos (by omega)]
  · rw [va_up_ne _ _ e]
    by_cases q : j < i
    · rw [if_pos q, if_pos (by omega)]
    · rw [if_neg q, if_neg (by omega)]
theorem lTr_s (i : Nat) : va_up (fun j => if j < i then some (364 + 5 * j) else none) i (some (364 + 5 * i)) = fun j => if j < i + 1 then some (364 + 5 * j) else none := by
  funext j
  by_cases e : j = i
  · rw [e, va_up_self, if_pos (by omega)]
  · rw [va_up_ne _ _ e]
    by_cases q : j < i
    · rw [if_pos q, if_pos (by omega)]
    · rw [if_neg q, if_neg (by omega)]
theorem F0_tTr : F0c 321 = tTr 4 := by
  unfold F0c tTr
  rw [hE_rT σ0 (show kd 321 = 400000 + 4 from rfl) (by decide)]
  rfl
theorem F0_lTr : F0c 334 = lTr 4 := by
  unfold F0c lTr
  rw [hE_rS σ0 (show kd 334 = 300000 + 4 from rfl) (by decide)]
  rfl
theorem F0_6 : F0c 0 = .inr (6, [.ref 1, .ref 161, .ref 321, .ref 322, .ref 328, .ref 333, .ref 334, .ref 335, .ref 336, .ref 337]) := by
  rw [F0_o (show kd 0 = 6 from rfl) (by decide)]
  rfl
theorem F0_3 : F0c 328 = .inr (3, [.ref (328 + 1), .int (iZ 0), .ref (328 + 2), .ref (328 + 3), .ref (328 + 4), .int (iZ 0), .int (iZ 0)]) := by
  rw [F0_o (show kd 328 = 3 from rfl) (by decide)]
  rfl
theorem F0_1 : F0c 333 = .inr (1, [.int (iZ (-1)), .int (iZ (-1)), .ref 328, .ref 322, .int (iZ 0), .int (iZ 0), .int (iZ 39)]) := by
  rw [F0_o (show kd 333 = 1 from rfl) (by decide)]
  rfl
theorem F0_0 : F0c 337 = .inr (0, [.ref (337 + 1), .int (iZ 0), .int (iZ (-1)), .ref (337 + 2), .int (iZ 0)]) := by
  rw [F0_o (show kd 337 = 0 from rfl) (by decide)]
  rfl
theorem F0_336 : F0c 336 = .inl (1, 101, .inr (.inl (fun _ => 0))) := by
  unfold F0c
  rw [hE_rj σ0 (show kd 336 = 100000 + 101 from rfl) (by decide)]
  rfl
theorem ce_tTr {i n : Nat} (h : 340 + 6 * i ≤ n) : g_ce n (tTr i) := by
  intro j a e
  have e : (if j < i then some (340 + 6 * j) else none) = some a := e
  by_cases q : j < i
  · rw [if_pos q] at e
    have := Option.some.inj e
    omega
  · rw [if_neg q] at e
    cases e
theorem ce_lTr {i n : Nat} (h : 364 + 5 * i ≤ n) : g_ce n (lTr i) := by
  intro j a e
  have e : (if j < i then some (364 + 5 * j) else none) = some a := e
  by_cases q : j < i
  · rw [if_pos q] at e
    have := Option.some.inj e
    omega
  · rw [if_neg q] at e
    cases e
theorem ce_null {n ci : Nat} {fs : List Value} (h : fs.all (fun v => match v with | .ref _ => false | _ => true) = true) : g_ce n (.inr (ci, fs)) := by
  intro v hv
  have := List.all_eq_true.1 h v hv
  cases v with
  | ref a => cases this
  | _ => trivial
/-- a cell put in place of another, closed -/
theorem cls_ov {g : Nat → va_E} {n z a : Nat} {x : va_E} (K : cls (g, n, z)) (h : g_ce n x) : cls (va_up g a x, n, z) := by
  intro i hi
  show g_ce n (va_up g a x i)
  by_cases e : i = a
  · rw [e, va_up_self]; exact h
  · rw [va_up_ne _ _ e]; exact K i hi
set_option maxHeartbeats 4000000 in
set_option maxRecDepth 100000 in
theorem lp_lev {d : Nat} (hd : 3 ≤ d) : ∀ (m i : Nat), i ≤ 4 → 4 - i < m → cls (va_up (gX 4 i) 0 (.inr (6, [.ref 1, .ref 161, .ref 321, .ref 322, .ref 328, .ref 333, .ref 334, .ref 335, .ref 336, .ref 337])), 364 + 5 * i, 7632 + 63 * i) → gE g_tt mX6_init d (1, 10, 384, 7884) (fun v h' => v = none ∧ h' = (F0c, 384, 7884) ∧ cls h') 141 [some (.ref 0), some (.int (iZ (i : Int)))] [] (va_up (gX 4 i) 0 (.inr (6, [.ref 1, .ref 161, .ref 321, .ref 322, .ref 328, .ref 333, .ref 334, .ref 335, .ref 336, .ref 337])), 364 + 5 * i, 7632 + 63 * i) := by
  intro m
  induction m with
  | zero => intro i a b; exact absurd b (by omega)
  | succ m ih =>
    intro i a b K
    have at0 : va_up (gX 4 i) 0 (.inr (6, [.ref 1, .ref 161, .ref 321, .ref 322, .ref 328, .ref 333, .ref 334, .ref 335, .ref 336, .ref 337])) 0 = .inr (6, [.ref 1, .ref 161, .ref 321, .ref 322, .ref 328, .ref 333, .ref 334, .ref 335, .ref 336, .ref 337]) := va_up_self _ _ _
    have at2 : va_up (gX 4 i) 0 (.inr (6, [.ref 1, .ref 161, .ref 321, .ref 322, .ref 328, .ref 333, .ref 334, .ref 335, .ref 336, .ref 337])) 334 = lTr i := (va_up_ne _ _ (by decide)).trans (va_up_self _ _ _)
    refine q_iload_n dX6_init_141 rfl rfl ?_
    refine q_aload_n dX6_init_142 rfl rfl ?_
    refine q_get (C := RX6) (T := TX6) (N := 10) (ci := 6) (kf := 6) (fs := [.ref 1, .ref 161, .ref 321, .ref 322, .ref 328, .ref 333, .ref 334, .ref 335, .ref 336, .ref 337]) (v := .ref 334) dX6_init_143 flX6_48 uwX6 rfl (by decide) (by show 0 < 364 + 5 * i; omega) at0 rfl ?_
    refine q_alen (t := 3) (n := 4) (v := iZ 4) dX6_init_146 (by decide) (by show 334 < 364 + 5 * i; omega) at2 (show Int32.ofNat 4 = iZ 4 by decide +kernel) ?_
    refine z_icmp_ge (tgt := 169) dX6_init_147 (by decide) (by unfold inR; omega) (by unfold inR; omega) (fun c => ?_) (fun c => ?_)
    · have e : i = 4 := by omega
      subst e
      refine q_vret dX6_init_169 rfl ⟨rfl, rfl⟩ ⟨rfl, ?_, K⟩
      have e1 : va_up F0c 321 (tTr 4) = F0c := va_same F0_tTr
      have e2 : va_up F0c 334 (lTr 4) = F0c := va_same F0_lTr
      show (va_up (va_up (va_up F0c 321 (tTr 4)) 334 (lTr 4)) 0 _, _, _) = _
      rw [e1, e2, va_same F0_6]
    · refine q_aload_n dX6_init_150 rfl rfl ?_
      refine q_get (C := RX6) (T := TX6) (N := 10) (ci := 6) (kf := 6) (fs := [.ref 1, .ref 161, .ref 321, .ref 322, .ref 328, .ref 333, .ref 334, .ref 335, .ref 336, .ref 337]) (v := .ref 334) dX6_init_151 flX6_48 uwX6 rfl (by decide) (by show 0 < 364 + 5 * i; omega) at0 rfl ?_
      refine q_iload_n dX6_init_154 rfl rfl ?_
      have ks : kd (364 + 5 * i) = 2 := by
        have q : ∀ i, i < 4 → kd (364 + 5 * i) = 2 := by decide +kernel
        exact q i (by omega)
      refine q_new (C := RX2) (T := TX2) (N := 12) (ci := 2) (fs := d2) dX6_init_155 clX6_46 niX2 inRX2 uwX2 tyX2 tyX2_ok rfl ty_d2 (fun _ => rfl) ce_d2 (by show 364 + 5 * i < 1000000; omega) (by show 364 + 5 * i + 1 ≤ 384 ∧ 7632 + 63 * i + 12 ≤ 7884; omega) K (lt2s trivial (Or.inl (show (334 : Nat) < 364 + 5 * i by omega))) (lt2 (a := 0) (b := 0) (Or.inl (show (0 : Nat) < 364 + 5 * i by omega)) trivial) tt_Y ?_
      refine q_dup dX6_init_158 rfl ?_
      have K1 : cls (va_up (va_up (gX 4 i) 0 (.inr (6, [.ref 1, .ref 161, .ref 321, .ref 322, .ref 328, .ref 333, .ref 334, .ref 335, .ref 336, .ref 337]))) (364 + 5 * i) (.inr (2, d2)), 364 + 5 * i + 1, 7632 + 63 * i + 12) := cls_newx K ce_d2
      have hgs : ∀ a, 364 + 5 * i ≤ a → a < 364 + 5 * i + 5 → va_up (gX 4 i) 0 (.inr (6, [.ref 1, .ref 161, .ref 321, .ref 322, .ref 328, .ref 333, .ref 334, .ref 335, .ref 336, .ref 337])) a = F0c a := fun a x y => (va_up_ne _ _ (by omega)).trans ((va_up_ne _ _ (by omega)).trans (va_up_ne _ _ (by omega)))
      refine q_callIN (h := (va_up (va_up (gX 4 i) 0 (.inr (6, [.ref 1, .ref 161, .ref 321, .ref 322, .ref 328, .ref 333, .ref 334, .ref 335, .ref 336, .ref 337]))) (364 + 5 * i) (.inr (2, d2)), 364 + 5 * i + 1, 7632 + 63 * i + 12)) (M' := mX2_init) (d' := d - 1) (a := 364 + 5 * i) (As := []) (S := [.ref (364 + 5 * i), .int (iZ (i : Int)), .ref 334]) (B1 := 364 + 5 * i + 5) (B2 := 7632 + 63 * i + 12 + 51) (host := RX6) dX6_init_159 okX2_init (by decide +kernel) rfl (by omega) rfl (Nat.le_of_ble_eq_true rfl) ⟨by show 364 + 5 * i + 1 ≤ _; omega, by show 7632 + 63 * i + 12 ≤ _; omega, by show _ ≤ 384; omega, by show _ ≤ 7884; omega⟩ (lt3 (Or.inl (show (364 + 5 * i : Nat) < 364 + 5 * i + 1 by omega)) trivial (Or.inl (show (334 : Nat) < 364 + 5 * i + 1 by omega))) (lt2 (a := 0) (b := 0) (Or.inl (show (0 : Nat) < 364 + 5 * i + 1 by omega)) trivial) tt_Y (k_st (by omega) ks hgs K1) (fun v h' hq e1 e2 => ?_)
      obtain ⟨rfl, rfl⟩ := hq
      show gE g_tt _ _ _ _ 162 _ [.ref (364 + 5 * i), .int (iZ (i : Int)), .ref 334] _
      refine q_aast (t := 3) (C := RX2) (T := TX2) (N := 12) (ci := 2) (n := 4) (f := fun j => if j < i then some (364 + 5 * j) else none) dX6_init_162 (Or.inl ⟨rfl, rfl⟩) rfl (by show 334 < 364 + 5 * i + 5; omega) at2 (by show 364 + 5 * i < 364 + 5 * i + 5; omega) ((hgs _ (by omega) (by omega)).trans (F0_2 ks)) (iZ_in (by omega) (by omega) (by decide)) ?_
      have e : g_put (va_up (gX 4 i) 0 (.inr (6, [.ref 1, .ref 161, .ref 321, .ref 322, .ref 328, .ref 333, .ref 334, .ref 335, .ref 336, .ref 337])), 364 + 5 * i + 5, 7632 + 63 * i + 12 + 51) 334 (.inl (3, 4, .inr (.inr (.inr (.inr (va_up (fun j => if j < i then some (364 + 5 * j) else none) (iZ (i : Int)).toNatClampNeg (some (364 + 5 * i)))))))) = (va_up (gX 4 (i + 1)) 0 (.inr (6, [.ref 1, .ref 161, .ref 321, .ref 322, .ref 328, .ref 333, .ref 334, .ref 335, .ref 336, .ref 337])), 364 + 5 * (i + 1), 7632 + 63 * (i + 1)) := by
        unfold g_put
        rw [iZ_clamp (z := (i : Int)) ⟨by omega, by omega⟩, Int.toNat_natCast, lTr_s]
        show (va_up (va_up (va_up (va_up F0c 321 (tTr 4)) 334 (lTr i)) 0 _) 334 _, _, _) = _
        rw [va_cm (a := 0) (by decide), bx_uu, show 364 + 5 * i + 5 = 364 + 5 * (i + 1) by omega, show 7632 + 63 * i + 12 + 51 = 7632 + 63 * (i + 1) by omega]
        rfl
      rw [e]
      have K2 : cls (va_up (gX 4 (i + 1)) 0 (.inr (6, [.ref 1, .ref 161, .ref 321, .ref 322, .ref 328, .ref 333, .ref 334, .ref 335, .ref 336, .ref 337])), 364 + 5 * (i + 1), 7632 + 63 * (i + 1)) := by
        have Kb : cls (va_up (gX 4 i) 0 (.inr (6, [.ref 1, .ref 161, .ref 321, .ref 322, .ref 328, .ref 333, .ref 334, .ref 335, .ref 336, .ref 337])), 364 + 5 * (i + 1), 7632 + 63 * (i + 1)) := cls_blk K (fun j x y => by
          have k := ce_2 ks hgs j x (by omega)
          rw [show 364 + 5 * i + 5 = 364 + 5 * (i + 1) by omega] at k
          exact k) (by omega)
        have Kc := cls_ov (a := 334) (x := lTr (i + 1)) Kb (ce_lTr (by omega))
        have e3 : va_up (va_up (gX 4 i) 0 (.inr (6, [.ref 1, .ref 161, .ref 321, .ref 322, .ref 328, .ref 333, .ref 334, .ref 335, .ref 336, .ref 337]))) 334 (lTr (i + 1)) = va_up (gX 4 (i + 1)) 0 (.inr (6, [.ref 1, .ref 161, .ref 321, .ref 322, .ref 328, .ref 333, .ref 334, .ref 335, .ref 336, .ref 337])) := by
          show va_up (va_up (va_up (va_up F0c 321 (tTr 4)) 334 (lTr i)) 0 _) 334 _ = _
          rw [va_cm (a := 0) (by decide), bx_uu]
        rw [e3] at Kc
        exact Kc
      refine z_iinc dX6_init_163 rfl (by decide) ?_
      show gE g_tt _ _ _ _ 166 [some (.ref 0), some (.int (iZ ((i : Int) + 1)))] [] _
      refine q_goto (tgt := 141) dX6_init_166 (by decide) ?_
      have q := ih (i + 1) (by omega) (by omega) K2
      rw [show ((i + 1 : Nat) : Int) = (i : Int) + 1 by omega] at q
      exact q
set_option maxHeartbeats 4000000 in
set_option maxRecDepth 100000 in
theorem lp_txs {d : Nat} (hd : 3 ≤ d) : ∀ (m i : Nat), i ≤ 4 → 4 - i < m → cls (va_up (gX i 0) 0 (.inr (6, [.ref 1, .ref 161, .ref 321, .ref 322, .ref 328, .ref 333, .ref 334, .ref 335, .ref 336, .ref 337])), 340 + 6 * i, 5840 + 448 * i) → gE g_tt mX6_init d (1, 10, 384, 7884) (fun v h' => v = none ∧ h' = (F0c, 384, 7884) ∧ cls h') 111 [some (.ref 0), some (.int (iZ (i : Int)))] [] (va_up (gX i 0) 0 (.inr (6, [.ref 1, .ref 161, .ref 321, .ref 322, .ref 328, .ref 333, .ref 334, .ref 335, .ref 336, .ref 337])), 340 + 6 * i, 5840 + 448 * i) := by
  intro m
  induction m with
  | zero => intro i a b; exact absurd b (by omega)
  | succ m ih =>
    intro i a b K
    have at0 : va_up (gX i 0) 0 (.inr (6, [.ref 1, .ref 161, .ref 321, .ref 322, .ref 328, .ref 333, .ref 334, .ref 335, .ref 336, .ref 337])) 0 = .inr (6, [.ref 1, .ref 161, .ref 321, .ref 322, .ref 328, .ref 333, .ref 334, .ref 335, .ref 336, .ref 337]) := va_up_self _ _ _
    have at1 : va_up (gX i 0) 0 (.inr (6, [.ref 1, .ref 161, .ref 321, .ref 322, .ref 328, .ref 333, .ref 334, .ref 335, .ref 336, .ref 337])) 321 = tTr i := (va_up_ne _ _ (by decide)).trans ((va_up_ne _ _ (by decide)).trans (va_up_self _ _ _))
    refine q_iload_n dX6_init_111 rfl rfl ?_
    refine q_aload_n dX6_init_112 rfl rfl ?_
    refine q_get (C := RX6) (T := TX6) (N := 10) (ci := 6) (kf := 2) (fs := [.ref 1, .ref 161, .ref 321, .ref 322, .ref 328, .ref 333, .ref 334, .ref 335, .ref 336, .ref 337]) (v := .ref 321) dX6_init_113 flX6_21 uwX6 rfl (by decide) (by show 0 < 340 + 6 * i; omega) at0 rfl ?_
    refine q_alen (t := 4) (n := 4) (v := iZ 4) dX6_init_116 (by decide) (by show 321 < 340 + 6 * i; omega) at1 (show Int32.ofNat 4 = iZ 4 by decide +kernel) ?_
    refine z_icmp_ge (tgt := 139) dX6_init_117 (by decide) (by unfold inR; omega) (by unfold inR; omega) (fun c => ?_) (fun c => ?_)
    · have e : i = 4 := by omega
      subst e
      refine z_iconst dX6_init_139 ?_
      refine q_istore_n dX6_init_140 rfl (by decide) ?_
      exact lp_lev hd 5 0 (by omega) (by omega) K
    · refine q_aload_n dX6_init_120 rfl rfl ?_
      refine q_get (C := RX6) (T := TX6) (N := 10) (ci := 6) (kf := 2) (fs := [.ref 1, .ref 161, .ref 321, .ref 322, .ref 328, .ref 333, .ref 334, .ref 335, .ref 336, .ref 337]) (v := .ref 321) dX6_init_121 flX6_21 uwX6 rfl (by decide) (by show 0 < 340 + 6 * i; omega) at0 rfl ?_
      refine q_iload_n dX6_init_124 rfl rfl ?_
      have ks : kd (340 + 6 * i) = 4 := kd_sl (by omega)
      refine q_new (C := RX4) (T := TX4) (N := 12) (ci := 4) (fs := d4) dX6_init_125 clX6_19 niX4 inRX4 uwX4 tyX4 tyX4_ok rfl ty_d4 (fun _ => rfl) ce_d4 (by show 340 + 6 * i < 1000000; omega) (by show 340 + 6 * i + 1 ≤ 384 ∧ 5840 + 448 * i + 12 ≤ 7884; omega) K (lt2s trivial (Or.inl (show (321 : Nat) < 340 + 6 * i by omega))) (lt2 (a := 0) (b := 0) (Or.inl (show (0 : Nat) < 340 + 6 * i by omega)) trivial) tt_Y ?_
      refine q_dup dX6_init_128 rfl ?_
      have K1 : cls (va_up (va_up (gX i 0) 0 (.inr (6, [.ref 1, .ref 161, .ref 321, .ref 322, .ref 328, .ref 333, .ref 334, .ref 335, .ref 336, .ref 337]))) (340 + 6 * i) (.inr (4, d4)), 340 + 6 * i + 1, 5840 + 448 * i + 12) := cls_newx K ce_d4
      have hgs : ∀ a, 340 + 6 * i ≤ a → a < 340 + 6 * i + 6 → va_up (gX i 0) 0 (.inr (6, [.ref 1, .ref 161, .ref 321, .ref 322, .ref 328, .ref 333, .ref 334, .ref 335, .ref 336, .ref 337])) a = F0c a := fun a x y => (va_up_ne _ _ (by omega)).trans ((va_up_ne _ _ (by omega)).trans (va_up_ne _ _ (by omega)))
      refine q_callIN (h := (va_up (va_up (gX i 0) 0 (.inr (6, [.ref 1, .ref 161, .ref 321, .ref 322, .ref 328, .ref 333, .ref 334, .ref 335, .ref 336, .ref 337]))) (340 + 6 * i) (.inr (4, d4)), 340 + 6 * i + 1, 5840 + 448 * i + 12)) (M' := mX4_init) (d' := d - 1) (a := 340 + 6 * i) (As := []) (S := [.ref (340 + 6 * i), .int (iZ (i : Int)), .ref 321]) (B1 := 340 + 6 * i + 6) (B2 := 5840 + 448 * i + 12 + 436) (host := RX6) dX6_init_129 okX4_init (by decide +kernel) rfl (by omega) rfl (Nat.le_of_ble_eq_true rfl) ⟨by show 340 + 6 * i + 1 ≤ _; omega, by show 5840 + 448 * i + 12 ≤ _; omega, by show _ ≤ 384; omega, by show _ ≤ 7884; omega⟩ (lt3 (Or.inl (show (340 + 6 * i : Nat) < 340 + 6 * i + 1 by omega)) trivial (Or.inl (show (321 : Nat) < 340 + 6 * i + 1 by omega))) (lt2 (a := 0) (b := 0) (Or.inl (show (0 : Nat) < 340 + 6 * i + 1 by omega)) trivial) tt_Y (k_tx (by omega) ks hgs K1) (fun v h' hq e1 e2 => ?_)
      obtain ⟨rfl, rfl⟩ := hq
      show gE g_tt _ _ _ _ 132 _ [.ref (340 + 6 * i), .int (iZ (i : Int)), .ref 321] _
      refine q_aast (t := 4) (C := RX4) (T := TX4) (N := 12) (ci := 4) (n := 4) (f := fun j => if j < i then some (340 + 6 * j) else none) dX6_init_132 (Or.inr ⟨rfl, rfl⟩) rfl (by show 321 < 340 + 6 * i + 6; omega) at1 (by show 340 + 6 * i < 340 + 6 * i + 6; omega) ((hgs _ (by omega) (by omega)).trans (F0_4 ks)) (iZ_in (by omega) (by omega) (by decide)) ?_
      have e : g_put (va_up (gX i 0) 0 (.inr (6, [.ref 1, .ref 161, .ref 321, .ref 322, .ref 328, .ref 333, .ref 334, .ref 335, .ref 336, .ref 337])), 340 + 6 * i + 6, 5840 + 448 * i + 12 + 436) 321 (.inl (4, 4, .inr (.inr (.inr (.inr (va_up (fun j => if j < i then some (340 + 6 * j) else none) (iZ (i : Int)).toNatClampNeg (some (340 + 6 * i)))))))) = (va_up (gX (i + 1) 0) 0 (.inr (6, [.ref 1, .ref 161, .ref 321, .ref 322, .ref 328, .ref 333, .ref 334, .ref 335, .ref 336, .ref 337])), 340 + 6 * (i + 1), 5840 + 448 * (i + 1)) := by
        unfold g_put
        rw [iZ_clamp (z := (i : Int)) ⟨by omega, by omega⟩, Int.toNat_natCast, tTr_s]
        show (va_up (va_up (va_up (va_up F0c 321 (tTr i)) 334 (lTr 0)) 0 _) 321 _, _, _) = _
        rw [va_cm (a := 0) (by decide), va_cm (a := 334) (by decide), bx_uu, show 340 + 6 * i + 6 = 340 + 6 * (i + 1) by omega, show 5840 + 448 * i + 12 + 436 = 5840 + 448 * (i + 1) by omega]
        rfl
      rw [e]
      have K2 : cls (va_up (gX (i + 1) 0) 0 (.inr (6, [.ref 1, .ref 161, .ref 321, .ref 322, .ref 328, .ref 333, .ref 334, .ref 335, .ref 336, .ref 337])), 340 + 6 * (i + 1), 5840 + 448 * (i + 1)) := by
        have Kb : cls (va_up (gX i 0) 0 (.inr (6, [.ref 1, .ref 161, .ref 321, .ref 322, .ref 328, .ref 333, .ref 334, .ref 335, .ref 336, .ref 337])), 340 + 6 * (i + 1), 5840 + 448 * (i + 1)) := cls_blk K (fun j x y => by
          have k := ce_4 ks hgs j x (by omega)
          rw [show 340 + 6 * i + 6 = 340 + 6 * (i + 1) by omega] at k
          exact k) (by omega)
        have Kc := cls_ov (a := 321) (x := tTr (i + 1)) Kb (ce_tTr (by omega))
        have e3 : va_up (va_up (gX i 0) 0 (.inr (6, [.ref 1, .ref 161, .ref 321, .ref 322, .ref 328, .ref 333, .ref 334, .ref 335, .ref 336, .ref 337]))) 321 (tTr (i + 1)) = va_up (gX (i + 1) 0) 0 (.inr (6, [.ref 1, .ref 161, .ref 321, .ref 322, .ref 328, .ref 333, .ref 334, .ref 335, .ref 336, .ref 337])) := by
          show va_up (va_up (va_up (va_up F0c 321 (tTr i)) 334 (lTr 0)) 0 _) 321 _ = _
          rw [va_cm (a := 0) (by decide), va_cm (a := 334) (by decide), bx_uu]
        rw [e3] at Kc
        exact Kc
      refine z_iinc dX6_init_133 rfl (by decide) ?_
      show gE g_tt _ _ _ _ 136 [some (.ref 0), some (.int (iZ ((i : Int) + 1)))] [] _
      refine q_goto (tgt := 111) dX6_init_136 (by decide) ?_
      have q := ih (i + 1) (by omega) (by omega) K2
      rw [show ((i + 1 : Nat) : Int) = (i : Int) + 1 by omega] at q
      exact q
