/-! ===== the class's reader: its state, small methods ===== -/
def rdP (x a : Nat) : Prop := a = 333 ∨ a = x ∨ a = x + 1
/-- fault, place, token, length of the code, looks far, code -/
abbrev rB : Type := Int × Int × Nat × Nat × Int × (Nat → Int)
/-- what stays: the tape (n tokens and the end), the text at x -/
def rdK (σ : gS) (x n : Nat) (tk st nu : Nat → Int) : Prop := kd x = 4 ∧ σ.1 328 5 = (n : Int) + 1 ∧ n ≤ 300 ∧ tk n = 39 ∧ ∀ i, i ≤ n → σ.2.1 330 i = tk i ∧ σ.2.1 331 i = st i ∧ σ.2.1 332 i = nu i ∧ (0 ≤ nu i ∧ nu i ≤ 10000) ∧ (0 ≤ st i ∧ st i ≤ 300) ∧ 0 ≤ tk i ∧ tk i ≤ 40
/-- the reader under way -/
def rdR (σ : gS) (x : Nat) (tk : Nat → Int) (so : Int) (σ1 : gS) (B : rB) : Prop := chg (rdP x) σ σ1 ∧ σ1.2.2.2.2 333 2 = some 328 ∧ σ1.2.2.2.2 333 3 = some x ∧ σ1.1 333 0 = B.1 ∧ σ1.1 333 1 = B.2.1 ∧ σ1.1 333 4 = so ∧ σ1.1 333 5 = (B.2.2.1 : Int) ∧ σ1.1 333 6 = tk B.2.2.1 ∧ σ1.1 x 1 = (B.2.2.2.1 : Int) ∧ σ1.1 x 10 = B.2.2.2.2.1 ∧ σ1.2.1 (x + 1) = B.2.2.2.2.2 ∧ ∀ j, j ≠ 1 → j ≠ 10 → σ1.1 x j = σ.1 x j
section
variable {σ σ1 : gS} {x n : Nat} {tk st nu : Nat → Int} {so : Int} {B : rB}
theorem rdP_o (K : rdK σ x n tk st nu) {a : Nat} (h : 328 ≤ a ∧ a < 333) : ¬ rdP x a := by
  have := (kd_tx K.1).2.2
  unfold rdP
  omega
theorem rd_cnt (K : rdK σ x n tk st nu) (h : rdR σ x tk so σ1 B) : σ1.1 328 5 = (n : Int) + 1 := by rw [(h.1.1 328 (rdP_o K (by omega))).1]; exact K.2.1
theorem rd_tk (K : rdK σ x n tk st nu) (h : rdR σ x tk so σ1 B) {i : Nat} (hi : i ≤ n) : σ1.2.1 330 i = tk i := by rw [(h.1.1 330 (rdP_o K (by omega))).2.1]; exact (K.2.2.2.2 i hi).1
theorem rd_st (K : rdK σ x n tk st nu) (h : rdR σ x tk so σ1 B) {i : Nat} (hi : i ≤ n) : σ1.2.1 331 i = st i := by rw [(h.1.1 331 (rdP_o K (by omega))).2.1]; exact (K.2.2.2.2 i hi).2.1
theorem rd_nu (K : rdK σ x n tk st nu) (h : rdR σ x tk so σ1 B) {i : Nat} (hi : i ≤ n) : σ1.2.1 332 i = nu i := by rw [(h.1.1 332 (rdP_o K (by omega))).2.1]; exact (K.2.2.2.2 i hi).2.2.1
theorem kt_r (K : rdK σ x n tk st nu) {i : Nat} (hi : i ≤ n) : inR (tk i) := by have := (K.2.2.2.2 i hi).2.2.2.2.2; unfold inR; omega
theorem kn_r (K : rdK σ x n tk st nu) {i : Nat} (hi : i ≤ n) : inR (nu i) := by have := (K.2.2.2.2 i hi).2.2.2.1; unfold inR; omega
theorem x333 (K : rdK σ x n tk st nu) : x ≠ 333 ∧ x + 1 ≠ 333 := by have := (kd_tx K.1).2.2; omega
/-- a number of the reader's own -/
theorem rd_I (K : rdK σ x n tk st nu) {f pl far : Int} {k l : Nat} {C : Nat → Int} (h : rdR σ x tk so σ1 (f, pl, k, l, far, C)) (f' pl' : Int) (k' : Nat) {σ' : gS} (h2 : σ'.2 = σ1.2) (h1 : ∀ a, a ≠ 333 → σ'.1 a = σ1.1 a) (e0 : σ'.1 333 0 = f') (e1 : σ'.1 333 1 = pl') (e4 : σ'.1 333 4 = so) (e5 : σ'.1 333 5 = (k' : Int)) (e6 : σ'.1 333 6 = tk k') : rdR σ x tk so σ' (f', pl', k', l, far, C) := by
  have c : chg (rdP x) σ1 σ' := ⟨fun a q => ⟨h1 a (fun e => q (Or.inl e)), by rw [h2], by rw [h2], by rw [h2]⟩, by rw [h2]⟩
  have ex := h1 x (x333 K).1
  exact ⟨chg_tr h.1 c, by rw [h2]; exact h.2.1, by rw [h2]; exact h.2.2.1, e0, e1, e4, e5, e6, by rw [ex]; exact h.2.2.2.2.2.2.2.2.1, by rw [ex]; exact h.2.2.2.2.2.2.2.2.2.1, by rw [h2]; exact h.2.2.2.2.2.2.2.2.2.2.1, fun j a b => by rw [ex]; exact h.2.2.2.2.2.2.2.2.2.2.2 j a b⟩
/-- a number or the code of the text -/
theorem rd_X (K : rdK σ x n tk st nu) {f pl far : Int} {k l : Nat} {C : Nat → Int} (h : rdR σ x tk so σ1 (f, pl, k, l, far, C)) (l' : Nat) (far' : Int) (C' : Nat → Int) {σ' : gS} (h1 : ∀ a, a ≠ x → σ'.1 a = σ1.1 a) (h2 : ∀ a, a ≠ x + 1 → σ'.2.1 a = σ1.2.1 a) (h3 : σ'.2.2 = σ1.2.2) (e1 : σ'.1 x 1 = (l' : Int)) (e2 : σ'.1 x 10 = far') (e3 : σ'.2.1 (x + 1) = C') (e4 : ∀ j, j ≠ 1 → j ≠ 10 → σ'.1 x j = σ1.1 x j) : rdR σ x tk so σ' (f, pl, k, l', far', C') := by
  have c : chg (rdP x) σ1 σ' := ⟨fun a q => ⟨h1 a (fun e => q (Or.inr (Or.inl e))), h2 a (fun e => q (Or.inr (Or.inr e))), by rw [h3], by rw [h3]⟩, by rw [h3]⟩
  have ex := h1 333 (x333 K).1.symm
  exact ⟨chg_tr h.1 c, by rw [h3]; exact h.2.1, by rw [h3]; exact h.2.2.1, by rw [ex]; exact h.2.2.2.1, by rw [ex]; exact h.2.2.2.2.1, by rw [ex]; exact h.2.2.2.2.2.1, by rw [ex]; exact h.2.2.2.2.2.2.1, by rw [ex]; exact h.2.2.2.2.2.2.2.1, e1, e2, e3, fun j a b => (e4 j a b).trans (h.2.2.2.2.2.2.2.2.2.2.2 j a b)⟩
end
theorem k_lt {σ : gS} {x n : Nat} {tk st nu : Nat → Int} (K : rdK σ x n tk st nu) {k : Nat} (hk : k ≤ n) (h : tk k ≠ 39) : k < n := by
  rcases Nat.lt_or_ge k n with q | q
  · exact q
  · exact absurd ((congrArg tk (show k = n by omega)).trans K.2.2.2.1) h
def flB (c : Int) (st : Nat → Int) (B : rB) : rB := (if B.1 = 0 then c else B.1, if B.1 = 0 then st B.2.2.1 else B.2.1, B.2.2)
def emB (op v : Int) (B : rB) : rB := (B.1, B.2.1, B.2.2.1, if B.2.2.2.1 < 300 then B.2.2.2.1 + 1 else B.2.2.2.1, B.2.2.2.2.1, if B.2.2.2.1 < 300 then va_up B.2.2.2.2.2 B.2.2.2.1 (op + 64 * v) else B.2.2.2.2.2)
def laB (p : Int) (B : rB) : rB := (B.1, B.2.1, B.2.2.1, B.2.2.2.1, B.2.2.2.2.1, if 0 ≤ p ∧ p < (B.2.2.2.1 : Int) then va_up B.2.2.2.2.2 p.toNat (B.2.2.2.2.2 p.toNat % 64 + 64 * (B.2.2.2.1 : Int)) else B.2.2.2.2.2)
def exB (t : Int) (tk st : Nat → Int) (B : rB) : rB := if B.1 = 0 ∧ tk B.2.2.1 = t then (B.1, B.2.1, B.2.2.1 + 1, B.2.2.2) else flB 1 st B
/-- within bounds -/
def okB (n : Nat) (B : rB) : Prop := inR B.1 ∧ B.2.2.1 ≤ n ∧ B.2.2.2.1 ≤ 300 ∧ (∀ i, i < 300 → 0 ≤ B.2.2.2.2.2 i ∧ B.2.2.2.2.2 i ≤ 1000000) ∧ (B.1 = 0 → B.2.2.2.1 ≤ B.2.2.1) ∧ (B.2.2.2.2.1 = 0 ∨ B.2.2.2.2.1 = 1)
set_option maxHeartbeats 4000000 in
set_option maxRecDepth 100000 in
theorem x_advance {d : Nat} {σ σ1 : gS} {x n : Nat} {tk st nu : Nat → Int} {so : Int} (K : rdK σ x n tk st nu) {f pl far : Int} {k l : Nat} {C : Nat → Int} (rd : rdR σ x tk so σ1 (f, pl, k, l, far, C)) (hk1 : k < n) : sC mX1_advance d [.ref 333] σ1 (fun r σ' => r = none ∧ rdR σ x tk so σ' (f, pl, k + 1, l, far, C)) := by
  have hk : k ≤ n := Nat.le_of_lt hk1
  have hn := K.2.2.1
  refine sC_of rfl (Nat.le_of_ble_eq_true rfl) ?_
  show sE g_tt _ _ _ 0 [some (.ref 333)] [] σ1
  refine q_aload_n dX1_advance_0 rfl rfl ?_
  refine sg1 (kf := 5) (v := .int (iZ (k : Int))) dX1_advance_1 flX1_22 (show kd 333 = 1 from rfl) (by decide) (by show some (Value.int (iZ ((σ1).1 333 5))) = _; rw [show (σ1).1 333 5 = (k : Int) from rd.2.2.2.2.2.2.1]) ?_
  refine z_iconst dX1_advance_4 ?_
  refine z_iadd dX1_advance_5 ?_
  refine q_aload_n dX1_advance_6 rfl rfl ?_
  refine sg1 (kf := 2) (v := .ref 328) dX1_advance_7 flX1_28 (show kd 333 = 1 from rfl) (by decide) (by show some (va_rf ((σ1).2.2.2.2 333 2)) = _; rw [show (σ1).2.2.2.2 333 2 = some 328 from rd.2.1]; rfl) ?_
  refine sg3 (kf := 5) (v := .int (iZ ((n : Int) + 1))) dX1_advance_10 flX1_50 (show kd 328 = 3 from rfl) (by decide) (by show some (Value.int (iZ ((σ1).1 328 5))) = _; rw [show (σ1).1 328 5 = (n : Int) + 1 from rd_cnt K rd]) ?_
  refine z_icmp_ge (tgt := 42) dX1_advance_13 (by decide) (by unfold inR at *; omega) (by unfold inR at *; omega) (fun c_1 => ?_) (fun c_1 => ?_)
  · exfalso
    omega
  · refine q_aload_n dX1_advance_16 rfl rfl ?_
    refine q_dup dX1_advance_17 rfl ?_
    refine sg1 (kf := 5) (v := .int (iZ (k : Int))) dX1_advance_18 flX1_22 (show kd 333 = 1 from rfl) (by decide) (by show some (Value.int (iZ ((σ1).1 333 5))) = _; rw [show (σ1).1 333 5 = (k : Int) from rd.2.2.2.2.2.2.1]) ?_
    refine z_iconst dX1_advance_21 ?_
    refine z_iadd dX1_advance_22 ?_
    refine sp1 (kf := 5) dX1_advance_23 flX1_22 (show kd 333 = 1 from rfl) (by decide) ?_
    refine q_aload_n dX1_advance_26 rfl rfl ?_
    refine q_aload_n dX1_advance_27 rfl rfl ?_
    refine sg1 (kf := 2) (v := .ref 328) dX1_advance_28 flX1_28 (show kd 333 = 1 from rfl) (by decide) (by show some (va_rf ((sI σ1 333 5 ((k : Int) + 1)).2.2.2.2 333 2)) = _; rw [show (sI σ1 333 5 ((k : Int) + 1)).2.2.2.2 333 2 = some 328 from rd.2.1]; rfl) ?_
    refine sg3 (kf := 2) (v := .ref 330) dX1_advance_31 flX1_41 (show kd 328 = 3 from rfl) (by decide) rfl ?_
    refine q_aload_n dX1_advance_34 rfl rfl ?_
    refine sg1 (kf := 5) (v := .int (iZ ((k : Int) + 1))) dX1_advance_35 flX1_22 (show kd 333 = 1 from rfl) (by decide) (by show some (Value.int (iZ ((sI σ1 333 5 ((k : Int) + 1)).1 333 5))) = _; rw [show (sI σ1 333 5 ((k : Int) + 1)).1 333 5 = (k : Int) + 1 from up2_at σ1.1 333 5 ((k : Int) + 1)]) ?_
    refine s_iald (n := 301) (x := tk (k + 1)) dX1_advance_38 (show kd 330 = 100 + 301 from rfl) (by omega) (by omega) (by decide) (by rw [show ((k : Int) + 1).toNat = k + 1 by omega]; exact rd_tk K rd (i := k + 1) (by omega)) ?_
    refine sp1 (kf := 6) dX1_advance_39 flX1_25 (show kd 333 = 1 from rfl) (by decide) ?_
    exact s_vret dX1_advance_42 rfl ⟨rfl, rd_I K rd f pl (k + 1) rfl (fun a q => by show up2 (up2 σ1.1 333 5 ((k : Int) + 1)) 333 6 (tk (k + 1)) a = _; rw [up2_ne _ _ _ q, up2_ne _ _ _ q]) (by show up2 (up2 σ1.1 333 5 ((k : Int) + 1)) 333 6 (tk (k + 1)) 333 0 = _; rw [up2_k _ _ (by decide), up2_k _ _ (by decide)]; exact rd.2.2.2.1) (by show up2 (up2 σ1.1 333 5 ((k : Int) + 1)) 333 6 (tk (k + 1)) 333 1 = _; rw [up2_k _ _ (by decide), up2_k _ _ (by decide)]; exact rd.2.2.2.2.1) (by show up2 (up2 σ1.1 333 5 ((k : Int) + 1)) 333 6 (tk (k + 1)) 333 4 = _; rw [up2_k _ _ (by decide), up2_k _ _ (by decide)]; exact rd.2.2.2.2.2.1) (by show up2 (up2 σ1.1 333 5 ((k : Int) + 1)) 333 6 (tk (k + 1)) 333 5 = _; rw [up2_k _ _ (by decide), up2_at]; omega) (by show up2 (up2 σ1.1 333 5 ((k : Int) + 1)) 333 6 (tk (k + 1)) 333 6 = _; rw [up2_at])⟩
set_option maxHeartbeats 4000000 in
set_option maxRecDepth 100000 in
theorem x_fail {d : Nat} {σ σ1 : gS} {x n : Nat} {tk st nu : Nat → Int} {so : Int} (K : rdK σ x n tk st nu) {f pl far : Int} {k l : Nat} {C : Nat → Int} (rd : rdR σ x tk so σ1 (f, pl, k, l, far, C)) (ok : okB n (f, pl, k, l, far, C)) {c : Int} : sC mX1_fail d [.ref 333, .int (iZ c)] σ1 (fun r σ' => r = none ∧ rdR σ x tk so σ' (flB c st (f, pl, k, l, far, C))) := by
  have hk : k ≤ n := ok.2.1
  have hl : l ≤ 300 := ok.2.2.1
  have hf : inR f := ok.1
  have hn := K.2.2.1
  refine sC_of rfl (Nat.le_of_ble_eq_true rfl) ?_
  show sE g_tt _ _ _ 0 [some (.ref 333), some (.int (iZ c))] [] σ1
  refine q_aload_n dX1_fail_0 rfl rfl ?_
  refine sg1 (kf := 0) (v := .int (iZ f)) dX1_fail_1 flX1_9 (show kd 333 = 1 from rfl) (by decide) (by show some (Value.int (iZ ((σ1).1 333 0))) = _; rw [show (σ1).1 333 0 = f from rd.2.2.2.1]) ?_
  refine z_if_ne (tgt := 28) dX1_fail_4 (by decide) hf (fun c_1 => ?_) (fun c_1 => ?_)
  · exact s_vret dX1_fail_28 rfl ⟨rfl, by unfold flB; show rdR σ x tk so σ1 (if f = 0 then c else f, if f = 0 then st k else pl, k, l, far, C); rw [if_neg c_1, if_neg c_1]; exact rd⟩
  · refine q_aload_n dX1_fail_7 rfl rfl ?_
    refine q_iload_n dX1_fail_8 rfl rfl ?_
    refine sp1 (kf := 0) dX1_fail_9 flX1_9 (show kd 333 = 1 from rfl) (by decide) ?_
    refine q_aload_n dX1_fail_12 rfl rfl ?_
    refine q_aload_n dX1_fail_13 rfl rfl ?_
    refine sg1 (kf := 2) (v := .ref 328) dX1_fail_14 flX1_28 (show kd 333 = 1 from rfl) (by decide) (by show some (va_rf ((sI σ1 333 0 c).2.2.2.2 333 2)) = _; rw [show (sI σ1 333 0 c).2.2.2.2 333 2 = some 328 from rd.2.1]; rfl) ?_
    refine sg3 (kf := 3) (v := .ref 331) dX1_fail_17 flX1_53 (show kd 328 = 3 from rfl) (by decide) rfl ?_
    refine q_aload_n dX1_fail_20 rfl rfl ?_
    refine sg1 (kf := 5) (v := .int (iZ (k : Int))) dX1_fail_21 flX1_22 (show kd 333 = 1 from rfl) (by decide) (by show some (Value.int (iZ ((sI σ1 333 0 c).1 333 5))) = _; rw [show (sI σ1 333 0 c).1 333 5 = (k : Int) from (up2_k (a := 333) (k := 0) (j := 5) σ1.1 c (by decide)).trans rd.2.2.2.2.2.2.1]) ?_
    refine s_iald (n := 301) (x := st k) dX1_fail_24 (show kd 331 = 100 + 301 from rfl) (by omega) (by omega) (by decide) (rd_st K rd hk) ?_
    refine sp1 (kf := 1) dX1_fail_25 flX1_15 (show kd 333 = 1 from rfl) (by decide) ?_
    exact s_vret dX1_fail_28 rfl ⟨rfl, by unfold flB; show rdR σ x tk so _ (if f = 0 then c else f, if f = 0 then st k else pl, k, l, far, C); rw [if_pos (by omega), if_pos (by omega)]; exact rd_I K rd c (st k) k rfl (fun a q => by show up2 (up2 σ1.1 333 0 c) 333 1 (st k) a = _; rw [up2_ne _ _ _ q, up2_ne _ _ _ q]) (by show up2 (up2 σ1.1 333 0 c) 333 1 (st k) 333 0 = _; rw [up2_k _ _ (by decide), up2_at]) (by show up2 (up2 σ1.1 333 0 c) 333 1 (st k) 333 1 = _; rw [up2_at]) (by show up2 (up2 σ1.1 333 0 c) 333 1 (st k) 333 4 = _; rw [up2_k _ _ (by decide), up2_k _ _ (by decide)]; exact rd.2.2.2.2.2.1) (by show up2 (up2 σ1.1 333 0 c) 333 1 (st k) 333 5 = _; rw [up2_k _ _ (by decide), up2_k _ _ (by decide)]; exact rd.2.2.2.2.2.2.1) (by show up2 (up2 σ1.1 333 0 c) 333 1 (st k) 333 6 = _; rw [up2_k _ _ (by decide), up2_k _ _ (by decide)]; exact rd.2.2.2.2.2.2.2.1)⟩
set_option maxHeartbeats 4000000 in
set_option maxRecDepth 100000 in
theorem x_emit {d : Nat} {σ σ1 : gS} {x n : Nat} {tk st nu : Nat → Int} {so : Int} (K : rdK σ x n tk st nu) {f pl far : Int} {k l : Nat} {C : Nat → Int} (rd : rdR σ x tk so σ1 (f, pl, k, l, far, C)) (ok : okB n (f, pl, k, l, far, C)) {op v : Int} : sC mX4_emit d [.ref x, .int (iZ op), .int (iZ v)] σ1 (fun r σ' => r = some (.int (iZ (if l < 300 then (l : Int) else -1))) ∧ rdR σ x tk so σ' (emB op v (f, pl, k, l, far, C))) := by
  have hk : k ≤ n := ok.2.1
  have hl : l ≤ 300 := ok.2.2.1
  have hf : inR f := ok.1
  have hn := K.2.2.1
  refine sC_of rfl (Nat.le_of_ble_eq_true rfl) ?_
  show sE g_tt _ _ _ 0 [some (.ref x), some (.int (iZ op)), some (.int (iZ v))] [] σ1
  refine q_aload_n dX4_emit_0 rfl rfl ?_
  refine sg4 (kf := 1) (v := .int (iZ (l : Int))) dX4_emit_1 flX4_15 K.1 (by decide) (by show some (Value.int (iZ ((σ1).1 x 1))) = _; rw [show (σ1).1 x 1 = (l : Int) from rd.2.2.2.2.2.2.2.2.1]) ?_
  refine q_aload_n dX4_emit_4 rfl rfl ?_
  refine sg4 (kf := 0) (v := .ref (x + 1)) dX4_emit_5 flX4_9 K.1 (by decide) rfl ?_
  refine s_alen (n := 300) dX4_emit_8 (kd_tx K.1).1 (Or.inl ⟨rfl, rfl⟩) (by decide) ?_
  refine z_icmp_lt (tgt := 14) dX4_emit_9 (by decide) (by unfold inR at *; omega) (by unfold inR at *; omega) (fun c_1 => ?_) (fun c_1 => ?_)
  · refine q_aload_n dX4_emit_14 rfl rfl ?_
    refine sg4 (kf := 0) (v := .ref (x + 1)) dX4_emit_15 flX4_9 K.1 (by decide) rfl ?_
    refine q_aload_n dX4_emit_18 rfl rfl ?_
    refine sg4 (kf := 1) (v := .int (iZ (l : Int))) dX4_emit_19 flX4_15 K.1 (by decide) (by show some (Value.int (iZ ((σ1).1 x 1))) = _; rw [show (σ1).1 x 1 = (l : Int) from rd.2.2.2.2.2.2.2.2.1]) ?_
    refine q_iload_n dX4_emit_22 rfl rfl ?_
    refine z_bipush dX4_emit_23 (by decide +kernel) ?_
    refine q_iload_n dX4_emit_25 rfl rfl ?_
    refine z_imul dX4_emit_26 ?_
    refine z_iadd dX4_emit_27 ?_
    refine s_iast (n := 300) dX4_emit_28 (kd_tx K.1).1 (by omega) (by omega) (by decide) ?_
    refine q_aload_n dX4_emit_29 rfl rfl ?_
    refine q_dup dX4_emit_30 rfl ?_
    refine sg4 (kf := 1) (v := .int (iZ (l : Int))) dX4_emit_31 flX4_15 K.1 (by decide) (by show some (Value.int (iZ ((sR σ1 (x + 1) l (op + (64 * v))).1 x 1))) = _; rw [show (sR σ1 (x + 1) l (op + (64 * v))).1 x 1 = (l : Int) from rd.2.2.2.2.2.2.2.2.1]) ?_
    refine z_iconst dX4_emit_34 ?_
    refine z_iadd dX4_emit_35 ?_
    refine sp4 (kf := 1) dX4_emit_36 flX4_15 K.1 (by decide) ?_
    refine q_aload_n dX4_emit_39 rfl rfl ?_
    refine sg4 (kf := 1) (v := .int (iZ ((l : Int) + 1))) dX4_emit_40 flX4_15 K.1 (by decide) (by show some (Value.int (iZ ((sI (sR σ1 (x + 1) l (op + (64 * v))) x 1 ((l : Int) + 1)).1 x 1))) = _; rw [show (sI (sR σ1 (x + 1) l (op + (64 * v))) x 1 ((l : Int) + 1)).1 x 1 = (l : Int) + 1 from up2_at σ1.1 x 1 ((l : Int) + 1)]) ?_
    refine z_iconst dX4_emit_43 ?_
    refine z_isub dX4_emit_44 ?_
    exact s_iretZ dX4_emit_45 rfl ⟨by show _ = some (Value.int (iZ (if l < 300 then (l : Int) else -1))); rw [if_pos (by omega), show (l : Int) + 1 - 1 = (l : Int) by omega], by unfold emB; show rdR σ x tk so _ (f, pl, k, if l < 300 then l + 1 else l, far, if l < 300 then va_up C l (op + 64 * v) else C); rw [if_pos (by omega), if_pos (by omega)]; exact rd_X K rd (l + 1) far (va_up C l (op + 64 * v)) (fun a q => up2_ne _ _ _ q) (fun a q => up2_ne _ _ _ q) rfl ((up2_at σ1.1 x 1 ((l : Int) + 1)).trans (by omega)) ((up2_k (a := x) (k := 1) (j := 10) σ1.1 ((l : Int) + 1) (by decide)).trans rd.2.2.2.2.2.2.2.2.2.1) (by show up2 σ1.2.1 (x + 1) l (op + 64 * v) (x + 1) = _; rw [up2_eq, rd.2.2.2.2.2.2.2.2.2.2.1]) (fun j a b => up2_k (a := x) (k := 1) (j := j) σ1.1 ((l : Int) + 1) a)⟩
  · refine z_iconst dX4_emit_12 ?_
    exact s_iretZ dX4_emit_13 rfl ⟨by show _ = some (Value.int (iZ (if l < 300 then (l : Int) else -1))); rw [if_neg (by omega)], by unfold emB; show rdR σ x tk so σ1 (f, pl, k, if l < 300 then l + 1 else l, far, if l < 300 then va_up C l (op + 64 * v) else C); rw [if_neg (by omega), if_neg (by omega)]; exact rd⟩
set_option maxHeartbeats 4000000 in
set_option maxRecDepth 100000 in
theorem x_landHere {d : Nat} {σ σ1 : gS} {x n : Nat} {tk st nu : Nat → Int} {so : Int} (K : rdK σ x n tk st nu) {f pl far : Int} {k l : Nat} {C : Nat → Int} (rd : rdR σ x tk so σ1 (f, pl, k, l, far, C)) (ok : okB n (f, pl, k, l, far, C)) {p : Int} (hp : inR p) : sC mX4_landHere d [.ref x, .int (iZ p)] σ1 (fun r σ' => r = none ∧ rdR σ x tk so σ' (laB p (f, pl, k, l, far, C))) := by
  have hk : k ≤ n := ok.2.1
  have hl : l ≤ 300 := ok.2.2.1
  have hf : inR f := ok.1
  have hn := K.2.2.1
  refine sC_of rfl (Nat.le_of_ble_eq_true rfl) ?_
  show sE g_tt _ _ _ 0 [some (.ref x), some (.int (iZ p))] [] σ1
  refine q_iload_n dX4_landHere_0 rfl rfl ?_
  refine z_if_lt (tgt := 35) dX4_landHere_1 (by decide) (by unfold inR at *; omega) (fun c_1 => ?_) (fun c_1 => ?_)
  · exact s_vret dX4_landHere_35 rfl ⟨rfl, by unfold laB; show rdR σ x tk so _ (f, pl, k, l, far, if 0 ≤ p ∧ p < (l : Int) then va_up C p.toNat (C p.toNat % 64 + 64 * (l : Int)) else C); rw [if_neg (by omega)]; exact rd⟩
  · refine q_iload_n dX4_landHere_4 rfl rfl ?_
    refine q_aload_n dX4_landHere_5 rfl rfl ?_
    refine sg4 (kf := 1) (v := .int (iZ (l : Int))) dX4_landHere_6 flX4_15 K.1 (by decide) (by show some (Value.int (iZ ((σ1).1 x 1))) = _; rw [show (σ1).1 x 1 = (l : Int) from rd.2.2.2.2.2.2.2.2.1]) ?_
    refine z_icmp_ge (tgt := 35) dX4_landHere_9 (by decide) (by unfold inR at *; omega) (by unfold inR at *; omega) (fun c_2 => ?_) (fun c_2 => ?_)
    · exact s_vret dX4_landHere_35 rfl ⟨rfl, by unfold laB; show rdR σ x tk so _ (f, pl, k, l, far, if 0 ≤ p ∧ p < (l : Int) then va_up C p.toNat (C p.toNat % 64 + 64 * (l : Int)) else C); rw [if_neg (by omega)]; exact rd⟩
    · refine q_aload_n dX4_landHere_12 rfl rfl ?_
      refine sg4 (kf := 0) (v := .ref (x + 1)) dX4_landHere_13 flX4_9 K.1 (by decide) rfl ?_
      refine q_iload_n dX4_landHere_16 rfl rfl ?_
      refine q_aload_n dX4_landHere_17 rfl rfl ?_
      refine sg4 (kf := 0) (v := .ref (x + 1)) dX4_landHere_18 flX4_9 K.1 (by decide) rfl ?_
      refine q_iload_n dX4_landHere_21 rfl rfl ?_
      refine s_iald (n := 300) (x := C p.toNat) dX4_landHere_22 (kd_tx K.1).1 (by omega) (by omega) (by decide) (by rw [show σ1.2.1 (x + 1) = C from rd.2.2.2.2.2.2.2.2.2.2.1]; first | rfl | skip) ?_
      refine z_bipush dX4_landHere_23 (by decide +kernel) ?_
      refine z_irem dX4_landHere_25 (by have q9 := ok.2.2.2.1 p.toNat (by omega); exact ⟨by show -2147483648 ≤ C p.toNat; have := q9.1; show -2147483648 ≤ C p.toNat; simp only at this; omega, by have := q9.2; simp only at this; omega⟩) (by unfold inR at *; omega) (by decide) ?_
      refine z_top (y := (C p.toNat).tmod 64) rfl ?_
      refine z_bipush dX4_landHere_26 (by decide +kernel) ?_
      refine q_aload_n dX4_landHere_28 rfl rfl ?_
      refine sg4 (kf := 1) (v := .int (iZ (l : Int))) dX4_landHere_29 flX4_15 K.1 (by decide) (by show some (Value.int (iZ ((σ1).1 x 1))) = _; rw [show (σ1).1 x 1 = (l : Int) from rd.2.2.2.2.2.2.2.2.1]) ?_
      refine z_imul dX4_landHere_32 ?_
      refine z_iadd dX4_landHere_33 ?_
      refine s_iast (n := 300) dX4_landHere_34 (kd_tx K.1).1 (by omega) (by omega) (by decide) ?_
      exact s_vret dX4_landHere_35 rfl ⟨rfl, by unfold laB; show rdR σ x tk so _ (f, pl, k, l, far, if 0 ≤ p ∧ p < (l : Int) then va_up C p.toNat (C p.toNat % 64 + 64 * (l : Int)) else C); rw [if_pos (by omega), ← Int.tmod_eq_emod_of_nonneg (a := C p.toNat) (b := 64) (ok.2.2.2.1 p.toNat (by show p.toNat < 300; omega)).1]; exact rd_X K rd l far (va_up C p.toNat ((C p.toNat).tmod 64 + 64 * (l : Int))) (fun a q => rfl) (fun a q => up2_ne _ _ _ q) rfl rd.2.2.2.2.2.2.2.2.1 rd.2.2.2.2.2.2.2.2.2.1 (by show up2 σ1.2.1 (x + 1) p.toNat _ (x + 1) = _; rw [up2_eq, rd.2.2.2.2.2.2.2.2.2.2.1]) (fun j a b => rfl)⟩
set_option maxHeartbeats 4000000 in
set_option maxRecDepth 100000 in
theorem x_expect {d : Nat} (hd : 1 ≤ d) {σ σ1 : gS} {x n : Nat} {tk st nu : Nat → Int} {so : Int} (K : rdK σ x n tk st nu) {f pl far : Int} {k l : Nat} {C : Nat → Int} (rd : rdR σ x tk so σ1 (f, pl, k, l, far, C)) (ok : okB n (f, pl, k, l, far, C)) {t : Int} (ht : 0 ≤ t ∧ t < 39) : sC mX1_expect d [.ref 333, .int (iZ t)] σ1 (fun r σ' => r = none ∧ rdR σ x tk so σ' (exB t tk st (f, pl, k, l, far, C))) := by
  have hk : k ≤ n := ok.2.1
  have hl : l ≤ 300 := ok.2.2.1
  have hf : inR f := ok.1
  have hn := K.2.2.1
  refine sC_of rfl (Nat.le_of_ble_eq_true rfl) ?_
  show sE g_tt _ _ _ 0 [some (.ref 333), some (.int (iZ t))] [] σ1
  refine q_aload_n dX1_expect_0 rfl rfl ?_
  refine sg1 (kf := 0) (v := .int (iZ f)) dX1_expect_1 flX1_9 (show kd 333 = 1 from rfl) (by decide) (by show some (Value.int (iZ ((σ1).1 333 0))) = _; rw [show (σ1).1 333 0 = f from rd.2.2.2.1]) ?_
  refine z_if_ne (tgt := 22) dX1_expect_4 (by decide) hf (fun c_1 => ?_) (fun c_1 => ?_)
  · refine q_aload_n dX1_expect_22 rfl rfl ?_
    refine z_iconst dX1_expect_23 ?_
    refine s_callV (ci := 1) (a := 333) (As := [.int (iZ 1)]) (S := []) dX1_expect_24 okX1_fail mlX1_59 rfl (by omega) rfl (Nat.le_of_ble_eq_true rfl) (show kd 333 = 1 from rfl) (by decide) rfl (x_fail (d := d - 1) (c := 1) K rd ok) (fun v_ σ_ hq => ?_)
    obtain ⟨rfl, rd2⟩ := hq
    rename gS => σ2
    show sE g_tt _ _ _ 27 [some (.ref 333), some (.int (iZ t))] [] σ2
    exact s_vret dX1_expect_27 rfl ⟨rfl, by unfold exB; rw [if_neg (show ¬ (f = 0 ∧ tk k = t) from fun z => by have z1 := z.1; have z2 := z.2; omega)]; exact rd2⟩
  · refine q_aload_n dX1_expect_7 rfl rfl ?_
    refine sg1 (kf := 6) (v := .int (iZ (tk k))) dX1_expect_8 flX1_25 (show kd 333 = 1 from rfl) (by decide) (by show some (Value.int (iZ ((σ1).1 333 6))) = _; rw [show (σ1).1 333 6 = tk k from rd.2.2.2.2.2.2.2.1]) ?_
    refine q_iload_n dX1_expect_11 rfl rfl ?_
    refine z_icmp_ne (tgt := 22) dX1_expect_12 (by decide) (kt_r K hk) (by unfold inR at *; omega) (fun c_2 => ?_) (fun c_2 => ?_)
    · refine q_aload_n dX1_expect_22 rfl rfl ?_
      refine z_iconst dX1_expect_23 ?_
      refine s_callV (ci := 1) (a := 333) (As := [.int (iZ 1)]) (S := []) dX1_expect_24 okX1_fail mlX1_59 rfl (by omega) rfl (Nat.le_of_ble_eq_true rfl) (show kd 333 = 1 from rfl) (by decide) rfl (x_fail (d := d - 1) (c := 1) K rd ok) (fun v_ σ_ hq => ?_)
      obtain ⟨rfl, rd2⟩ := hq
      rename gS => σ2
      show sE g_tt _ _ _ 27 [some (.ref 333), some (.int (iZ t))] [] σ2
      exact s_vret dX1_expect_27 rfl ⟨rfl, by unfold exB; rw [if_neg (show ¬ (f = 0 ∧ tk k = t) from fun z => by have z1 := z.1; have z2 := z.2; omega)]; exact rd2⟩
    · refine q_aload_n dX1_expect_15 rfl rfl ?_
      refine s_callV (ci := 1) (a := 333) (As := []) (S := []) dX1_expect_16 okX1_advance mlX1_56 rfl (by omega) rfl (Nat.le_of_ble_eq_true rfl) (show kd 333 = 1 from rfl) (by decide) rfl (x_advance (d := d - 1) K rd (k_lt K hk (by omega))) (fun v_ σ_ hq => ?_)
      obtain ⟨rfl, rd2⟩ := hq
      rename gS => σ2
      show sE g_tt _ _ _ 19 [some (.ref 333), some (.int (iZ t))] [] σ2
      refine q_goto (tgt := 27) dX1_expect_19 (by decide) ?_
      exact s_vret dX1_expect_27 rfl ⟨rfl, by unfold exB; rw [if_pos (show f = 0 ∧ tk k = t from ⟨by omega, by omega⟩)]; exact rd2⟩
