/-! ===== the model's reader: settlePile, openNow, opened, endOne ===== -/
theorem stk_tl {R : Nat → Int} {x : Int} {P : List Int} (h : stk R (x :: P)) : R P.length = x ∧ stk R P := h
/-- the state of the reader with another pile or code -/
theorem psR_P {b : Nat → Int} {n tx : Nat} {so : Int} {F : Nat → Int} {w : Int} {T Pf : Nat → Int} {k : Nat} {P : List Int} {o : Int} {D : List (Int × Int)} (h : psR b n tx so F w T Pf (k, P, o, D)) {P1 : List Int} {Pf1 : Nat → Int} (hs : stk Pf1 P1) (hr : ∀ x ∈ P1, 0 ≤ x ∧ x ≤ 44) {v : Int} (hv : v = ((P1.length : Nat) : Int)) : psR b n tx so (va_up F 16 v) w T Pf1 (k, P1, o, D) :=
  ⟨h.1, h.2.1, h.2.2.1, h.2.2.2.1, (va_up_self _ _ _).trans hv, h.2.2.2.2.2.1, hs, h.2.2.2.2.2.2.2.1, hr⟩
theorem psR_o {b : Nat → Int} {n tx : Nat} {so : Int} {F : Nat → Int} {w : Int} {T Pf : Nat → Int} {k : Nat} {P : List Int} {o : Int} {D : List (Int × Int)} (h : psR b n tx so F w T Pf (k, P, o, D)) (o1 : Int) : psR b n tx so (va_up F 17 o1) w T Pf (k, P, o1, D) :=
  ⟨h.1, h.2.1, h.2.2.1, h.2.2.2.1, h.2.2.2.2.1, va_up_self _ _ _, h.2.2.2.2.2.2⟩
theorem psR_w {b : Nat → Int} {n tx : Nat} {so : Int} {F : Nat → Int} {w : Int} {T Pf : Nat → Int} {s : pS} (h : psR b n tx so F w T Pf s) (v : Int) : psR b n tx so (va_up F 18 v) w T Pf s := h
theorem psR_k {b : Nat → Int} {n tx : Nat} {so : Int} {F F1 : Nat → Int} {w w1 : Int} {T Pf : Nat → Int} {k k1 : Nat} {P : List Int} {o : Int} {D : List (Int × Int)} (h : psR b n tx so F w T Pf (k, P, o, D)) (hk : kpT F F1) (hl : ldR b n F1 w1 k1) : psR b n tx so F1 w1 T Pf (k1, P, o, D) :=
  ⟨hl, (hk 12 (by decide) (by decide) (by decide) (by decide)).trans h.2.1, (hk 13 (by decide) (by decide) (by decide) (by decide)).trans h.2.2.1, (hk 14 (by decide) (by decide) (by decide) (by decide)).trans h.2.2.2.1, (hk 16 (by decide) (by decide) (by decide) (by decide)).trans h.2.2.2.2.1, (hk 17 (by decide) (by decide) (by decide) (by decide)).trans h.2.2.2.2.2.1, h.2.2.2.2.2.2⟩
def sttQ (b : Nat → Int) (n tx : Nat) (so : Int) (σ : gS) (A F T Pf : Nat → Int) (w0 : Int) (s : pS) (r : Option Value) (σ' : gS) : Prop := r = none ∧ ∃ T1 F1, σ' = ms (pt σ T1 Pf w0) A F1 ∧ psR b n tx so F1 w0 T1 Pf s ∧ F1 18 = F 18 ∧ kpM F F1 ∧ kpX tx T T1
set_option maxHeartbeats 4000000 in
set_option maxRecDepth 100000 in
theorem lm_settle {d k tx n : Nat} {l so w0 : Int} (hd : 1 ≤ d) (hl : 0 ≤ l ∧ l ≤ 10) (htx : tx < 4) (σ : gS) (A F T Pf : Nat → Int) {b : Nat → Int} : ∀ (Pl : List Int) (o : Int) (D : List (Int × Int)) (F1 T1 : Nat → Int), psR b n tx so F1 w0 T1 Pf (k, Pl, o, D) → Pl.length ≤ 155 ∧ Pl.length + D.length ≤ 304 → F1 18 = F 18 → kpM F F1 → kpX tx T T1 → sE g_tt mX7_settlePile d (sttQ b n tx so σ A F T Pf w0 (k, sP l Pl o D)) 0 [some (.ref 384), some (.int (iZ l))] [] (ms (pt σ T1 Pf w0) A F1) := by
  intro Pl
  induction Pl with
  | nil =>
    intro o D F1 T1 hR1 hB h18a kM1 kX1
    refine q_aload_n dX7_settlePile_0 rfl rfl ?_
    refine sg7 (kf := 16) (v := .int (iZ 0)) dX7_settlePile_1 flX7_142 (show kd 384 = 7 from rfl) (by decide) (by show some (Value.int (iZ (F1 16))) = _; rw [hR1.2.2.2.2.1]; rfl) ?_
    refine z_if_le (tgt := 93) dX7_settlePile_4 (by decide) (by unfold inR; decide) (fun c_1 => ?_) (fun c_1 => ?_)
    · exact s_vret dX7_settlePile_93 rfl ⟨rfl, T1, F1, rfl, hR1, h18a, kM1, kX1⟩
    · exfalso
      revert c_1
      decide
  | cons x Pl ih =>
    intro o D F1 T1 hR1 hB h18a kM1 kX1
    have hx := hR1.2.2.2.2.2.2.2.2 x (List.mem_cons_self ..)
    have hlc : (x :: Pl).length = Pl.length + 1 := rfl
    rw [List.length_cons] at hB
    refine q_aload_n dX7_settlePile_0 rfl rfl ?_
    refine sg7 (kf := 16) (v := .int (iZ ((x :: Pl).length : Int))) dX7_settlePile_1 flX7_142 (show kd 384 = 7 from rfl) (by decide) (by show some (Value.int (iZ (F1 16))) = _; rw [hR1.2.2.2.2.1]) ?_
    refine z_if_le (tgt := 93) dX7_settlePile_4 (by decide) (by rw [List.length_cons]; unfold inR; omega) (fun c_1 => ?_) (fun c_1 => ?_)
    · exfalso
      omega
    · refine q_aload_n dX7_settlePile_7 rfl rfl ?_
      refine sg7 (kf := 15) (v := .ref 389) dX7_settlePile_8 flX7_29 (show kd 384 = 7 from rfl) (by decide) rfl ?_
      refine q_aload_n dX7_settlePile_11 rfl rfl ?_
      refine sg7 (kf := 16) (v := .int (iZ ((x :: Pl).length : Int))) dX7_settlePile_12 flX7_142 (show kd 384 = 7 from rfl) (by decide) (by show some (Value.int (iZ (F1 16))) = _; rw [hR1.2.2.2.2.1]) ?_
      refine z_iconst dX7_settlePile_15 ?_
      refine z_isub dX7_settlePile_16 ?_
      refine s_iald (n := 160) (x := x) dX7_settlePile_17 (show kd 389 = 100 + 160 from rfl) (by first | omega | (rw [List.length_cons]; omega)) (by first | omega | (rw [List.length_cons]; omega)) (by decide) (by rw [show (((x :: Pl).length : Int) - 1 : Int).toNat = Pl.length by (first | omega | (rw [List.length_cons]; omega))]; exact (stk_tl hR1.2.2.2.2.2.2.1).1) ?_
      refine s_callS (As := [.int (iZ x)]) (S := []) dX7_settlePile_18 okX7_rank mlX7_145 rfl (by omega) rfl (Nat.le_of_ble_eq_true rfl) (m_rk (d := d - 1) (n := x) (by unfold inR; omega) (ms (pt σ T1 Pf w0) A F1)) (fun v_ σ_ hq => ?_)
      obtain ⟨rfl, e9⟩ := hq
      have e9 := e9.symm
      subst e9
      have rr := rkF_ran x
      show sE g_tt _ _ _ 21 [some (.ref 384), some (.int (iZ l))] [.int (iZ (rkF x))] (ms (pt σ T1 Pf w0) A F1)
      refine q_iload_n dX7_settlePile_21 rfl rfl ?_
      refine z_icmp_lt (tgt := 93) dX7_settlePile_22 (by decide) (by unfold inR; omega) (by unfold inR; omega) (fun c_2 => ?_) (fun c_2 => ?_)
      · exact s_vret dX7_settlePile_93 rfl ⟨rfl, T1, F1, rfl, (by rw [sP, if_neg (by omega)]; exact hR1), h18a, kM1, kX1⟩
      · refine q_aload_n dX7_settlePile_25 rfl rfl ?_
        refine q_dup dX7_settlePile_26 rfl ?_
        refine sg7 (kf := 16) (v := .int (iZ ((x :: Pl).length : Int))) dX7_settlePile_27 flX7_142 (show kd 384 = 7 from rfl) (by decide) (by show some (Value.int (iZ (F1 16))) = _; rw [hR1.2.2.2.2.1]) ?_
        refine z_iconst dX7_settlePile_30 ?_
        refine z_isub dX7_settlePile_31 ?_
        refine mp (kf := 16) dX7_settlePile_32 flX7_142 (by decide) ?_
        refine q_aload_n dX7_settlePile_35 rfl rfl ?_
        refine q_aload_n dX7_settlePile_36 rfl rfl ?_
        refine sg7 (kf := 15) (v := .ref 389) dX7_settlePile_37 flX7_29 (show kd 384 = 7 from rfl) (by decide) rfl ?_
        refine q_aload_n dX7_settlePile_40 rfl rfl ?_
        refine sg7 (kf := 16) (v := .int (iZ (((x :: Pl).length : Int) - 1))) dX7_settlePile_41 flX7_142 (show kd 384 = 7 from rfl) (by decide) rfl ?_
        refine s_iald (n := 160) (x := x) dX7_settlePile_44 (show kd 389 = 100 + 160 from rfl) (by first | omega | (rw [List.length_cons]; omega)) (by first | omega | (rw [List.length_cons]; omega)) (by decide) (by rw [show (((x :: Pl).length : Int) - 1 : Int).toNat = Pl.length by (first | omega | (rw [List.length_cons]; omega))]; exact (stk_tl hR1.2.2.2.2.2.2.1).1) ?_
        refine z_iconst dX7_settlePile_45 ?_
        refine s_callV (ci := 7) (a := 384) (As := [.int (iZ x), .int (iZ 0)]) (S := []) dX7_settlePile_46 okX7_emit mlX7_148 rfl (by omega) rfl (Nat.le_of_ble_eq_true rfl) (show kd 384 = 7 from rfl) (by decide) rfl (m_emit (d := d - 1) (x := x) (y := 0) σ A (va_up F1 16 (((x :: Pl).length : Int) - 1)) T1 Pf (psR_P hR1 (stk_tl hR1.2.2.2.2.2.2.1).2 (fun y hy => hR1.2.2.2.2.2.2.2.2 y (List.mem_cons_of_mem _ hy)) (v := ((x :: Pl).length : Int) - 1) (by rw [List.length_cons]; omega)) htx (by show D.length ≤ 303; omega)) (fun v_ σ_ hq => ?_)
        obtain ⟨rfl, T2, F2, e9, hR2, h18, kM, kX⟩ := hq
        subst e9
        show sE g_tt _ _ _ 49 [some (.ref 384), some (.int (iZ l))] [] (ms (pt σ T2 Pf w0) A F2)
        refine q_aload_n dX7_settlePile_49 rfl rfl ?_
        refine sg7 (kf := 15) (v := .ref 389) dX7_settlePile_50 flX7_29 (show kd 384 = 7 from rfl) (by decide) rfl ?_
        refine q_aload_n dX7_settlePile_53 rfl rfl ?_
        refine sg7 (kf := 16) (v := .int (iZ ((Pl.length : Nat) : Int))) dX7_settlePile_54 flX7_142 (show kd 384 = 7 from rfl) (by decide) (by show some (Value.int (iZ (F2 16))) = _; rw [hR2.2.2.2.2.1]) ?_
        refine s_iald (n := 160) (x := x) dX7_settlePile_57 (show kd 389 = 100 + 160 from rfl) (by first | omega | (rw [List.length_cons]; omega)) (by first | omega | (rw [List.length_cons]; omega)) (by decide) (by rw [show (((Pl.length : Nat) : Int) : Int).toNat = Pl.length by (first | omega | (rw [List.length_cons]; omega))]; exact (stk_tl hR1.2.2.2.2.2.2.1).1) ?_
        refine s_callS (As := [.int (iZ x)]) (S := []) dX7_settlePile_58 okX7_rank mlX7_145 rfl (by omega) rfl (Nat.le_of_ble_eq_true rfl) (m_rk (d := d - 1) (n := x) (by unfold inR; omega) (ms (pt σ T2 Pf w0) A F2)) (fun v_ σ_ hq => ?_)
        obtain ⟨rfl, e9⟩ := hq
        have e9 := e9.symm
        subst e9
        have rr := rkF_ran x
        show sE g_tt _ _ _ 61 [some (.ref 384), some (.int (iZ l))] [.int (iZ (rkF x))] (ms (pt σ T2 Pf w0) A F2)
        refine z_bipush dX7_settlePile_61 (by decide +kernel) ?_
        refine z_icmp_eq (tgt := 80) dX7_settlePile_63 (by decide) (by unfold inR; omega) (by unfold inR; omega) (fun c_3 => ?_) (fun c_3 => ?_)
        · refine q_aload_n dX7_settlePile_80 rfl rfl ?_
          refine q_dup dX7_settlePile_81 rfl ?_
          refine sg7 (kf := 17) (v := .int (iZ o)) dX7_settlePile_82 flX7_152 (show kd 384 = 7 from rfl) (by decide) (by show some (Value.int (iZ (F2 17))) = _; rw [hR2.2.2.2.2.2.1]) ?_
          refine z_iconst dX7_settlePile_85 ?_
          refine z_isub dX7_settlePile_86 ?_
          refine mp (kf := 17) dX7_settlePile_87 flX7_152 (by decide) ?_
          refine q_goto (tgt := 0) dX7_settlePile_90 (by decide) ?_
          rw [sP, if_pos (by omega), if_pos (by omega)]
          exact ih (o - 1) ((x, 0) :: D) (va_up F2 17 (o - 1)) T2 (psR_o hR2 (o - 1)) (by rw [List.length_cons]; omega) (h18.trans h18a) (kpM_tr (kpM_tr kM1 (kpM_up (kpM_rf F1) (Or.inr (Or.inl rfl)) _)) (kpM_up kM (Or.inr (Or.inr (Or.inl rfl))) _)) (kpX_tr kX1 kX)
        · refine q_aload_n dX7_settlePile_66 rfl rfl ?_
          refine sg7 (kf := 15) (v := .ref 389) dX7_settlePile_67 flX7_29 (show kd 384 = 7 from rfl) (by decide) rfl ?_
          refine q_aload_n dX7_settlePile_70 rfl rfl ?_
          refine sg7 (kf := 16) (v := .int (iZ ((Pl.length : Nat) : Int))) dX7_settlePile_71 flX7_142 (show kd 384 = 7 from rfl) (by decide) (by show some (Value.int (iZ (F2 16))) = _; rw [hR2.2.2.2.2.1]) ?_
          refine s_iald (n := 160) (x := x) dX7_settlePile_74 (show kd 389 = 100 + 160 from rfl) (by first | omega | (rw [List.length_cons]; omega)) (by first | omega | (rw [List.length_cons]; omega)) (by decide) (by rw [show (((Pl.length : Nat) : Int) : Int).toNat = Pl.length by (first | omega | (rw [List.length_cons]; omega))]; exact (stk_tl hR1.2.2.2.2.2.2.1).1) ?_
          refine z_bipush dX7_settlePile_75 (by decide +kernel) ?_
          refine z_icmp_ne (tgt := 0) dX7_settlePile_77 (by decide) (by unfold inR; omega) (by unfold inR; omega) (fun c_4 => ?_) (fun c_4 => ?_)
          · rw [sP, if_pos (by omega), if_neg (by omega)]
            exact ih o ((x, 0) :: D) F2 T2 hR2 (by rw [List.length_cons]; omega) (h18.trans h18a) (kpM_tr (kpM_tr kM1 (kpM_up (kpM_rf F1) (Or.inr (Or.inl rfl)) _)) kM) (kpX_tr kX1 kX)
          · refine q_aload_n dX7_settlePile_80 rfl rfl ?_
            refine q_dup dX7_settlePile_81 rfl ?_
            refine sg7 (kf := 17) (v := .int (iZ o)) dX7_settlePile_82 flX7_152 (show kd 384 = 7 from rfl) (by decide) (by show some (Value.int (iZ (F2 17))) = _; rw [hR2.2.2.2.2.2.1]) ?_
            refine z_iconst dX7_settlePile_85 ?_
            refine z_isub dX7_settlePile_86 ?_
            refine mp (kf := 17) dX7_settlePile_87 flX7_152 (by decide) ?_
            refine q_goto (tgt := 0) dX7_settlePile_90 (by decide) ?_
            rw [sP, if_pos (by omega), if_pos (by omega)]
            exact ih (o - 1) ((x, 0) :: D) (va_up F2 17 (o - 1)) T2 (psR_o hR2 (o - 1)) (by rw [List.length_cons]; omega) (h18.trans h18a) (kpM_tr (kpM_tr kM1 (kpM_up (kpM_rf F1) (Or.inr (Or.inl rfl)) _)) (kpM_up kM (Or.inr (Or.inr (Or.inl rfl))) _)) (kpX_tr kX1 kX)
set_option maxHeartbeats 4000000 in
set_option maxRecDepth 100000 in
theorem m_settlePile {d : Nat} {l : Int} (hd : 1 ≤ d) (hl : 0 ≤ l ∧ l ≤ 10) (σ : gS) (A F T Pf : Nat → Int) {w0 : Int} {b : Nat → Int} {n tx : Nat} {so : Int} {s : pS} (hR : psR b n tx so F w0 T Pf s) (htx : tx < 4) (hB : s.2.1.length ≤ 155 ∧ s.2.1.length + s.2.2.2.length ≤ 304) : sC mX7_settlePile d [.ref 384, .int (iZ l)] (ms (pt σ T Pf w0) A F) (sttQ b n tx so σ A F T Pf w0 (s.1, sP l s.2.1 s.2.2.1 s.2.2.2)) := by
  refine sC_of rfl (Nat.le_of_ble_eq_true rfl) ?_
  exact lm_settle hd hl htx σ A F T Pf s.2.1 s.2.2.1 s.2.2.2 F T hR hB rfl (kpM_rf F) (kpX_rf tx T)
set_option maxHeartbeats 4000000 in
set_option maxRecDepth 100000 in
theorem lm_openAt {d : Nat} (σ' : gS) (A F Pf : Nat → Int) (hp : σ'.2.1 389 = Pf) : ∀ (Pl : List Int), stk Pf Pl → (∀ x ∈ Pl, 0 ≤ x ∧ x ≤ 44) → Pl.length ≤ 160 → sE g_tt mX7_openAt d (fun r τ => r = some (.int (iZ (opA Pl))) ∧ τ = ms σ' A F) 7 [some (.ref 384), some (.int (iZ ((Pl.length : Int) - 1)))] [] (ms σ' A F) := by
  intro Pl
  induction Pl with
  | nil =>
    intro hst hr hl
    refine q_iload_n dX7_openAt_7 rfl rfl ?_
    refine z_if_lt (tgt := 28) dX7_openAt_8 (by decide) (by unfold inR; decide) (fun c_1 => ?_) (fun c_1 => absurd c_1 (by decide))
    refine q_iload_n dX7_openAt_28 rfl rfl ?_
    exact s_iretZ dX7_openAt_29 rfl ⟨rfl, rfl⟩
  | cons x Pl ih =>
    intro hst hr hl
    have hx := hr x (List.mem_cons_self ..)
    have hlc : (x :: Pl).length = Pl.length + 1 := rfl
    refine q_iload_n dX7_openAt_7 rfl rfl ?_
    refine z_if_lt (tgt := 28) dX7_openAt_8 (by decide) (by unfold inR; omega) (fun c_1 => absurd c_1 (by omega)) (fun c_1 => ?_)
    refine q_aload_n dX7_openAt_11 rfl rfl ?_
    refine sg7 (kf := 15) (v := .ref 389) dX7_openAt_12 flX7_29 (show kd 384 = 7 from rfl) (by decide) rfl ?_
    refine q_iload_n dX7_openAt_15 rfl rfl ?_
    refine s_iald (n := 160) (x := x) dX7_openAt_16 (show kd 389 = 100 + 160 from rfl) (by omega) (by omega) (by decide) (by rw [show (((x :: Pl).length : Int) - 1).toNat = Pl.length by omega]; show σ'.2.1 389 _ = _; rw [hp]; exact hst.1) ?_
    refine z_bipush dX7_openAt_17 (by decide +kernel) ?_
    refine z_icmp_ge (tgt := 28) dX7_openAt_19 (by decide) (by unfold inR; omega) (by unfold inR; omega) (fun c_2 => ?_) (fun c_2 => ?_)
    · refine q_iload_n dX7_openAt_28 rfl rfl ?_
      exact s_iretZ dX7_openAt_29 rfl ⟨by rw [opA, if_pos (by omega), show ((x :: Pl).length : Int) - 1 = ((Pl.length : Nat) : Int) by omega], rfl⟩
    · refine z_iinc dX7_openAt_22 rfl (by decide) ?_
      refine q_goto (tgt := 7) dX7_openAt_25 (by decide) ?_
      have k9 := ih hst.2 (fun y hy => hr y (List.mem_cons_of_mem _ hy)) (by omega)
      rw [show opA (x :: Pl) = opA Pl by rw [opA, if_neg (by omega)]]
      have e : ((x :: Pl).length : Int) - 1 + (-1) = (Pl.length : Int) - 1 := by omega
      show sE g_tt _ _ _ 7 [some (.ref 384), some (.int (iZ (((x :: Pl).length : Int) - 1 + (-1))))] [] (ms σ' A F)
      rw [e]
      exact k9
theorem opA_N : ∀ (Pf : Nat → Int) (Pl : List Int), stk Pf Pl → -1 ≤ opA Pl ∧ opA Pl < (Pl.length : Int) ∧ (opA Pl < 0 → opN Pl = -1) ∧ (0 ≤ opA Pl → Pf (opA Pl).toNat = opN Pl ∧ 40 ≤ opN Pl) := by
  intro Pf Pl
  induction Pl with
  | nil => intro _; exact ⟨by decide, by decide, fun _ => rfl, fun h => absurd h (by decide)⟩
  | cons x Pl ih =>
    intro h
    have i9 := ih h.2
    have hlc : (x :: Pl).length = Pl.length + 1 := rfl
    rw [opA, opN]
    by_cases q : 40 ≤ x
    · rw [if_pos q, if_pos q]
      exact ⟨by omega, by omega, fun z => by omega, fun _ => ⟨by rw [Int.toNat_natCast]; exact h.1, q⟩⟩
    · rw [if_neg q, if_neg q]
      exact ⟨i9.1, by omega, i9.2.2.1, i9.2.2.2⟩
theorem opN_ran : ∀ (Pl : List Int), (∀ x ∈ Pl, 0 ≤ x ∧ x ≤ 44) → -1 ≤ opN Pl ∧ opN Pl ≤ 44 := by
  intro Pl
  induction Pl with
  | nil => intro _; exact ⟨by decide, by decide⟩
  | cons x Pl ih =>
    intro h
    have hx := h x (List.mem_cons_self ..)
    rw [opN]
    split
    · omega
    · exact ih (fun y hy => h y (List.mem_cons_of_mem _ hy))
theorem cmP_01 : ∀ (Pl : List Int), cmP Pl = 0 ∨ cmP Pl = 1 := by
  intro Pl
  induction Pl with
  | nil => exact Or.inl rfl
  | cons x Pl ih =>
    rw [cmP]
    split
    · exact ih
    · split
      · exact Or.inr rfl
      · exact Or.inl rfl
set_option maxHeartbeats 4000000 in
set_option maxRecDepth 100000 in
theorem m_openAt {d : Nat} (σ : gS) (A F T Pf : Nat → Int) {w0 : Int} {b : Nat → Int} {n tx : Nat} {so : Int} {s : pS} (hR : psR b n tx so F w0 T Pf s) (hB : s.2.1.length ≤ 155) : sC mX7_openAt d [.ref 384] (ms (pt σ T Pf w0) A F) (fun r σ' => r = some (.int (iZ (opA s.2.1))) ∧ σ' = (ms (pt σ T Pf w0) A F)) := by
  refine sC_of rfl (Nat.le_of_ble_eq_true rfl) ?_
  show sE g_tt _ _ _ 0 [some (.ref 384), none] [] (ms (pt σ T Pf w0) A F)
  refine q_aload_n dX7_openAt_0 rfl rfl ?_
  refine sg7 (kf := 16) (v := .int (iZ (s.2.1.length : Int))) dX7_openAt_1 flX7_142 (show kd 384 = 7 from rfl) (by decide) (by show some (Value.int (iZ (F 16))) = _; rw [hR.2.2.2.2.1]) ?_
  refine z_iconst dX7_openAt_4 ?_
  refine z_isub dX7_openAt_5 ?_
  refine q_istore_n dX7_openAt_6 rfl (by decide) ?_
  show sE g_tt _ _ _ 7 [some (.ref 384), some (.int (iZ ((s.2.1.length : Int) - 1)))] [] (ms (pt σ T Pf w0) A F)
  exact lm_openAt (pt σ T Pf w0) A F Pf rfl s.2.1 hR.2.2.2.2.2.2.1 hR.2.2.2.2.2.2.2.2 (by omega)
set_option maxHeartbeats 4000000 in
set_option maxRecDepth 100000 in
theorem m_openNow {d : Nat} (hd : 1 ≤ d) (σ : gS) (A F T Pf : Nat → Int) {w0 : Int} {b : Nat → Int} {n tx : Nat} {so : Int} {s : pS} (hR : psR b n tx so F w0 T Pf s) (hB : s.2.1.length ≤ 155) : sC mX7_openNow d [.ref 384] (ms (pt σ T Pf w0) A F) (fun r σ' => r = some (.int (iZ (opN s.2.1))) ∧ σ' = (ms (pt σ T Pf w0) A F)) := by
  have oa := opA_N Pf s.2.1 hR.2.2.2.2.2.2.1
  refine sC_of rfl (Nat.le_of_ble_eq_true rfl) ?_
  show sE g_tt _ _ _ 0 [some (.ref 384)] [] (ms (pt σ T Pf w0) A F)
  refine q_aload_n dX7_openNow_0 rfl rfl ?_
  refine s_callV (ci := 7) (a := 384) (As := []) (S := []) dX7_openNow_1 okX7_openAt mlX7_155 rfl (by omega) rfl (Nat.le_of_ble_eq_true rfl) (show kd 384 = 7 from rfl) (by decide) rfl (m_openAt (d := d - 1) σ A F T Pf hR hB) (fun v_ σ_ hq => ?_)
  obtain ⟨rfl, e9⟩ := hq
  have e9 := e9.symm
  subst e9
  show sE g_tt _ _ _ 4 [some (.ref 384)] [.int (iZ (opA s.2.1))] (ms (pt σ T Pf w0) A F)
  refine z_if_ge (tgt := 11) dX7_openNow_4 (by decide) (by unfold inR; omega) (fun c_1 => ?_) (fun c_1 => ?_)
  · refine q_aload_n dX7_openNow_11 rfl rfl ?_
    refine sg7 (kf := 15) (v := .ref 389) dX7_openNow_12 flX7_29 (show kd 384 = 7 from rfl) (by decide) rfl ?_
    refine q_aload_n dX7_openNow_15 rfl rfl ?_
    refine s_callV (ci := 7) (a := 384) (As := []) (S := [.ref 389]) dX7_openNow_16 okX7_openAt mlX7_155 rfl (by omega) rfl (Nat.le_of_ble_eq_true rfl) (show kd 384 = 7 from rfl) (by decide) rfl (m_openAt (d := d - 1) σ A F T Pf hR hB) (fun v_ σ_ hq => ?_)
    obtain ⟨rfl, e9⟩ := hq
    have e9 := e9.symm
    subst e9
    show sE g_tt _ _ _ 19 [some (.ref 384)] [.int (iZ (opA s.2.1)), .ref 389] (ms (pt σ T Pf w0) A F)
    refine s_iald (n := 160) (x := opN s.2.1) dX7_openNow_19 (show kd 389 = 100 + 160 from rfl) (by omega) (by omega) (by decide) (by show Pf _ = _; exact (oa.2.2.2 (by omega)).1) ?_
    exact s_iretZ dX7_openNow_20 rfl ⟨rfl, rfl⟩
  · refine z_iconst dX7_openNow_7 ?_
    refine q_goto (tgt := 20) dX7_openNow_8 (by decide) ?_
    exact s_iretZ dX7_openNow_20 rfl ⟨by rw [oa.2.2.1 (by omega)], rfl⟩
set_option maxHeartbeats 4000000 in
set_option maxRecDepth 100000 in
theorem lm_isC {d : Nat} (hd : 1 ≤ d) (σ' : gS) (A F Pf : Nat → Int) (hp : σ'.2.1 389 = Pf) : ∀ (Pl : List Int), stk Pf Pl → (∀ x ∈ Pl, 0 ≤ x ∧ x ≤ 44) → Pl.length ≤ 160 → sE g_tt mX7_isCompared d (fun r τ => r = some (.int (iZ (cmP Pl))) ∧ τ = ms σ' A F) 7 [some (.ref 384), some (.int (iZ ((Pl.length : Int) - 1)))] [] (ms σ' A F) := by
  intro Pl
  induction Pl with
  | nil =>
    intro hst hr hl
    refine q_iload_n dX7_isCompared_7 rfl rfl ?_
    refine z_if_lt (tgt := 30) dX7_isCompared_8 (by decide) (by unfold inR; decide) (fun c_1 => ?_) (fun c_1 => absurd c_1 (by decide))
    refine q_iload_n dX7_isCompared_30 rfl rfl ?_
    refine z_if_lt (tgt := 51) dX7_isCompared_31 (by decide) (by unfold inR; decide) (fun c_1 => ?_) (fun c_1 => absurd c_1 (by decide))
    refine z_iconst dX7_isCompared_51 ?_
    exact s_zret dX7_isCompared_52 rfl (by omega) ⟨rfl, rfl⟩
  | cons x Pl ih =>
    intro hst hr hl
    have hx := hr x (List.mem_cons_self ..)
    have rr := rkF_ran x
    have hlc : (x :: Pl).length = Pl.length + 1 := rfl
    have hrd : σ'.2.1 389 (((x :: Pl).length : Int) - 1).toNat = x := by rw [show (((x :: Pl).length : Int) - 1).toNat = Pl.length by omega, hp]; exact hst.1
    refine q_iload_n dX7_isCompared_7 rfl rfl ?_
    refine z_if_lt (tgt := 30) dX7_isCompared_8 (by decide) (by unfold inR; omega) (fun c_1 => absurd c_1 (by omega)) (fun c_1 => ?_)
    refine q_aload_n dX7_isCompared_11 rfl rfl ?_
    refine sg7 (kf := 15) (v := .ref 389) dX7_isCompared_12 flX7_29 (show kd 384 = 7 from rfl) (by decide) rfl ?_
    refine q_iload_n dX7_isCompared_15 rfl rfl ?_
    refine s_iald (n := 160) (x := x) dX7_isCompared_16 (show kd 389 = 100 + 160 from rfl) (by omega) (by omega) (by decide) hrd ?_
    refine s_callS (As := [.int (iZ x)]) (S := []) dX7_isCompared_17 okX7_rank mlX7_145 rfl (by omega) rfl (Nat.le_of_ble_eq_true rfl) (m_rk (d := d - 1) (n := x) (by unfold inR; omega) (ms σ' A F)) (fun v_ σ_ hq => ?_)
    obtain ⟨rfl, e9⟩ := hq
    have e9 := e9.symm
    subst e9
    show sE g_tt _ _ _ 20 [some (.ref 384), some (.int (iZ (((x :: Pl).length : Int) - 1)))] [.int (iZ (rkF x))] (ms σ' A F)
    refine z_iconst dX7_isCompared_20 ?_
    refine z_icmp_le (tgt := 30) dX7_isCompared_21 (by decide) (by unfold inR; omega) (by unfold inR; omega) (fun c_2 => ?_) (fun c_2 => ?_)
    · refine q_iload_n dX7_isCompared_30 rfl rfl ?_
      refine z_if_lt (tgt := 51) dX7_isCompared_31 (by decide) (by unfold inR; omega) (fun c_1 => absurd c_1 (by omega)) (fun c_1 => ?_)
      refine q_aload_n dX7_isCompared_34 rfl rfl ?_
      refine sg7 (kf := 15) (v := .ref 389) dX7_isCompared_35 flX7_29 (show kd 384 = 7 from rfl) (by decide) rfl ?_
      refine q_iload_n dX7_isCompared_38 rfl rfl ?_
      refine s_iald (n := 160) (x := x) dX7_isCompared_39 (show kd 389 = 100 + 160 from rfl) (by omega) (by omega) (by decide) hrd ?_
      refine s_callS (As := [.int (iZ x)]) (S := []) dX7_isCompared_40 okX7_rank mlX7_145 rfl (by omega) rfl (Nat.le_of_ble_eq_true rfl) (m_rk (d := d - 1) (n := x) (by unfold inR; omega) (ms σ' A F)) (fun v_ σ_ hq => ?_)
      obtain ⟨rfl, e9⟩ := hq
      have e9 := e9.symm
      subst e9
      show sE g_tt _ _ _ 43 [some (.ref 384), some (.int (iZ (((x :: Pl).length : Int) - 1)))] [.int (iZ (rkF x))] (ms σ' A F)
      refine z_iconst dX7_isCompared_43 ?_
      refine z_icmp_ne (tgt := 51) dX7_isCompared_44 (by decide) (by unfold inR; omega) (by unfold inR; omega) (fun c_3 => ?_) (fun c_3 => ?_)
      · refine z_iconst dX7_isCompared_51 ?_
        exact s_zret dX7_isCompared_52 rfl (by omega) ⟨by rw [cmP, if_neg (by omega), if_neg c_3], rfl⟩
      · refine z_iconst dX7_isCompared_47 ?_
        refine q_goto (tgt := 52) dX7_isCompared_48 (by decide) ?_
        exact s_zret dX7_isCompared_52 rfl (by omega) ⟨by rw [cmP, if_neg (by omega), if_pos c_3], rfl⟩
    · refine z_iinc dX7_isCompared_24 rfl (by decide) ?_
      refine q_goto (tgt := 7) dX7_isCompared_27 (by decide) ?_
      have k9 := ih hst.2 (fun y hy => hr y (List.mem_cons_of_mem _ hy)) (by omega)
      rw [show cmP (x :: Pl) = cmP Pl by rw [cmP, if_pos (by omega)]]
      have e : ((x :: Pl).length : Int) - 1 + (-1) = (Pl.length : Int) - 1 := by omega
      show sE g_tt _ _ _ 7 [some (.ref 384), some (.int (iZ (((x :: Pl).length : Int) - 1 + (-1))))] [] (ms σ' A F)
      rw [e]
      exact k9
set_option maxHeartbeats 4000000 in
set_option maxRecDepth 100000 in
theorem m_isCompared {d : Nat} (hd : 1 ≤ d) (σ : gS) (A F T Pf : Nat → Int) {w0 : Int} {b : Nat → Int} {n tx : Nat} {so : Int} {s : pS} (hR : psR b n tx so F w0 T Pf s) (hB : s.2.1.length ≤ 155) : sC mX7_isCompared d [.ref 384] (ms (pt σ T Pf w0) A F) (fun r σ' => r = some (.int (iZ (cmP s.2.1))) ∧ σ' = (ms (pt σ T Pf w0) A F)) := by
  refine sC_of rfl (Nat.le_of_ble_eq_true rfl) ?_
  show sE g_tt _ _ _ 0 [some (.ref 384), none] [] (ms (pt σ T Pf w0) A F)
  refine q_aload_n dX7_isCompared_0 rfl rfl ?_
  refine sg7 (kf := 16) (v := .int (iZ (s.2.1.length : Int))) dX7_isCompared_1 flX7_142 (show kd 384 = 7 from rfl) (by decide) (by show some (Value.int (iZ (F 16))) = _; rw [hR.2.2.2.2.1]) ?_
  refine z_iconst dX7_isCompared_4 ?_
  refine z_isub dX7_isCompared_5 ?_
  refine q_istore_n dX7_isCompared_6 rfl (by decide) ?_
  show sE g_tt _ _ _ 7 [some (.ref 384), some (.int (iZ ((s.2.1.length : Int) - 1)))] [] (ms (pt σ T Pf w0) A F)
  exact lm_isC hd (pt σ T Pf w0) A F Pf rfl s.2.1 hR.2.2.2.2.2.2.1 hR.2.2.2.2.2.2.2.2 (by omega)
