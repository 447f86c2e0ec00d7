/-! ===== what a law of the class says ===== -/
/-- rows of scratch (the stacks of the texts) aside the same -/
def eqT (σ σ1 : gS) : Prop := σ1.1 = σ.1 ∧ (∀ a, a ≠ 327 → a ≠ 345 → a ≠ 351 → a ≠ 357 → a ≠ 363 → σ1.2.1 a = σ.2.1 a) ∧ σ1.2.2 = σ.2.2
theorem eqT_rf (σ : gS) : eqT σ σ := ⟨rfl, fun _ _ _ _ _ _ => rfl, rfl⟩
theorem eqT_tr {σ σ1 σ2 : gS} (h : eqT σ σ1) (h2 : eqT σ1 σ2) : eqT σ σ2 := ⟨h2.1.trans h.1, fun a q1 q2 q3 q4 q5 => (h2.2.1 a q1 q2 q3 q4 q5).trans (h.2.1 a q1 q2 q3 q4 q5), h2.2.2.trans h.2.2⟩
theorem eqT_w {x : Nat} (hx : kd x = 4) (σ : gS) (R : Nat → Int) : eqT σ (sRw σ (x + 5) R) := ⟨rfl, fun a q1 q2 q3 q4 q5 => va_up_ne _ _ (by have := (kd_tx hx).2.2; omega), rfl⟩
/-- a part of a text says w of each house -/
def ptOK (C : Nat → Int) (len fr w : Int) (c nt : Int) (wo v : (Nat → Int) → Nat → Int) : Prop :=
  (fr = -1 ∧ ∀ A h, v A h = wo A h) ∨ ∃ (O V : Nat → Nat) (i n : Nat), fr = (i : Int) ∧ w = (n : Int) ∧ i ≤ n ∧ (n : Int) ≤ len ∧ n ≤ 300 ∧ (∀ k, k < n → C k = ((O k : Nat) : Int) + 64 * ((V k : Nat) : Int) ∧ O k < 64 ∧ V k ≤ 1000000) ∧ ∀ A h, gd c nt A → h < 8 → ∃ m S, cRun A h O V n m i [] = some S ∧ v A h = cOut S
/-- a text of the class says w (holds) and v (gifts) -/
def txOK (σ : gS) (x : Nat) (c nt : Int) (w v : (Nat → Int) → Nat → Int) : Prop :=
  kd x = 4 ∧ inR (σ.1 x 1) ∧ inR (σ.1 x 3) ∧ inR (σ.1 x 5) ∧ ptOK (σ.2.1 (x + 1)) (σ.1 x 1) (σ.1 x 2) (σ.1 x 3) c nt (fun _ _ => 0) w ∧ ptOK (σ.2.1 (x + 1)) (σ.1 x 1) (σ.1 x 4) (σ.1 x 5) c nt (fun A _ => 1 + A 7) v
theorem txOK_cong {σ σ1 : gS} {x : Nat} {c nt : Int} {w v : (Nat → Int) → Nat → Int} (h : txOK σ x c nt w v) (h1 : σ1.1 x = σ.1 x) (h2 : σ1.2.1 (x + 1) = σ.2.1 (x + 1)) : txOK σ1 x c nt w v := by
  unfold txOK
  rw [h1, h2]
  exact h
theorem txOK_T {σ σ1 : gS} {x : Nat} {c nt : Int} {w v : (Nat → Int) → Nat → Int} (h : txOK σ x c nt w v) (e : eqT σ σ1) : txOK σ1 x c nt w v :=
  txOK_cong h (by rw [e.1]) (e.2.1 _ (by have := (kd_tx h.1).2.2; omega) (by have := (kd_tx h.1).2.2; omega) (by have := (kd_tx h.1).2.2; omega) (by have := (kd_tx h.1).2.2; omega) (by have := (kd_tx h.1).2.2; omega))
theorem txOK_st {σ : gS} {x s : Nat} (hs : kd s = 2) {c nt : Int} {w v : (Nat → Int) → Nat → Int} (h : txOK σ x c nt w v) (K H E N f : Nat → Int) : txOK (st σ s K H E N f) x c nt w v :=
  txOK_cong h (st_o1 σ K H E N f (by have := (kd_tx h.1).2.2; have := kd_sp hs; omega)) (st_o2 σ K H E N f (by have := (kd_tx h.1).2.2; have := kd_sp hs; omega))
theorem st_eqT {σ σ1 : gS} {s : Nat} (hs : kd s = 2) (K H E N f : Nat → Int) (e : eqT σ σ1) : eqT (st σ s K H E N f) (st σ1 s K H E N f) := by
  have q := kd_sp hs
  refine ⟨?_, fun a q1 q2 q3 q4 q5 => ?_, e.2.2⟩
  · show va_up σ1.1 s f = va_up σ.1 s f; rw [e.1]
  · by_cases c : a < s + 1 ∨ s + 4 < a
    · rw [st_o2 _ _ _ _ _ _ c, st_o2 _ _ _ _ _ _ c]; exact e.2.1 a q1 q2 q3 q4 q5
    · have : a = s + 1 ∨ a = s + 2 ∨ a = s + 3 ∨ a = s + 4 := by omega
      rcases this with rfl | rfl | rfl | rfl
      · rw [st_K, st_K]
      · rw [st_H, st_H]
      · rw [st_E, st_E]
      · rw [st_N, st_N]
set_option maxHeartbeats 4000000 in
set_option maxRecDepth 100000 in
theorem c_worth1 {d s x h : Nat} (hd : 3 ≤ d) (hh : h < 8) (hs : kd s = 2) (σ : gS) (K H E N f : Nat → Int) {on : Int} {A : Nat → Int} {c nt : Int} (g : gd c nt A) (tr : trR on K H E f A) (hc : c ≤ 100000) {w v : (Nat → Int) → Nat → Int} (tx : txOK σ x c nt w v) : sC mX4_worth d [.ref x, .int (iZ 1), .ref s, .int (iZ (h : Int))] (st σ s K H E N f) (fun r σ' => r = some (.int (iZ (w A h))) ∧ ∃ R9, σ' = st (sRw σ (x + 5) R9) s K H E N f) := by
  have hxp := (kd_tx tx.1).2.2
  have hsp := kd_sp hs
  have r1 := tx.2.1
  have r3 := tx.2.2.1
  have r5 := tx.2.2.2.1
  have f4 := tr.2.2.1.2.2.1
  have a7 := g.2.2.2.2.2.2.2.1
  refine sC_of rfl (Nat.le_of_ble_eq_true rfl) ?_
  rcases tx.2.2.2.2.1 with ⟨hfr, hwo⟩ | ⟨O, V, i, n, hfr, hto, hin, hnl, hn3, hC, hR⟩
  · have hw9 := hwo A h
    refine q_iload_n dX4_worth_0 rfl rfl ?_
    refine z_if_eq (tgt := 11) dX4_worth_1 (by decide) (by unfold inR at *; omega) (fun c_1 => ?_) (fun c_1 => ?_)
    · exfalso
      revert c_1
      decide
    · refine q_aload_n dX4_worth_4 rfl rfl ?_
      refine sg4 (kf := 2) (v := .int (iZ (σ.1 x 2))) dX4_worth_5 flX4_19 tx.1 (by decide) (by rw [st_o1 _ _ _ _ _ _ (by omega)]; rfl) ?_
      refine q_goto (tgt := 15) dX4_worth_8 (by decide) ?_
      refine q_istore dX4_worth_15 (by decide) ?_
      show sE g_tt _ _ _ 17 [some (.ref x), some (.int (iZ 1)), some (.ref s), some (.int (iZ (h : Int))), some (.int (iZ (σ.1 x 2))), none, none, none, none, none, none, none, none, none, none] [] (st σ s K H E N f)
      refine q_aload_n dX4_worth_17 rfl rfl ?_
      refine sg4 (kf := 1) (v := .int (iZ (σ.1 x 1))) dX4_worth_18 flX4_15 tx.1 (by decide) (by rw [st_o1 _ _ _ _ _ _ (by omega)]; rfl) ?_
      refine q_iload_n dX4_worth_21 rfl rfl ?_
      refine z_if_eq (tgt := 32) dX4_worth_22 (by decide) (by unfold inR at *; omega) (fun c_2 => ?_) (fun c_2 => ?_)
      · exfalso
        revert c_2
        decide
      · refine q_aload_n dX4_worth_25 rfl rfl ?_
        refine sg4 (kf := 3) (v := .int (iZ (σ.1 x 3))) dX4_worth_26 flX4_22 tx.1 (by decide) (by rw [st_o1 _ _ _ _ _ _ (by omega)]; rfl) ?_
        refine q_goto (tgt := 36) dX4_worth_29 (by decide) ?_
        refine z_mmin dX4_worth_36 mlX4_50 (by omega) (Nat.le_of_ble_eq_true rfl) (by unfold inR at *; omega) (by unfold inR at *; omega) ?_
        refine q_istore dX4_worth_39 (by decide) ?_
        show sE g_tt _ _ _ 41 [some (.ref x), some (.int (iZ 1)), some (.ref s), some (.int (iZ (h : Int))), some (.int (iZ (σ.1 x 2))), some (.int (iZ (min (σ.1 x 1) (σ.1 x 3)))), none, none, none, none, none, none, none, none, none] [] (st σ s K H E N f)
        refine q_iload dX4_worth_41 rfl ?_
        refine z_if_ge (tgt := 61) dX4_worth_43 (by decide) (by unfold inR at *; omega) (fun c_3 => ?_) (fun c_3 => ?_)
        · exfalso
          omega
        · refine q_iload_n dX4_worth_46 rfl rfl ?_
          refine z_if_eq (tgt := 54) dX4_worth_47 (by decide) (by unfold inR at *; omega) (fun c_4 => ?_) (fun c_4 => ?_)
          · exfalso
            revert c_4
            decide
          · refine z_iconst dX4_worth_50 ?_
            refine q_goto (tgt := 60) dX4_worth_51 (by decide) ?_
            exact s_iretZ dX4_worth_60 rfl ⟨by rw [hw9], σ.2.1 (x + 5), by rw [sRw_id]⟩
  · obtain ⟨m, S, hrun, hw9⟩ := hR A h g hh
    refine q_iload_n dX4_worth_0 rfl rfl ?_
    refine z_if_eq (tgt := 11) dX4_worth_1 (by decide) (by unfold inR at *; omega) (fun c_1 => ?_) (fun c_1 => ?_)
    · exfalso
      revert c_1
      decide
    · refine q_aload_n dX4_worth_4 rfl rfl ?_
      refine sg4 (kf := 2) (v := .int (iZ (σ.1 x 2))) dX4_worth_5 flX4_19 tx.1 (by decide) (by rw [st_o1 _ _ _ _ _ _ (by omega)]; rfl) ?_
      refine q_goto (tgt := 15) dX4_worth_8 (by decide) ?_
      refine q_istore dX4_worth_15 (by decide) ?_
      show sE g_tt _ _ _ 17 [some (.ref x), some (.int (iZ 1)), some (.ref s), some (.int (iZ (h : Int))), some (.int (iZ (σ.1 x 2))), none, none, none, none, none, none, none, none, none, none] [] (st σ s K H E N f)
      refine q_aload_n dX4_worth_17 rfl rfl ?_
      refine sg4 (kf := 1) (v := .int (iZ (σ.1 x 1))) dX4_worth_18 flX4_15 tx.1 (by decide) (by rw [st_o1 _ _ _ _ _ _ (by omega)]; rfl) ?_
      refine q_iload_n dX4_worth_21 rfl rfl ?_
      refine z_if_eq (tgt := 32) dX4_worth_22 (by decide) (by unfold inR at *; omega) (fun c_2 => ?_) (fun c_2 => ?_)
      · exfalso
        revert c_2
        decide
      · refine q_aload_n dX4_worth_25 rfl rfl ?_
        refine sg4 (kf := 3) (v := .int (iZ (σ.1 x 3))) dX4_worth_26 flX4_22 tx.1 (by decide) (by rw [st_o1 _ _ _ _ _ _ (by omega)]; rfl) ?_
        refine q_goto (tgt := 36) dX4_worth_29 (by decide) ?_
        refine z_mmin dX4_worth_36 mlX4_50 (by omega) (Nat.le_of_ble_eq_true rfl) (by unfold inR at *; omega) (by unfold inR at *; omega) ?_
        refine q_istore dX4_worth_39 (by decide) ?_
        show sE g_tt _ _ _ 41 [some (.ref x), some (.int (iZ 1)), some (.ref s), some (.int (iZ (h : Int))), some (.int (iZ (σ.1 x 2))), some (.int (iZ (min (σ.1 x 1) (σ.1 x 3)))), none, none, none, none, none, none, none, none, none] [] (st σ s K H E N f)
        refine q_iload dX4_worth_41 rfl ?_
        refine z_if_ge (tgt := 61) dX4_worth_43 (by decide) (by unfold inR at *; omega) (fun c_3 => ?_) (fun c_3 => ?_)
        · refine z_iconst dX4_worth_61 ?_
          refine q_istore dX4_worth_62 (by decide) ?_
          show sE g_tt _ _ _ 64 [some (.ref x), some (.int (iZ 1)), some (.ref s), some (.int (iZ (h : Int))), some (.int (iZ (σ.1 x 2))), some (.int (iZ (min (σ.1 x 1) (σ.1 x 3)))), some (.int (iZ 0)), none, none, none, none, none, none, none, none] [] (st σ s K H E N f)
          refine q_iload dX4_worth_64 rfl ?_
          refine q_istore dX4_worth_66 (by decide) ?_
          show sE g_tt _ _ _ 68 [some (.ref x), some (.int (iZ 1)), some (.ref s), some (.int (iZ (h : Int))), some (.int (iZ (σ.1 x 2))), some (.int (iZ (min (σ.1 x 1) (σ.1 x 3)))), some (.int (iZ 0)), some (.int (iZ (σ.1 x 2))), none, none, none, none, none, none, none] [] (st σ s K H E N f)
          refine sE_eq (show st (sRw σ (x + 5) (σ.2.1 (x + 5))) s K H E N f = st σ s K H E N f by rw [sRw_id]) ?_
          rw [show min (σ.1 x 1) (σ.1 x 3) = (n : Int) by rw [hto]; omega, hfr]
          refine sE_imp (fun v9 σ9 q => ?_) (lp_worth (w := n) hd hh hs tx.1 σ K H E N f g tr hc O V hn3 hC S m i [] (σ.2.1 (x + 5)) _ _ _ _ _ _ hrun (by simp) (fun z hz => absurd hz (by simp)) trivial (by omega))
          exact ⟨by rw [q.1, hw9], q.2⟩
        · exfalso
          omega
set_option maxHeartbeats 4000000 in
set_option maxRecDepth 100000 in
theorem c_worth0 {d s x h : Nat} (hd : 3 ≤ d) (hh : h < 8) (hs : kd s = 2) (σ : gS) (K H E N f : Nat → Int) {on : Int} {A : Nat → Int} {c nt : Int} (g : gd c nt A) (tr : trR on K H E f A) (hc : c ≤ 100000) {w v : (Nat → Int) → Nat → Int} (tx : txOK σ x c nt w v) : sC mX4_worth d [.ref x, .int (iZ 0), .ref s, .int (iZ (h : Int))] (st σ s K H E N f) (fun r σ' => r = some (.int (iZ (v A h))) ∧ ∃ R9, σ' = st (sRw σ (x + 5) R9) s K H E N f) := by
  have hxp := (kd_tx tx.1).2.2
  have hsp := kd_sp hs
  have r1 := tx.2.1
  have r3 := tx.2.2.1
  have r5 := tx.2.2.2.1
  have f4 := tr.2.2.1.2.2.1
  have a7 := g.2.2.2.2.2.2.2.1
  refine sC_of rfl (Nat.le_of_ble_eq_true rfl) ?_
  rcases tx.2.2.2.2.2 with ⟨hfr, hwo⟩ | ⟨O, V, i, n, hfr, hto, hin, hnl, hn3, hC, hR⟩
  · have hw9 := hwo A h
    refine q_iload_n dX4_worth_0 rfl rfl ?_
    refine z_if_eq (tgt := 11) dX4_worth_1 (by decide) (by unfold inR at *; omega) (fun c_1 => ?_) (fun c_1 => ?_)
    · refine q_aload_n dX4_worth_11 rfl rfl ?_
      refine sg4 (kf := 4) (v := .int (iZ (σ.1 x 4))) dX4_worth_12 flX4_25 tx.1 (by decide) (by rw [st_o1 _ _ _ _ _ _ (by omega)]; rfl) ?_
      refine q_istore dX4_worth_15 (by decide) ?_
      show sE g_tt _ _ _ 17 [some (.ref x), some (.int (iZ 0)), some (.ref s), some (.int (iZ (h : Int))), some (.int (iZ (σ.1 x 4))), none, none, none, none, none, none, none, none, none, none] [] (st σ s K H E N f)
      refine q_aload_n dX4_worth_17 rfl rfl ?_
      refine sg4 (kf := 1) (v := .int (iZ (σ.1 x 1))) dX4_worth_18 flX4_15 tx.1 (by decide) (by rw [st_o1 _ _ _ _ _ _ (by omega)]; rfl) ?_
      refine q_iload_n dX4_worth_21 rfl rfl ?_
      refine z_if_eq (tgt := 32) dX4_worth_22 (by decide) (by unfold inR at *; omega) (fun c_2 => ?_) (fun c_2 => ?_)
      · refine q_aload_n dX4_worth_32 rfl rfl ?_
        refine sg4 (kf := 5) (v := .int (iZ (σ.1 x 5))) dX4_worth_33 flX4_28 tx.1 (by decide) (by rw [st_o1 _ _ _ _ _ _ (by omega)]; rfl) ?_
        refine z_mmin dX4_worth_36 mlX4_50 (by omega) (Nat.le_of_ble_eq_true rfl) (by unfold inR at *; omega) (by unfold inR at *; omega) ?_
        refine q_istore dX4_worth_39 (by decide) ?_
        show sE g_tt _ _ _ 41 [some (.ref x), some (.int (iZ 0)), some (.ref s), some (.int (iZ (h : Int))), some (.int (iZ (σ.1 x 4))), some (.int (iZ (min (σ.1 x 1) (σ.1 x 5)))), none, none, none, none, none, none, none, none, none] [] (st σ s K H E N f)
        refine q_iload dX4_worth_41 rfl ?_
        refine z_if_ge (tgt := 61) dX4_worth_43 (by decide) (by unfold inR at *; omega) (fun c_3 => ?_) (fun c_3 => ?_)
        · exfalso
          omega
        · refine q_iload_n dX4_worth_46 rfl rfl ?_
          refine z_if_eq (tgt := 54) dX4_worth_47 (by decide) (by unfold inR at *; omega) (fun c_4 => ?_) (fun c_4 => ?_)
          · refine z_iconst dX4_worth_54 ?_
            refine q_aload_n dX4_worth_55 rfl rfl ?_
            refine tg (kf := 4) (x := f 4) dX4_worth_56 flX4_56 hs (by decide) rfl ?_
            refine z_iadd dX4_worth_59 ?_
            exact s_iretZ dX4_worth_60 rfl ⟨by rw [hw9, tr.2.2.1.2.2.1], σ.2.1 (x + 5), by rw [sRw_id]⟩
          · exfalso
            revert c_4
            decide
      · exfalso
        revert c_2
        decide
    · exfalso
      revert c_1
      decide
  · obtain ⟨m, S, hrun, hw9⟩ := hR A h g hh
    refine q_iload_n dX4_worth_0 rfl rfl ?_
    refine z_if_eq (tgt := 11) dX4_worth_1 (by decide) (by unfold inR at *; omega) (fun c_1 => ?_) (fun c_1 => ?_)
    · refine q_aload_n dX4_worth_11 rfl rfl ?_
      refine sg4 (kf := 4) (v := .int (iZ (σ.1 x 4))) dX4_worth_12 flX4_25 tx.1 (by decide) (by rw [st_o1 _ _ _ _ _ _ (by omega)]; rfl) ?_
      refine q_istore dX4_worth_15 (by decide) ?_
      show sE g_tt _ _ _ 17 [some (.ref x), some (.int (iZ 0)), some (.ref s), some (.int (iZ (h : Int))), some (.int (iZ (σ.1 x 4))), none, none, none, none, none, none, none, none, none, none] [] (st σ s K H E N f)
      refine q_aload_n dX4_worth_17 rfl rfl ?_
      refine sg4 (kf := 1) (v := .int (iZ (σ.1 x 1))) dX4_worth_18 flX4_15 tx.1 (by decide) (by rw [st_o1 _ _ _ _ _ _ (by omega)]; rfl) ?_
      refine q_iload_n dX4_worth_21 rfl rfl ?_
      refine z_if_eq (tgt := 32) dX4_worth_22 (by decide) (by unfold inR at *; omega) (fun c_2 => ?_) (fun c_2 => ?_)
      · refine q_aload_n dX4_worth_32 rfl rfl ?_
        refine sg4 (kf := 5) (v := .int (iZ (σ.1 x 5))) dX4_worth_33 flX4_28 tx.1 (by decide) (by rw [st_o1 _ _ _ _ _ _ (by omega)]; rfl) ?_
        refine z_mmin dX4_worth_36 mlX4_50 (by omega) (Nat.le_of_ble_eq_true rfl) (by unfold inR at *; omega) (by unfold inR at *; omega) ?_
        refine q_istore dX4_worth_39 (by decide) ?_
        show sE g_tt _ _ _ 41 [some (.ref x), some (.int (iZ 0)), some (.ref s), some (.int (iZ (h : Int))), some (.int (iZ (σ.1 x 4))), some (.int (iZ (min (σ.1 x 1) (σ.1 x 5)))), none, none, none, none, none, none, none, none, none] [] (st σ s K H E N f)
        refine q_iload dX4_worth_41 rfl ?_
        refine z_if_ge (tgt := 61) dX4_worth_43 (by decide) (by unfold inR at *; omega) (fun c_3 => ?_) (fun c_3 => ?_)
        · refine z_iconst dX4_worth_61 ?_
          refine q_istore dX4_worth_62 (by decide) ?_
          show sE g_tt _ _ _ 64 [some (.ref x), some (.int (iZ 0)), some (.ref s), some (.int (iZ (h : Int))), some (.int (iZ (σ.1 x 4))), some (.int (iZ (min (σ.1 x 1) (σ.1 x 5)))), some (.int (iZ 0)), none, none, none, none, none, none, none, none] [] (st σ s K H E N f)
          refine q_iload dX4_worth_64 rfl ?_
          refine q_istore dX4_worth_66 (by decide) ?_
          show sE g_tt _ _ _ 68 [some (.ref x), some (.int (iZ 0)), some (.ref s), some (.int (iZ (h : Int))), some (.int (iZ (σ.1 x 4))), some (.int (iZ (min (σ.1 x 1) (σ.1 x 5)))), some (.int (iZ 0)), some (.int (iZ (σ.1 x 4))), none, none, none, none, none, none, none] [] (st σ s K H E N f)
          refine sE_eq (show st (sRw σ (x + 5) (σ.2.1 (x + 5))) s K H E N f = st σ s K H E N f by rw [sRw_id]) ?_
          rw [show min (σ.1 x 1) (σ.1 x 5) = (n : Int) by rw [hto]; omega, hfr]
          refine sE_imp (fun v9 σ9 q => ?_) (lp_worth (w := n) hd hh hs tx.1 σ K H E N f g tr hc O V hn3 hC S m i [] (σ.2.1 (x + 5)) _ _ _ _ _ _ hrun (by simp) (fun z hz => absurd hz (by simp)) trivial (by omega))
          exact ⟨by rw [q.1, hw9], q.2⟩
        · exfalso
          omega
      · exfalso
        revert c_2
        decide
    · exfalso
      revert c_1
      decide
set_option maxHeartbeats 4000000 in
set_option maxRecDepth 100000 in
theorem c_isReady {d s x h : Nat} (hd : 4 ≤ d) (hh : h < 8) (hs : kd s = 2) (σ : gS) (K H E N f : Nat → Int) {on : Int} {A : Nat → Int} {c nt : Int} (g : gd c nt A) (tr : trR on K H E f A) (hc : c ≤ 100000) {w v : (Nat → Int) → Nat → Int} (tx : txOK σ x c nt w v) (hw0 : 0 ≤ w A h) (hw9 : w A h ≤ 9) : sC mX2_isReady d [.ref s, .int (iZ (h : Int)), .ref x] (st σ s K H E N f) (fun r σ' => r = some (.int (iZ (if w A h + 2 ≤ A (11 + h) then 1 else 0))) ∧ ∃ σ1, σ' = st σ1 s K H E N f ∧ eqT σ σ1) := by
  have kk := tr.1 h hh
  have kr := kd_ran g hh
  refine sC_of rfl (Nat.le_of_ble_eq_true rfl) ?_
  show sE g_tt _ _ _ 0 [some (.ref s), some (.int (iZ (h : Int))), some (.ref x), none] [] (st σ s K H E N f)
  refine q_aload_n dX2_isReady_0 rfl rfl ?_
  refine sg2 (kf := 0) (v := .ref (s + 1)) dX2_isReady_1 flX2_9 hs (by decide) rfl ?_
  refine q_iload_n dX2_isReady_4 rfl rfl ?_
  refine tl1 (x := K h) dX2_isReady_5 hs (by omega) (by omega) rfl ?_
  refine q_istore_n dX2_isReady_6 rfl (by decide) ?_
  show sE g_tt _ _ _ 7 [some (.ref s), some (.int (iZ (h : Int))), some (.ref x), some (.int (iZ (K h)))] [] (st σ s K H E N f)
  refine q_iload_n dX2_isReady_7 rfl rfl ?_
  refine z_iconst dX2_isReady_8 ?_
  refine z_icmp_lt (tgt := 18) dX2_isReady_9 (by decide) (by unfold inR at *; omega) (by unfold inR at *; omega) (fun c_1 => ?_) (fun c_1 => ?_)
  · refine q_iload_n dX2_isReady_18 rfl rfl ?_
    refine z_iconst dX2_isReady_19 ?_
    refine z_icmp_lt (tgt := 27) dX2_isReady_20 (by decide) (by unfold inR at *; omega) (by unfold inR at *; omega) (fun c_2 => ?_) (fun c_2 => ?_)
    · refine z_iconst dX2_isReady_27 ?_
      exact s_zret dX2_isReady_28 rfl (by omega) ⟨by first | ((repeat (first | rw [if_pos (by omega)] | rw [if_neg (by omega)])); done) | (exfalso; omega), σ, rfl, eqT_rf σ⟩
    · refine z_iconst dX2_isReady_23 ?_
      refine q_goto (tgt := 28) dX2_isReady_24 (by decide) ?_
      exact s_zret dX2_isReady_28 rfl (by omega) ⟨by first | ((repeat (first | rw [if_pos (by omega)] | rw [if_neg (by omega)])); done) | (exfalso; omega), σ, rfl, eqT_rf σ⟩
  · refine q_iload_n dX2_isReady_12 rfl rfl ?_
    refine z_bipush dX2_isReady_13 (by decide +kernel) ?_
    refine z_icmp_lt (tgt := 29) dX2_isReady_15 (by decide) (by unfold inR at *; omega) (by unfold inR at *; omega) (fun c_3 => ?_) (fun c_3 => ?_)
    · refine q_iload_n dX2_isReady_29 rfl rfl ?_
      refine q_aload_n dX2_isReady_30 rfl rfl ?_
      refine z_iconst dX2_isReady_31 ?_
      refine q_aload_n dX2_isReady_32 rfl rfl ?_
      refine q_iload_n dX2_isReady_33 rfl rfl ?_
      refine s_callV (ci := 4) (a := x) (As := [.int (iZ 1), .ref s, .int (iZ (h : Int))]) (S := [.int (iZ (K h))]) dX2_isReady_34 okX4_worth mlX2_55 rfl (by omega) rfl (Nat.le_of_ble_eq_true rfl) tx.1 (by decide) rfl (c_worth1 (d := d - 1) (by omega) hh hs σ K H E N f g tr hc tx) (fun v_ σ_ hq => ?_)
      obtain ⟨rfl, R9, e9⟩ := hq
      subst e9
      show sE g_tt _ _ _ 37 [some (.ref s), some (.int (iZ (h : Int))), some (.ref x), some (.int (iZ (K h)))] [.int (iZ (w A h)), .int (iZ (K h))] (st (sRw σ (x + 5) R9) s K H E N f)
      refine z_iconst dX2_isReady_37 ?_
      refine z_iadd dX2_isReady_38 ?_
      refine z_icmp_lt (tgt := 46) dX2_isReady_39 (by decide) (by unfold inR at *; omega) (by unfold inR at *; omega) (fun c_4 => ?_) (fun c_4 => ?_)
      · refine z_iconst dX2_isReady_46 ?_
        exact s_zret dX2_isReady_47 rfl (by omega) ⟨by (repeat (first | rw [if_pos (by omega)] | rw [if_neg (by omega)])), _, rfl, eqT_w tx.1 σ R9⟩
      · refine z_iconst dX2_isReady_42 ?_
        refine q_goto (tgt := 47) dX2_isReady_43 (by decide) ?_
        exact s_zret dX2_isReady_47 rfl (by omega) ⟨by (repeat (first | rw [if_pos (by omega)] | rw [if_neg (by omega)])), _, rfl, eqT_w tx.1 σ R9⟩
    · refine q_iload_n dX2_isReady_18 rfl rfl ?_
      refine z_iconst dX2_isReady_19 ?_
      refine z_icmp_lt (tgt := 27) dX2_isReady_20 (by decide) (by unfold inR at *; omega) (by unfold inR at *; omega) (fun c_5 => ?_) (fun c_5 => ?_)
      · refine z_iconst dX2_isReady_27 ?_
        exact s_zret dX2_isReady_28 rfl (by omega) ⟨by first | ((repeat (first | rw [if_pos (by omega)] | rw [if_neg (by omega)])); done) | (exfalso; omega), σ, rfl, eqT_rf σ⟩
      · refine z_iconst dX2_isReady_23 ?_
        refine q_goto (tgt := 28) dX2_isReady_24 (by decide) ?_
        exact s_zret dX2_isReady_28 rfl (by omega) ⟨by first | ((repeat (first | rw [if_pos (by omega)] | rw [if_neg (by omega)])); done) | (exfalso; omega), σ, rfl, eqT_rf σ⟩
