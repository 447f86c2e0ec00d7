/-! ===== good done one behind the other ===== -/
def hd3 (c k : Nat) : Nat := c / 2 ^ (3 * k) % 8
theorem hd3_lt (c k : Nat) : hd3 c k < 8 := Nat.mod_lt _ (by decide)
theorem hd3_and (c k : Nat) : c / 2 ^ (3 * k) &&& 7 = hd3 c k := Nat.and_two_pow_sub_one_eq_mod _ 3
/-- k houses by the code c, 1 good in each (b: also beyond 99): whether all could be, the row -/
noncomputable def mDo (W : wF) (b : Int) (c : Nat) : Nat → (Nat → Int) → Int × (Nat → Int)
  | 0, B => (1, B)
  | k + 1, B => if B (11 + hd3 c k) + 1 ≤ 99 then mDo W b c k (rA W (inc B (hd3 c k))) else if b = 0 then (0, B) else mDo W b c k (rA W B)
theorem mDo_ok {T : Nat → Int} {W : wF} {nt : Int} (hW : wOK T 100000 nt W) (b : Int) (c : Nat) : ∀ (k : Nat) (B : Nat → Int), gd 98000 nt B → gd 98000 nt (mDo W b c k B).2 ∧ agr B (mDo W b c k B).2 ∧ ((mDo W b c k B).1 = 0 ∨ (mDo W b c k B).1 = 1) ∧ (¬ b = 0 → (mDo W b c k B).1 = 1) := by
  intro k
  induction k with
  | zero => intro B g; exact ⟨g, agr_rf B, Or.inr rfl, fun _ => rfl⟩
  | succ k ih =>
    intro B g
    have hh := hd3_lt c k
    have g1 : gd 100000 nt (inc B (hd3 c k)) := gd_mono (gd_inc g hh) (by decide)
    rw [mDo]
    split
    · have i9 := ih _ (gd_mono (gd_rA hW g1) (show (80 : Int) ≤ 98000 by decide))
      exact ⟨i9.1, agr_tr (agr_tr (agr_inc _ hh) (agr_rA hW g1)) i9.2.1, i9.2.2⟩
    · split
      · rename_i hb
        exact ⟨g, agr_rf B, Or.inl rfl, fun q => absurd hb q⟩
      · have g2 : gd 100000 nt B := gd_mono g (by decide)
        have i9 := ih _ (gd_mono (gd_rA hW g2) (show (80 : Int) ≤ 98000 by decide))
        exact ⟨i9.1, agr_tr (agr_rA hW g2) i9.2.1, i9.2.2⟩
theorem gE_imp {Y : gY} {M : gM} {d : Nat} {b : gB} {Q Q2 : Option Value → gH → Prop} {pc : Nat} {L : List (Option Value)} {S : List Value} {h : gH} (hq : ∀ v h', Q v h' → Q2 v h') (k : gE Y M d b Q pc L S h) : gE Y M d b Q2 pc L S h := by
  intro p l e R s m args below meth c D tc r0 A r H locs ls hC hR hL h1 h2 h3 h0 T hT X
  obtain ⟨t, a, o, b1, b2, b3, b4⟩ := k p l e R s m args below meth c D tc r0 A r H locs ls hC hR hL h1 h2 h3 h0 T hT X
  obtain ⟨⟨v, h', r', e1, e2, e3⟩, e4⟩ := b3
  exact ⟨t, a, o, b1, b2, ⟨⟨v, h', r', e1, hq _ _ e2, e3⟩, e4⟩, b4⟩
theorem sE_imp {Y : gY} {M : gM} {d : Nat} {Q Q2 : Option Value → gS → Prop} {pc : Nat} {L : List (Option Value)} {S : List Value} {σ : gS} (hq : ∀ v s, Q v s → Q2 v s) (k : sE Y M d Q pc L S σ) : sE Y M d Q2 pc L S σ := gE_imp (fun v h' ⟨s, e, q⟩ => ⟨s, e, hq v s q⟩) k
set_option maxHeartbeats 4000000 in
set_option maxRecDepth 100000 in
theorem lp_areDone {d c n : Nat} (hd : 9 ≤ d) (hc : c < 512) {b : Int} (hb : b = 0 ∨ b = 1) (T : Nat → Int) {W : wF} {nt : Int} (hW : wOK T 100000 nt W) : ∀ (k : Nat), k ≤ 3 → ∀ (B : Nat → Int) (σ1 : gS) (F1 : Nat → Int) (l5 : Option Value), gd 98000 nt B → F1 23 = 0 → σ1.2.1 387 = T → 0 ≤ F1 26 → sE g_tt mX7_areDone d (fun r σ' => r = some (.int (iZ ((mDo W b c k B).1))) ∧ ∃ σ2 F2, σ' = ms σ2 (mDo W b c k B).2 F2 ∧ eqS σ1 σ2 ∧ fS F1 F2) 5 [some (.ref 384), some (.int (iZ (c : Int))), some (.int (iZ (n : Int))), some (.int (iZ b)), some (.int (iZ ((k : Int) - 1))), l5] [] (ms σ1 B F1) := by
  intro k
  induction k with
  | zero =>
    intro _ B σ1 F1 l5 g hz1 hT1 h261
    show sE g_tt mX7_areDone d (fun r σ' => r = some (.int (iZ ((mDo W b c 0 B).1))) ∧ ∃ σ2 F2, σ' = ms σ2 (mDo W b c 0 B).2 F2 ∧ eqS σ1 σ2 ∧ fS F1 F2) 5 [some (.ref 384), some (.int (iZ (c : Int))), some (.int (iZ (n : Int))), some (.int (iZ b)), some (.int (iZ (-1))), l5] [] (ms σ1 B F1)
    refine q_iload dX7_areDone_5 rfl ?_
    refine z_if_lt (tgt := 61) dX7_areDone_7 (by decide) (by unfold inR at *; omega) (fun c_1 => ?_) (fun c_1 => ?_)
    · refine z_iconst dX7_areDone_61 ?_
      exact s_zret dX7_areDone_62 rfl (by omega) ⟨rfl, σ1, F1, rfl, eqS_rf σ1, fS_rf h261⟩
    · exfalso
      revert c_1
      decide
  | succ k ih =>
    intro hk B σ1 F1 l5 g hz1 hT1 h261
    have hh := hd3_lt c k
    rw [show ((k + 1 : Nat) : Int) - 1 = (k : Int) by omega]
    show sE g_tt mX7_areDone d (fun r σ' => r = some (.int (iZ ((mDo W b c (k + 1) B).1))) ∧ ∃ σ2 F2, σ' = ms σ2 (mDo W b c (k + 1) B).2 F2 ∧ eqS σ1 σ2 ∧ fS F1 F2) 5 [some (.ref 384), some (.int (iZ (c : Int))), some (.int (iZ (n : Int))), some (.int (iZ b)), some (.int (iZ (k : Int))), l5] [] (ms σ1 B F1)
    refine q_iload dX7_areDone_5 rfl ?_
    refine z_if_lt (tgt := 61) dX7_areDone_7 (by decide) (by unfold inR at *; omega) (fun c_1 => ?_) (fun c_1 => ?_)
    · exfalso
      omega
    · refine q_iload_n dX7_areDone_10 rfl rfl ?_
      refine z_iconst dX7_areDone_11 ?_
      refine q_iload dX7_areDone_12 rfl ?_
      refine z_imul dX7_areDone_14 ?_
      refine z_top (y := ((3 * k : Nat) : Int)) (by omega) ?_
      refine z_ishr (x := (c : Int)) (k := 3 * k) dX7_areDone_15 (by omega) (by unfold inR at *; omega) ?_
      refine z_top (y := ((c / 2 ^ (3 * k) : Nat) : Int)) (by simp) ?_
      refine z_bipush dX7_areDone_16 (by decide +kernel) ?_
      refine z_iand (m := c / 2 ^ (3 * k)) (k := 7) dX7_areDone_18 ?_
      refine z_top (y := ((hd3 c k : Nat) : Int)) (by rw [hd3_and]) ?_
      refine q_istore dX7_areDone_19 (by decide) ?_
      show sE g_tt _ _ _ 21 [some (.ref 384), some (.int (iZ (c : Int))), some (.int (iZ (n : Int))), some (.int (iZ b)), some (.int (iZ (k : Int))), some (.int (iZ ((hd3 c k : Nat) : Int)))] [] (ms σ1 B F1)
      refine q_aload_n dX7_areDone_21 rfl rfl ?_
      refine q_iload dX7_areDone_22 rfl ?_
      refine z_iconst dX7_areDone_24 ?_
      refine s_callV (ci := 7) (a := 384) (As := [.int (iZ ((hd3 c k : Nat) : Int)), .int (iZ 1)]) (S := []) dX7_areDone_25 okX7_canGood mlX7_334 rfl (by omega) rfl (Nat.le_of_ble_eq_true rfl) (show kd 384 = 7 from rfl) (by decide) rfl (m_canGood (d := d - 1) (by omega) (h := ((hd3 c k : Nat) : Int)) (n := 1) (by unfold inR; omega) σ1 B F1 (fun _ => by have := kd_ran g hh; unfold inR; show _ ≤ B (11 + hd3 c k) + 1 ∧ B (11 + hd3 c k) + 1 ≤ _; omega)) (fun v_ σ_ hq => ?_)
      obtain ⟨rfl, e9⟩ := hq
      have e9 := e9.symm
      subst e9
      refine z_top (y := if (0 ≤ ((hd3 c k : Nat) : Int) ∧ ((hd3 c k : Nat) : Int) < 8) ∧ B (11 + hd3 c k) + 1 ≤ 99 then 1 else 0) rfl ?_
      show sE g_tt _ _ _ 28 [some (.ref 384), some (.int (iZ (c : Int))), some (.int (iZ (n : Int))), some (.int (iZ b)), some (.int (iZ (k : Int))), some (.int (iZ ((hd3 c k : Nat) : Int)))] [.int (iZ (if (0 ≤ ((hd3 c k : Nat) : Int) ∧ ((hd3 c k : Nat) : Int) < 8) ∧ B (11 + hd3 c k) + 1 ≤ 99 then 1 else 0))] (ms σ1 B F1)
      refine z_if_eq (tgt := 40) dX7_areDone_28 (by decide) inR_01 (fun c_2 => ?_) (fun c_2 => ?_)
      · have c_2 := if01_0 c_2
        refine q_iload_n dX7_areDone_40 rfl rfl ?_
        refine z_if_ne (tgt := 46) dX7_areDone_41 (by decide) (by unfold inR at *; omega) (fun c_3 => ?_) (fun c_3 => ?_)
        · refine q_aload_n dX7_areDone_46 rfl rfl ?_
          refine s_callV (ci := 7) (a := 384) (As := []) (S := []) dX7_areDone_47 okX7_settleNow mlX7_331 rfl (by omega) rfl (Nat.le_of_ble_eq_true rfl) (show kd 384 = 7 from rfl) (by decide) rfl (m_stlB (d := d - 1) (by omega) σ1 B F1 (W := W) (nt := nt) (by rw [hT1]; exact hW) (gd_mono g (by decide)) hz1) (fun v_ σ_ hq => ?_)
          obtain ⟨rfl, σ2, F2, e9, hE2, hf2, -, -⟩ := hq
          subst e9
          have hl2 := rL_len hW (A := B) (gd_mono g (by decide))
          show sE g_tt _ _ _ 50 [some (.ref 384), some (.int (iZ (c : Int))), some (.int (iZ (n : Int))), some (.int (iZ b)), some (.int (iZ (k : Int))), some (.int (iZ ((hd3 c k : Nat) : Int)))] [.int (iZ ((rL W B).length : Int))] (ms σ2 (rA W B) F2)
          refine z_if_ge (tgt := 55) dX7_areDone_50 (by decide) (by unfold inR at *; omega) (fun c_4 => ?_) (fun c_4 => ?_)
          · refine z_iinc dX7_areDone_55 rfl (by decide) ?_
            show sE g_tt _ _ _ 58 [some (.ref 384), some (.int (iZ (c : Int))), some (.int (iZ (n : Int))), some (.int (iZ b)), some (.int (iZ ((k : Int) + (-1)))), some (.int (iZ ((hd3 c k : Nat) : Int)))] [] (ms σ2 (rA W B) F2)
            refine q_goto (tgt := 5) dX7_areDone_58 (by decide) ?_
            rw [mDo, if_neg (by omega), if_neg (by omega)]
            rw [show (k : Int) + (-1) = (k : Int) - 1 by omega]
            refine sE_imp (fun v s q => ?_) (ih (by omega) (rA W B) σ2 F2 _ (gd_mono (gd_rA hW (gd_mono g (by decide))) (by decide)) ((fS_23 hf2).trans hz1) (by rw [hE2.2.1 387 (by decide) (by decide)]; exact hT1) (fS_tr (fS_rf h261) hf2).2)
            obtain ⟨e1, σ3, F3, e2, e3, e4⟩ := q
            exact ⟨e1, σ3, F3, e2, eqS_tr hE2 e3, fS_tr hf2 e4⟩
          · exfalso
            omega
        · refine z_iconst dX7_areDone_44 ?_
          exact s_zret dX7_areDone_45 rfl (by omega) ⟨by rw [mDo, if_neg (by omega), if_pos (by omega)], σ1, F1, by rw [mDo, if_neg (by omega), if_pos (by omega)], eqS_rf σ1, fS_rf h261⟩
      · have c_2 := if01_1 c_2
        refine q_aload_n dX7_areDone_31 rfl rfl ?_
        refine q_iload dX7_areDone_32 rfl ?_
        refine s_callV (ci := 7) (a := 384) (As := [.int (iZ ((hd3 c k : Nat) : Int))]) (S := []) dX7_areDone_34 okX7_goOne mlX7_403 rfl (by omega) rfl (Nat.le_of_ble_eq_true rfl) (show kd 384 = 7 from rfl) (by decide) rfl (m_goA (d := d - 1) (h := hd3 c k) (by omega) hh σ1 B F1 (W := W) (nt := nt) (by rw [hT1]; exact hW) (gd_mono g (by decide)) hz1) (fun v_ σ_ hq => ?_)
        obtain ⟨rfl, σ2, F2, e9, hE2, hf2, -, -⟩ := hq
        subst e9
        show sE g_tt _ _ _ 37 [some (.ref 384), some (.int (iZ (c : Int))), some (.int (iZ (n : Int))), some (.int (iZ b)), some (.int (iZ (k : Int))), some (.int (iZ ((hd3 c k : Nat) : Int)))] [] (ms σ2 (rA W (inc B (hd3 c k))) F2)
        refine q_goto (tgt := 55) dX7_areDone_37 (by decide) ?_
        refine z_iinc dX7_areDone_55 rfl (by decide) ?_
        show sE g_tt _ _ _ 58 [some (.ref 384), some (.int (iZ (c : Int))), some (.int (iZ (n : Int))), some (.int (iZ b)), some (.int (iZ ((k : Int) + (-1)))), some (.int (iZ ((hd3 c k : Nat) : Int)))] [] (ms σ2 (rA W (inc B (hd3 c k))) F2)
        refine q_goto (tgt := 5) dX7_areDone_58 (by decide) ?_
        rw [mDo, if_pos (by omega)]
        rw [show (k : Int) + (-1) = (k : Int) - 1 by omega]
        refine sE_imp (fun v s q => ?_) (ih (by omega) (rA W (inc B (hd3 c k))) σ2 F2 _ (gd_mono (gd_rA hW (gd_mono (gd_inc g hh) (by decide))) (by decide)) ((fS_23 hf2).trans hz1) (by rw [hE2.2.1 387 (by decide) (by decide)]; exact hT1) (fS_tr (fS_rf h261) hf2).2)
        obtain ⟨e1, σ3, F3, e2, e3, e4⟩ := q
        exact ⟨e1, σ3, F3, e2, eqS_tr hE2 e3, fS_tr hf2 e4⟩
set_option maxHeartbeats 4000000 in
set_option maxRecDepth 100000 in
theorem m_areDone {d c n : Nat} (hd : 9 ≤ d) (hc : c < 512) (hn : n ≤ 3) {b : Int} (hb : b = 0 ∨ b = 1) (T : Nat → Int) {W : wF} {nt : Int} (hW : wOK T 100000 nt W) (σ1 : gS) (B F1 : Nat → Int) (g : gd 98000 nt B) (hz1 : F1 23 = 0) (hT1 : σ1.2.1 387 = T) (h261 : 0 ≤ F1 26) : sC mX7_areDone d [.ref 384, .int (iZ (c : Int)), .int (iZ (n : Int)), .int (iZ b)] (ms σ1 B F1) (fun r σ' => r = some (.int (iZ ((mDo W b c n B).1))) ∧ ∃ σ2 F2, σ' = ms σ2 (mDo W b c n B).2 F2 ∧ eqS σ1 σ2 ∧ fS F1 F2) := by
  refine sC_of rfl (Nat.le_of_ble_eq_true rfl) ?_
  show sE g_tt _ _ _ 0 [some (.ref 384), some (.int (iZ (c : Int))), some (.int (iZ (n : Int))), some (.int (iZ b)), none, none] [] (ms σ1 B F1)
  refine q_iload_n dX7_areDone_0 rfl rfl ?_
  refine z_iconst dX7_areDone_1 ?_
  refine z_isub dX7_areDone_2 ?_
  refine q_istore dX7_areDone_3 (by decide) ?_
  show sE g_tt _ _ _ 5 [some (.ref 384), some (.int (iZ (c : Int))), some (.int (iZ (n : Int))), some (.int (iZ b)), some (.int (iZ ((n : Int) - 1))), none] [] (ms σ1 B F1)
  exact lp_areDone hd hc hb T hW n hn B σ1 F1 _ g hz1 hT1 h261
/-- whether p and q are in one house by the code c of n houses (1, 0) -/
noncomputable def metB (W : wF) (A : Nat → Int) (p q n c : Nat) : Int := if (mDo W 0 c n A).1 = 1 ∧ (mDo W 0 c n A).2 (19 + p) = (mDo W 0 c n A).2 (19 + q) ∧ (mDo W 0 c n A).2 (19 + p) ≠ -1 then 1 else 0
set_option maxHeartbeats 4000000 in
set_option maxRecDepth 100000 in
theorem m_isMet {d p q c n : Nat} (hd : 10 ≤ d) (hp : p < 5) (hq5 : q < 5) (hc : c < 512) (hn : n ≤ 3) (σ : gS) (A F : Nat → Int) (h23 : F 23 = 1) (h26 : 0 ≤ F 26) {W : wF} {nt : Int} (hW : wOK (σ.2.1 387) 100000 nt W) (g : gd 98000 nt A) : sC mX7_isMet d [.ref 384, .int (iZ (p : Int)), .int (iZ (q : Int)), .int (iZ (c : Int)), .int (iZ (n : Int))] (ms σ A F) (fun r σ' => r = some (.int (iZ (metB W A p q n c))) ∧ ∃ σ2 F2, σ' = ms σ2 A F2 ∧ eqX σ σ2 ∧ fS F F2) := by
  refine sC_of rfl (Nat.le_of_ble_eq_true rfl) ?_
  show sE g_tt _ _ _ 0 [some (.ref 384), some (.int (iZ (p : Int))), some (.int (iZ (q : Int))), some (.int (iZ (c : Int))), some (.int (iZ (n : Int))), none] [] (ms σ A F)
  refine q_aload_n dX7_isMet_0 rfl rfl ?_
  refine s_callV (ci := 7) (a := 384) (As := []) (S := []) dX7_isMet_1 okX7_setAside mlX7_385 rfl (by omega) rfl (Nat.le_of_ble_eq_true rfl) (show kd 384 = 7 from rfl) (by decide) rfl (m_aside (d := d - 1) σ A F) (fun v_ σ_ hq => ?_)
  obtain ⟨rfl, σ1, e9, hA1⟩ := hq
  subst e9
  have hF1 : fS (va_up F 23 0) (va_up F 23 0) := fS_rf (by show 0 ≤ F 26; exact h26)
  have hz1 : va_up F 23 0 23 = 0 := rfl
  show sE g_tt _ _ _ 4 [some (.ref 384), some (.int (iZ (p : Int))), some (.int (iZ (q : Int))), some (.int (iZ (c : Int))), some (.int (iZ (n : Int))), none] [] (ms σ1 A (va_up F 23 0))
  refine q_aload_n dX7_isMet_4 rfl rfl ?_
  refine q_iload_n dX7_isMet_5 rfl rfl ?_
  refine q_iload dX7_isMet_6 rfl ?_
  refine z_iconst dX7_isMet_8 ?_
  refine s_callV (ci := 7) (a := 384) (As := [.int (iZ (c : Int)), .int (iZ (n : Int)), .int (iZ 0)]) (S := []) dX7_isMet_9 okX7_areDone mlX7_415 rfl (by omega) rfl (Nat.le_of_ble_eq_true rfl) (show kd 384 = 7 from rfl) (by decide) rfl (m_areDone (d := d - 1) (c := c) (n := n) (by omega) hc hn (b := 0) (by omega) (σ.2.1 387) hW σ1 A (va_up F 23 0) g hz1 (asd_T hA1) hF1.2) (fun v_ σ_ hq => ?_)
  obtain ⟨rfl, σ2, F2, e9, hE2, hf2⟩ := hq
  subst e9
  have hA2 := asd_S hA1 hE2
  have hF2 := fS_tr hF1 hf2
  have dk := mDo_ok hW 0 c n A g
  have dp := dk.1.2.1 p hp
  have dq := dk.1.2.1 q hq5
  show sE g_tt _ _ _ 12 [some (.ref 384), some (.int (iZ (p : Int))), some (.int (iZ (q : Int))), some (.int (iZ (c : Int))), some (.int (iZ (n : Int))), none] [.int (iZ ((mDo W 0 c n A).1))] (ms σ2 ((mDo W 0 c n A).2) F2)
  refine z_if_eq (tgt := 53) dX7_isMet_12 (by decide) (by unfold inR at *; omega) (fun c_1 => ?_) (fun c_1 => ?_)
  · refine z_iconst dX7_isMet_53 ?_
    refine q_istore dX7_isMet_54 (by decide) ?_
    show sE g_tt _ _ _ 56 [some (.ref 384), some (.int (iZ (p : Int))), some (.int (iZ (q : Int))), some (.int (iZ (c : Int))), some (.int (iZ (n : Int))), some (.int (iZ 0))] [] (ms σ2 ((mDo W 0 c n A).2) F2)
    refine q_aload_n dX7_isMet_56 rfl rfl ?_
    refine s_callV (ci := 7) (a := 384) (As := []) (S := []) dX7_isMet_57 okX7_putBack mlX7_388 rfl (by omega) rfl (Nat.le_of_ble_eq_true rfl) (show kd 384 = 7 from rfl) (by decide) rfl (m_putB (d := d - 1) (σ := σ) (A := A) σ2 ((mDo W 0 c n A).2) F2 hA2 dk.2.1) (fun v_ σ_ hq => ?_)
    obtain ⟨rfl, e9⟩ := hq
    have e9 := e9.symm
    subst e9
    show sE g_tt _ _ _ 60 [some (.ref 384), some (.int (iZ (p : Int))), some (.int (iZ (q : Int))), some (.int (iZ (c : Int))), some (.int (iZ (n : Int))), some (.int (iZ 0))] [] (ms σ2 A (va_up F2 23 1))
    refine q_iload dX7_isMet_60 rfl ?_
    exact s_zret dX7_isMet_62 rfl (by omega) ⟨by unfold metB; (repeat (first | rw [if_pos (by omega)] | rw [if_neg (by omega)])), σ2, _, rfl, hA2.1, fS_fin h23 hF2⟩
  · refine q_aload_n dX7_isMet_15 rfl rfl ?_
    refine sg7 (kf := 0) (v := .ref 385) dX7_isMet_16 flX7_7 (show kd 384 = 7 from rfl) (by decide) rfl ?_
    refine z_bipush dX7_isMet_19 (by decide +kernel) ?_
    refine q_iload_n dX7_isMet_21 rfl rfl ?_
    refine z_iadd dX7_isMet_22 ?_
    refine s_iald (n := 1583) (x := ((mDo W 0 c n A).2) (19 + p)) dX7_isMet_23 (show kd 385 = 100 + 1583 from rfl) (by omega) (by omega) (by decide) rfl ?_
    refine q_aload_n dX7_isMet_24 rfl rfl ?_
    refine sg7 (kf := 0) (v := .ref 385) dX7_isMet_25 flX7_7 (show kd 384 = 7 from rfl) (by decide) rfl ?_
    refine z_bipush dX7_isMet_28 (by decide +kernel) ?_
    refine q_iload_n dX7_isMet_30 rfl rfl ?_
    refine z_iadd dX7_isMet_31 ?_
    refine s_iald (n := 1583) (x := ((mDo W 0 c n A).2) (19 + q)) dX7_isMet_32 (show kd 385 = 100 + 1583 from rfl) (by omega) (by omega) (by decide) rfl ?_
    refine z_icmp_ne (tgt := 53) dX7_isMet_33 (by decide) (by unfold inR at *; omega) (by unfold inR at *; omega) (fun c_2 => ?_) (fun c_2 => ?_)
    · refine z_iconst dX7_isMet_53 ?_
      refine q_istore dX7_isMet_54 (by decide) ?_
      show sE g_tt _ _ _ 56 [some (.ref 384), some (.int (iZ (p : Int))), some (.int (iZ (q : Int))), some (.int (iZ (c : Int))), some (.int (iZ (n : Int))), some (.int (iZ 0))] [] (ms σ2 ((mDo W 0 c n A).2) F2)
      refine q_aload_n dX7_isMet_56 rfl rfl ?_
      refine s_callV (ci := 7) (a := 384) (As := []) (S := []) dX7_isMet_57 okX7_putBack mlX7_388 rfl (by omega) rfl (Nat.le_of_ble_eq_true rfl) (show kd 384 = 7 from rfl) (by decide) rfl (m_putB (d := d - 1) (σ := σ) (A := A) σ2 ((mDo W 0 c n A).2) F2 hA2 dk.2.1) (fun v_ σ_ hq => ?_)
      obtain ⟨rfl, e9⟩ := hq
      have e9 := e9.symm
      subst e9
      show sE g_tt _ _ _ 60 [some (.ref 384), some (.int (iZ (p : Int))), some (.int (iZ (q : Int))), some (.int (iZ (c : Int))), some (.int (iZ (n : Int))), some (.int (iZ 0))] [] (ms σ2 A (va_up F2 23 1))
      refine q_iload dX7_isMet_60 rfl ?_
      exact s_zret dX7_isMet_62 rfl (by omega) ⟨by unfold metB; (repeat (first | rw [if_pos (by omega)] | rw [if_neg (by omega)])), σ2, _, rfl, hA2.1, fS_fin h23 hF2⟩
    · refine q_aload_n dX7_isMet_36 rfl rfl ?_
      refine sg7 (kf := 0) (v := .ref 385) dX7_isMet_37 flX7_7 (show kd 384 = 7 from rfl) (by decide) rfl ?_
      refine z_bipush dX7_isMet_40 (by decide +kernel) ?_
      refine q_iload_n dX7_isMet_42 rfl rfl ?_
      refine z_iadd dX7_isMet_43 ?_
      refine s_iald (n := 1583) (x := ((mDo W 0 c n A).2) (19 + p)) dX7_isMet_44 (show kd 385 = 100 + 1583 from rfl) (by omega) (by omega) (by decide) rfl ?_
      refine z_iconst dX7_isMet_45 ?_
      refine z_icmp_eq (tgt := 53) dX7_isMet_46 (by decide) (by unfold inR at *; omega) (by unfold inR at *; omega) (fun c_3 => ?_) (fun c_3 => ?_)
      · refine z_iconst dX7_isMet_53 ?_
        refine q_istore dX7_isMet_54 (by decide) ?_
        show sE g_tt _ _ _ 56 [some (.ref 384), some (.int (iZ (p : Int))), some (.int (iZ (q : Int))), some (.int (iZ (c : Int))), some (.int (iZ (n : Int))), some (.int (iZ 0))] [] (ms σ2 ((mDo W 0 c n A).2) F2)
        refine q_aload_n dX7_isMet_56 rfl rfl ?_
        refine s_callV (ci := 7) (a := 384) (As := []) (S := []) dX7_isMet_57 okX7_putBack mlX7_388 rfl (by omega) rfl (Nat.le_of_ble_eq_true rfl) (show kd 384 = 7 from rfl) (by decide) rfl (m_putB (d := d - 1) (σ := σ) (A := A) σ2 ((mDo W 0 c n A).2) F2 hA2 dk.2.1) (fun v_ σ_ hq => ?_)
        obtain ⟨rfl, e9⟩ := hq
        have e9 := e9.symm
        subst e9
        show sE g_tt _ _ _ 60 [some (.ref 384), some (.int (iZ (p : Int))), some (.int (iZ (q : Int))), some (.int (iZ (c : Int))), some (.int (iZ (n : Int))), some (.int (iZ 0))] [] (ms σ2 A (va_up F2 23 1))
        refine q_iload dX7_isMet_60 rfl ?_
        exact s_zret dX7_isMet_62 rfl (by omega) ⟨by unfold metB; (repeat (first | rw [if_pos (by omega)] | rw [if_neg (by omega)])), σ2, _, rfl, hA2.1, fS_fin h23 hF2⟩
      · refine z_iconst dX7_isMet_49 ?_
        refine q_goto (tgt := 54) dX7_isMet_50 (by decide) ?_
        refine q_istore dX7_isMet_54 (by decide) ?_
        show sE g_tt _ _ _ 56 [some (.ref 384), some (.int (iZ (p : Int))), some (.int (iZ (q : Int))), some (.int (iZ (c : Int))), some (.int (iZ (n : Int))), some (.int (iZ 1))] [] (ms σ2 ((mDo W 0 c n A).2) F2)
        refine q_aload_n dX7_isMet_56 rfl rfl ?_
        refine s_callV (ci := 7) (a := 384) (As := []) (S := []) dX7_isMet_57 okX7_putBack mlX7_388 rfl (by omega) rfl (Nat.le_of_ble_eq_true rfl) (show kd 384 = 7 from rfl) (by decide) rfl (m_putB (d := d - 1) (σ := σ) (A := A) σ2 ((mDo W 0 c n A).2) F2 hA2 dk.2.1) (fun v_ σ_ hq => ?_)
        obtain ⟨rfl, e9⟩ := hq
        have e9 := e9.symm
        subst e9
        show sE g_tt _ _ _ 60 [some (.ref 384), some (.int (iZ (p : Int))), some (.int (iZ (q : Int))), some (.int (iZ (c : Int))), some (.int (iZ (n : Int))), some (.int (iZ 1))] [] (ms σ2 A (va_up F2 23 1))
        refine q_iload dX7_isMet_60 rfl ?_
        exact s_zret dX7_isMet_62 rfl (by omega) ⟨by unfold metB; (repeat (first | rw [if_pos (by omega)] | rw [if_neg (by omega)])), σ2, _, rfl, hA2.1, fS_fin h23 hF2⟩
/-- a meeting, from n houses on (f tries): how many (i -1), the i-th -/
noncomputable def mMe (W : wF) (A : Nat → Int) (p q : Nat) (i : Int) : Nat → Nat → Int
  | 0, _ => -2
  | f + 1, n => if fst1 (metB W A p q n) (2 ^ (3 * n)) 0 = -1 then mMe W A p q i f (n + 1) else if i = -1 then (n : Int) else if i < (n : Int) then ((hd3 (fst1 (metB W A p q n) (2 ^ (3 * n)) 0).toNat (n - 1 - i.toNat) : Nat) : Int) else -2
theorem metB_01 (W : wF) (A : Nat → Int) (p q n c : Nat) : metB W A p q n c = 0 ∨ metB W A p q n c = 1 := by unfold metB; exact if01
set_option maxHeartbeats 4000000 in
set_option maxRecDepth 100000 in
theorem lp_meet1 {d p q n N : Nat} (hd : 11 ≤ d) (hp : p < 5) (hq5 : q < 5) (hn3 : n ≤ 3) (hN : 2 ^ (3 * n) = N) (hN5 : N ≤ 512) {i : Int} (hi : -1 ≤ i ∧ i ≤ 2) (σ : gS) (A F : Nat → Int) (h23 : F 23 = 1) (h26 : 0 ≤ F 26) {W : wF} {nt : Int} (hW : wOK (σ.2.1 387) 100000 nt W) (g : gd 98000 nt A) (kc : ∀ (σ1 : gS) (F1 : Nat → Int) (l5 : Option Value), eqX σ σ1 → fS F F1 → fst1 (metB W A p q n) (2 ^ (3 * n)) 0 = -1 → sE g_tt mX7_meet d (fun r σ' => r = some (.int (iZ (mMe W A p q i (4 - n) n))) ∧ ∃ σ2 F2, σ' = ms σ2 A F2 ∧ eqX σ σ2 ∧ fS F F2) 114 [some (.ref 384), some (.int (iZ (p : Int))), some (.int (iZ (q : Int))), some (.int (iZ i)), some (.int (iZ (n : Int))), l5] [] (ms σ1 A F1)) : ∀ (f : Nat) (c : Nat) (σ1 : gS) (F1 : Nat → Int), c ≤ N → eqX σ σ1 → fS F F1 → fst1 (metB W A p q n) (N - c) c = fst1 (metB W A p q n) N 0 → (N : Int) - (c : Int) < (f : Int) → sE g_tt mX7_meet d (fun r σ' => r = some (.int (iZ (mMe W A p q i (4 - n) n))) ∧ ∃ σ2 F2, σ' = ms σ2 A F2 ∧ eqX σ σ2 ∧ fS F F2) 45 [some (.ref 384), some (.int (iZ (p : Int))), some (.int (iZ (q : Int))), some (.int (iZ i)), some (.int (iZ (n : Int))), some (.int (iZ (c : Int)))] [] (ms σ1 A F1) := by
  intro f
  induction f with
  | zero =>
    intro c σ1 F1 hc hE1 hF1 hfs hf
    exact absurd hf (by omega)
  | succ f ih =>
    intro c σ1 F1 hc hE1 hF1 hfs hf
    refine q_iload dX7_meet_45 rfl ?_
    refine z_iconst dX7_meet_47 ?_
    refine z_iconst dX7_meet_48 ?_
    refine q_iload dX7_meet_49 rfl ?_
    refine z_imul dX7_meet_51 ?_
    refine z_top (y := ((3 * n : Nat) : Int)) (by omega) ?_
    refine z_ishl (x := 1) (k := 3 * n) dX7_meet_52 (by omega) ?_
    refine z_top (y := ((2 ^ (3 * n) : Nat) : Int)) (by simp) ?_
    refine z_top (y := (N : Int)) (by rw [hN]) ?_
    refine z_icmp_ge (tgt := 114) dX7_meet_53 (by decide) (by unfold inR at *; omega) (by unfold inR at *; omega) (fun c_1 => ?_) (fun c_1 => ?_)
    · exact kc σ1 F1 _ hE1 hF1 (by rw [hN, ← hfs, show N - c = 0 by omega, fst1])
    · refine q_aload_n dX7_meet_56 rfl rfl ?_
      refine q_iload_n dX7_meet_57 rfl rfl ?_
      refine q_iload_n dX7_meet_58 rfl rfl ?_
      refine q_iload dX7_meet_59 rfl ?_
      refine q_iload dX7_meet_61 rfl ?_
      refine s_callV (ci := 7) (a := 384) (As := [.int (iZ (p : Int)), .int (iZ (q : Int)), .int (iZ (c : Int)), .int (iZ (n : Int))]) (S := []) dX7_meet_63 okX7_isMet mlX7_419 rfl (by omega) rfl (Nat.le_of_ble_eq_true rfl) (show kd 384 = 7 from rfl) (by decide) rfl (m_isMet (d := d - 1) (c := c) (n := n) (by omega) hp hq5 (by omega) (by omega) σ1 A F1 ((fS_23 hF1).trans h23) hF1.2 (by rw [hE1.2.1 387 (by decide)]; exact hW) g) (fun v_ σ_ hq => ?_)
      obtain ⟨rfl, σ2, F2, e9, hE2, hF2⟩ := hq
      subst e9
      have hE3 := eqX_tr hE1 hE2
      have hF3 := fS_tr hF1 hF2
      have o1 := metB_01 W A p q n c
      show sE g_tt _ _ _ 66 [some (.ref 384), some (.int (iZ (p : Int))), some (.int (iZ (q : Int))), some (.int (iZ i)), some (.int (iZ (n : Int))), some (.int (iZ (c : Int)))] [.int (iZ (metB W A p q n c))] (ms σ2 A F2)
      refine z_if_ne (tgt := 72) dX7_meet_66 (by decide) (by unfold inR; omega) (fun c_2 => ?_) (fun c_2 => ?_)
      · refine q_iload_n dX7_meet_72 rfl rfl ?_
        refine z_iconst dX7_meet_73 ?_
        refine z_icmp_ne (tgt := 82) dX7_meet_74 (by decide) (by unfold inR at *; omega) (by unfold inR at *; omega) (fun c_3 => ?_) (fun c_3 => ?_)
        · refine q_iload_n dX7_meet_82 rfl rfl ?_
          refine q_iload dX7_meet_83 rfl ?_
          refine z_icmp_ge (tgt := 105) dX7_meet_85 (by decide) (by unfold inR at *; omega) (by unfold inR at *; omega) (fun c_4 => ?_) (fun c_4 => ?_)
          · refine z_bipush dX7_meet_105 (by decide +kernel) ?_
            exact s_iretZ dX7_meet_107 rfl ⟨(by rw [show 4 - n = (4 - (n + 1)) + 1 by omega, mMe, show fst1 (metB W A p q n) (2 ^ (3 * n)) 0 = (c : Int) by rw [hN, ← hfs, show N - c = (N - (c + 1)) + 1 by omega, fst1, if_pos (by omega)]]; (repeat (first | rw [if_pos (by omega)] | rw [if_neg (by omega)])); (try rw [Int.toNat_natCast])), σ2, F2, rfl, hE3, hF3⟩
          · refine q_iload dX7_meet_88 rfl ?_
            refine z_iconst dX7_meet_90 ?_
            refine q_iload dX7_meet_91 rfl ?_
            refine z_iconst dX7_meet_93 ?_
            refine z_isub dX7_meet_94 ?_
            refine q_iload_n dX7_meet_95 rfl rfl ?_
            refine z_isub dX7_meet_96 ?_
            refine z_imul dX7_meet_97 ?_
            refine z_top (y := ((3 * (n - 1 - i.toNat) : Nat) : Int)) (by omega) ?_
            refine z_ishr (x := (c : Int)) (k := 3 * (n - 1 - i.toNat)) dX7_meet_98 (by omega) (by unfold inR at *; omega) ?_
            refine z_top (y := ((c / 2 ^ (3 * (n - 1 - i.toNat)) : Nat) : Int)) (by simp) ?_
            refine z_bipush dX7_meet_99 (by decide +kernel) ?_
            refine z_iand (m := c / 2 ^ (3 * (n - 1 - i.toNat))) (k := 7) dX7_meet_101 ?_
            refine z_top (y := ((hd3 c (n - 1 - i.toNat) : Nat) : Int)) (by rw [hd3_and]) ?_
            refine q_goto (tgt := 107) dX7_meet_102 (by decide) ?_
            exact s_iretZ dX7_meet_107 rfl ⟨(by rw [show 4 - n = (4 - (n + 1)) + 1 by omega, mMe, show fst1 (metB W A p q n) (2 ^ (3 * n)) 0 = (c : Int) by rw [hN, ← hfs, show N - c = (N - (c + 1)) + 1 by omega, fst1, if_pos (by omega)]]; (repeat (first | rw [if_pos (by omega)] | rw [if_neg (by omega)])); (try rw [Int.toNat_natCast])), σ2, F2, rfl, hE3, hF3⟩
        · refine q_iload dX7_meet_77 rfl ?_
          refine q_goto (tgt := 107) dX7_meet_79 (by decide) ?_
          exact s_iretZ dX7_meet_107 rfl ⟨(by rw [show 4 - n = (4 - (n + 1)) + 1 by omega, mMe, show fst1 (metB W A p q n) (2 ^ (3 * n)) 0 = (c : Int) by rw [hN, ← hfs, show N - c = (N - (c + 1)) + 1 by omega, fst1, if_pos (by omega)]]; (repeat (first | rw [if_pos (by omega)] | rw [if_neg (by omega)])); (try rw [Int.toNat_natCast])), σ2, F2, rfl, hE3, hF3⟩
      · refine q_goto (tgt := 108) dX7_meet_69 (by decide) ?_
        refine z_iinc dX7_meet_108 rfl (by decide) ?_
        show sE g_tt _ _ _ 111 [some (.ref 384), some (.int (iZ (p : Int))), some (.int (iZ (q : Int))), some (.int (iZ i)), some (.int (iZ (n : Int))), some (.int (iZ ((c : Int) + 1)))] [] (ms σ2 A F2)
        refine q_goto (tgt := 45) dX7_meet_111 (by decide) ?_
        refine ih (c + 1) σ2 F2 (by omega) hE3 hF3 ?_ (by omega)
        rw [← hfs, show N - c = (N - (c + 1)) + 1 by omega, fst1, if_neg (by omega)]
set_option maxHeartbeats 4000000 in
set_option maxRecDepth 100000 in
theorem lp_meet {d p q : Nat} (hd : 11 ≤ d) (hp : p < 5) (hq5 : q < 5) {i : Int} (hi : -1 ≤ i ∧ i ≤ 2) (σ : gS) (A F : Nat → Int) (h23 : F 23 = 1) (h26 : 0 ≤ F 26) {W : wF} {nt : Int} (hW : wOK (σ.2.1 387) 100000 nt W) (g : gd 98000 nt A) : ∀ (f : Nat) (n : Nat) (σ1 : gS) (F1 : Nat → Int) (l5 : Option Value), n ≤ 4 → eqX σ σ1 → fS F F1 → 4 - (n : Int) < (f : Int) → sE g_tt mX7_meet d (fun r σ' => r = some (.int (iZ (mMe W A p q i (4 - n) n))) ∧ ∃ σ2 F2, σ' = ms σ2 A F2 ∧ eqX σ σ2 ∧ fS F F2) 36 [some (.ref 384), some (.int (iZ (p : Int))), some (.int (iZ (q : Int))), some (.int (iZ i)), some (.int (iZ (n : Int))), l5] [] (ms σ1 A F1) := by
  intro f
  induction f with
  | zero =>
    intro n σ1 F1 l5 hn4 hE1 hF1 hf
    exact absurd hf (by omega)
  | succ f ih =>
    intro n σ1 F1 l5 hn4 hE1 hF1 hf
    refine q_iload dX7_meet_36 rfl ?_
    refine z_iconst dX7_meet_38 ?_
    refine z_icmp_ge (tgt := 120) dX7_meet_39 (by decide) (by unfold inR at *; omega) (by unfold inR at *; omega) (fun c_1 => ?_) (fun c_1 => ?_)
    · refine z_bipush dX7_meet_120 (by decide +kernel) ?_
      exact s_iretZ dX7_meet_122 rfl ⟨by rw [show 4 - n = 0 by omega, mMe], σ1, F1, rfl, hE1, hF1⟩
    · refine z_iconst dX7_meet_42 ?_
      refine q_istore dX7_meet_43 (by decide) ?_
      show sE g_tt _ _ _ 45 [some (.ref 384), some (.int (iZ (p : Int))), some (.int (iZ (q : Int))), some (.int (iZ i)), some (.int (iZ (n : Int))), some (.int (iZ 0))] [] (ms σ1 A F1)
      have hN5 : 2 ^ (3 * n) ≤ 512 := Nat.le_trans (Nat.pow_le_pow_right (by decide) (show 3 * n ≤ 9 by omega)) (by decide)
      refine lp_meet1 hd hp hq5 (by omega) rfl hN5 hi σ A F h23 h26 hW g ?_ (2 ^ (3 * n) + 1) 0 σ1 F1 (Nat.zero_le _) hE1 hF1 rfl (by omega)
      intro σ2 F2 l9 hE2 hF2 hfn
      refine z_iinc dX7_meet_114 rfl (by decide) ?_
      show sE g_tt _ _ _ 117 [some (.ref 384), some (.int (iZ (p : Int))), some (.int (iZ (q : Int))), some (.int (iZ i)), some (.int (iZ ((n : Int) + 1))), l9] [] (ms σ2 A F2)
      refine q_goto (tgt := 36) dX7_meet_117 (by decide) ?_
      rw [show 4 - n = (4 - (n + 1)) + 1 by omega, mMe, if_pos hfn]
      exact ih (n + 1) σ2 F2 _ (by omega) hE2 hF2 (by omega)
set_option maxHeartbeats 4000000 in
set_option maxRecDepth 100000 in
theorem m_meet {d p q : Nat} (hd : 11 ≤ d) {i : Int} (hi : -1 ≤ i ∧ i ≤ 2) (σ : gS) (A F : Nat → Int) (h23 : F 23 = 1) (h26 : 0 ≤ F 26) {W : wF} {nt : Int} (hW : wOK (σ.2.1 387) 100000 nt W) (g : gd 98000 nt A) (hp : (p : Int) < A 0) (hqa : (q : Int) < A 0) (hpq : p ≠ q) : sC mX7_meet d [.ref 384, .int (iZ (p : Int)), .int (iZ (q : Int)), .int (iZ i)] (ms σ A F) (fun r σ' => r = some (.int (iZ (mMe W A p q i 4 0))) ∧ ∃ σ2 F2, σ' = ms σ2 A F2 ∧ eqX σ σ2 ∧ fS F F2) := by
  have g0 := g.1
  refine sC_of rfl (Nat.le_of_ble_eq_true rfl) ?_
  show sE g_tt _ _ _ 0 [some (.ref 384), some (.int (iZ (p : Int))), some (.int (iZ (q : Int))), some (.int (iZ i)), none, none] [] (ms σ A F)
  refine q_aload_n dX7_meet_0 rfl rfl ?_
  refine q_iload_n dX7_meet_1 rfl rfl ?_
  refine s_callV (ci := 7) (a := 384) (As := [.int (iZ (p : Int))]) (S := []) dX7_meet_2 okX7_isPerson mlX7_367 rfl (by omega) rfl (Nat.le_of_ble_eq_true rfl) (show kd 384 = 7 from rfl) (by decide) rfl (m_isPerson (d := d - 1) (by omega) (p := (p : Int)) (by unfold inR at *; omega) σ A F (by omega) (by omega)) (fun v_ σ_ hq => ?_)
  obtain ⟨rfl, e9⟩ := hq
  have e9 := e9.symm
  subst e9
  show sE g_tt _ _ _ 5 [some (.ref 384), some (.int (iZ (p : Int))), some (.int (iZ (q : Int))), some (.int (iZ i)), none, none] [.int (iZ (if 0 ≤ (p : Int) ∧ (p : Int) < A 0 then 1 else 0))] (ms σ A F)
  refine z_if_eq (tgt := 30) dX7_meet_5 (by decide) inR_01 (fun c_1 => ?_) (fun c_1 => ?_)
  · have c_1 := if01_0 c_1
    exfalso
    omega
  · have c_1 := if01_1 c_1
    refine q_aload_n dX7_meet_8 rfl rfl ?_
    refine q_iload_n dX7_meet_9 rfl rfl ?_
    refine s_callV (ci := 7) (a := 384) (As := [.int (iZ (q : Int))]) (S := []) dX7_meet_10 okX7_isPerson mlX7_367 rfl (by omega) rfl (Nat.le_of_ble_eq_true rfl) (show kd 384 = 7 from rfl) (by decide) rfl (m_isPerson (d := d - 1) (by omega) (p := (q : Int)) (by unfold inR at *; omega) σ A F (by omega) (by omega)) (fun v_ σ_ hq => ?_)
    obtain ⟨rfl, e9⟩ := hq
    have e9 := e9.symm
    subst e9
    show sE g_tt _ _ _ 13 [some (.ref 384), some (.int (iZ (p : Int))), some (.int (iZ (q : Int))), some (.int (iZ i)), none, none] [.int (iZ (if 0 ≤ (q : Int) ∧ (q : Int) < A 0 then 1 else 0))] (ms σ A F)
    refine z_if_eq (tgt := 30) dX7_meet_13 (by decide) inR_01 (fun c_2 => ?_) (fun c_2 => ?_)
    · have c_2 := if01_0 c_2
      exfalso
      omega
    · have c_2 := if01_1 c_2
      refine q_iload_n dX7_meet_16 rfl rfl ?_
      refine q_iload_n dX7_meet_17 rfl rfl ?_
      refine z_icmp_eq (tgt := 30) dX7_meet_18 (by decide) (by unfold inR at *; omega) (by unfold inR at *; omega) (fun c_3 => ?_) (fun c_3 => ?_)
      · exfalso
        omega
      · refine q_iload_n dX7_meet_21 rfl rfl ?_
        refine z_iconst dX7_meet_22 ?_
        refine z_iconst dX7_meet_23 ?_
        refine s_callS (As := [.int (iZ i), .int (iZ (-1)), .int (iZ 2)]) (S := []) dX7_meet_24 okX7_isIn mlX7_66 rfl (by omega) rfl (Nat.le_of_ble_eq_true rfl) (m_isIn (d := d - 1) (v := i) (a := (-1)) (b := 2) (by unfold inR at *; omega) (by unfold inR at *; omega) (by unfold inR at *; omega) (ms σ A F)) (fun v_ σ_ hq => ?_)
        obtain ⟨rfl, e9⟩ := hq
        have e9 := e9.symm
        subst e9
        show sE g_tt _ _ _ 27 [some (.ref 384), some (.int (iZ (p : Int))), some (.int (iZ (q : Int))), some (.int (iZ i)), none, none] [.int (iZ (if (-1) ≤ i ∧ i ≤ 2 then 1 else 0))] (ms σ A F)
        refine z_if_ne (tgt := 33) dX7_meet_27 (by decide) inR_01 (fun c_4 => ?_) (fun c_4 => ?_)
        · have c_4 := if01_1 c_4
          refine z_iconst dX7_meet_33 ?_
          refine q_istore dX7_meet_34 (by decide) ?_
          show sE g_tt _ _ _ 36 [some (.ref 384), some (.int (iZ (p : Int))), some (.int (iZ (q : Int))), some (.int (iZ i)), some (.int (iZ 0)), none] [] (ms σ A F)
          exact lp_meet hd (by omega) (by omega) (by omega) σ A F h23 h26 hW g 5 0 σ F _ (by omega) (eqX_rf σ) (fS_rf h26) (by omega)
        · have c_4 := if01_0 c_4
          exfalso
          omega
set_option maxHeartbeats 4000000 in
set_option maxRecDepth 100000 in
theorem m_meet0 {d : Nat} (hd : 2 ≤ d) {p q i : Int} (hp : inR p) (hqq : inR q) (hi : inR i) (σ : gS) (A F : Nat → Int) (h0 : 0 ≤ A 0) (h5 : A 0 ≤ 5) (hno : ¬ ((0 ≤ p ∧ p < A 0) ∧ (0 ≤ q ∧ q < A 0) ∧ p ≠ q ∧ (-1 ≤ i ∧ i ≤ 2))) : sC mX7_meet d [.ref 384, .int (iZ p), .int (iZ q), .int (iZ i)] (ms σ A F) (fun r σ' => r = some (.int (iZ (-2))) ∧ σ' = ms σ A F) := by
  refine sC_of rfl (Nat.le_of_ble_eq_true rfl) ?_
  show sE g_tt _ _ _ 0 [some (.ref 384), some (.int (iZ p)), some (.int (iZ q)), some (.int (iZ i)), none, none] [] (ms σ A F)
  refine q_aload_n dX7_meet_0 rfl rfl ?_
  refine q_iload_n dX7_meet_1 rfl rfl ?_
  refine s_callV (ci := 7) (a := 384) (As := [.int (iZ p)]) (S := []) dX7_meet_2 okX7_isPerson mlX7_367 rfl (by omega) rfl (Nat.le_of_ble_eq_true rfl) (show kd 384 = 7 from rfl) (by decide) rfl (m_isPerson (d := d - 1) (by omega) (p := p) (by unfold inR at *; omega) σ A F (by omega) (by omega)) (fun v_ σ_ hq => ?_)
  obtain ⟨rfl, e9⟩ := hq
  have e9 := e9.symm
  subst e9
  show sE g_tt _ _ _ 5 [some (.ref 384), some (.int (iZ p)), some (.int (iZ q)), some (.int (iZ i)), none, none] [.int (iZ (if 0 ≤ p ∧ p < A 0 then 1 else 0))] (ms σ A F)
  refine z_if_eq (tgt := 30) dX7_meet_5 (by decide) inR_01 (fun c_1 => ?_) (fun c_1 => ?_)
  · have c_1 := if01_0 c_1
    refine z_bipush dX7_meet_30 (by decide +kernel) ?_
    exact s_iretZ dX7_meet_32 rfl ⟨rfl, rfl⟩
  · have c_1 := if01_1 c_1
    refine q_aload_n dX7_meet_8 rfl rfl ?_
    refine q_iload_n dX7_meet_9 rfl rfl ?_
    refine s_callV (ci := 7) (a := 384) (As := [.int (iZ q)]) (S := []) dX7_meet_10 okX7_isPerson mlX7_367 rfl (by omega) rfl (Nat.le_of_ble_eq_true rfl) (show kd 384 = 7 from rfl) (by decide) rfl (m_isPerson (d := d - 1) (by omega) (p := q) (by unfold inR at *; omega) σ A F (by omega) (by omega)) (fun v_ σ_ hq => ?_)
    obtain ⟨rfl, e9⟩ := hq
    have e9 := e9.symm
    subst e9
    show sE g_tt _ _ _ 13 [some (.ref 384), some (.int (iZ p)), some (.int (iZ q)), some (.int (iZ i)), none, none] [.int (iZ (if 0 ≤ q ∧ q < A 0 then 1 else 0))] (ms σ A F)
    refine z_if_eq (tgt := 30) dX7_meet_13 (by decide) inR_01 (fun c_2 => ?_) (fun c_2 => ?_)
    · have c_2 := if01_0 c_2
      refine z_bipush dX7_meet_30 (by decide +kernel) ?_
      exact s_iretZ dX7_meet_32 rfl ⟨rfl, rfl⟩
    · have c_2 := if01_1 c_2
      refine q_iload_n dX7_meet_16 rfl rfl ?_
      refine q_iload_n dX7_meet_17 rfl rfl ?_
      refine z_icmp_eq (tgt := 30) dX7_meet_18 (by decide) (by unfold inR at *; omega) (by unfold inR at *; omega) (fun c_3 => ?_) (fun c_3 => ?_)
      · refine z_bipush dX7_meet_30 (by decide +kernel) ?_
        exact s_iretZ dX7_meet_32 rfl ⟨rfl, rfl⟩
      · refine q_iload_n dX7_meet_21 rfl rfl ?_
        refine z_iconst dX7_meet_22 ?_
        refine z_iconst dX7_meet_23 ?_
        refine s_callS (As := [.int (iZ i), .int (iZ (-1)), .int (iZ 2)]) (S := []) dX7_meet_24 okX7_isIn mlX7_66 rfl (by omega) rfl (Nat.le_of_ble_eq_true rfl) (m_isIn (d := d - 1) (v := i) (a := (-1)) (b := 2) (by unfold inR at *; omega) (by unfold inR at *; omega) (by unfold inR at *; omega) (ms σ A F)) (fun v_ σ_ hq => ?_)
        obtain ⟨rfl, e9⟩ := hq
        have e9 := e9.symm
        subst e9
        show sE g_tt _ _ _ 27 [some (.ref 384), some (.int (iZ p)), some (.int (iZ q)), some (.int (iZ i)), none, none] [.int (iZ (if (-1) ≤ i ∧ i ≤ 2 then 1 else 0))] (ms σ A F)
        refine z_if_ne (tgt := 33) dX7_meet_27 (by decide) inR_01 (fun c_4 => ?_) (fun c_4 => ?_)
        · have c_4 := if01_1 c_4
          exfalso
          omega
        · have c_4 := if01_0 c_4
          refine z_bipush dX7_meet_30 (by decide +kernel) ?_
          exact s_iretZ dX7_meet_32 rfl ⟨rfl, rfl⟩
