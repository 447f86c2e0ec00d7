/-! ===== the model's reader: behindOne, summed ===== -/
theorem rkF_40 {x : Int} (h : 40 ≤ x) : rkF x = 0 := by unfold rkF; rw [if_pos h]
theorem rkF_1 {x : Int} (h : rkF x < 1) : 40 ≤ x := by
  unfold rkF at h
  by_cases q : 40 ≤ x
  · exact q
  · rw [if_neg q] at h
    exfalso
    revert h
    repeat' split
    all_goals omega
theorem sP_1 : ∀ (P : List Int) (o : Int) (D : List (Int × Int)), 40 ≤ opN P → ∃ z R, (sP 1 P o D).1 = z :: R ∧ 40 ≤ z := by
  intro P
  induction P with
  | nil => intro o D h; exact absurd h (by decide)
  | cons x P ih =>
    intro o D h
    rw [sP]
    by_cases q : 1 ≤ rkF x
    · rw [if_pos q]
      have q2 : ¬ 40 ≤ x := fun z => by rw [rkF_40 z] at q; omega
      rw [opN, if_neg q2] at h
      exact ih _ _ h
    · rw [if_neg q]
      exact ⟨x, P, rfl, rkF_1 (by omega)⟩
theorem sP_mem (l : Int) : ∀ (P : List Int) (o : Int) (D : List (Int × Int)), ∀ x ∈ (sP l P o D).1, x ∈ P := by
  intro P
  induction P with
  | nil => intro o D x hx; exact hx
  | cons y P ih =>
    intro o D x hx
    rw [sP] at hx
    split at hx
    · exact List.mem_cons_of_mem _ (ih _ _ x hx)
    · exact hx
theorem eo_ran (t : Int) (k : Nat) (q : List Int × Int × List (Int × Int)) : ((eoQ t k q).1 = 0 ∨ (eoQ t k q).1 = 1) ∧ ((eoQ t k q).2.1 = 0 ∨ (eoQ t k q).2.1 = 1) := by
  unfold eoQ
  repeat' split
  all_goals exact ⟨by simp, by simp⟩
theorem op_ran (x : Int) (s : pS) : ((opS x s).1 = 0 ∨ (opS x s).1 = 3) ∧ (opS x s).2.1 = 0 := by
  unfold opS
  split
  · exact ⟨Or.inr rfl, rfl⟩
  · exact ⟨Or.inl rfl, rfl⟩
theorem bg_ran (tk nu : Nat → Int) (so : Int) (s : pS) : (0 ≤ (bgS tk nu so s).1 ∧ (bgS tk nu so s).1 ≤ 5) ∧ ((bgS tk nu so s).2.1 = 0 ∨ (bgS tk nu so s).2.1 = 1) := by
  have e := fun s' : pS => eo_ran (tk s'.1) s'.1 (sP 7 s'.2.1 s'.2.2.1 s'.2.2.2)
  have p := fun x => op_ran x s
  unfold bgS
  split
  · exact ⟨⟨by dsimp only; omega, by dsimp only; omega⟩, Or.inl rfl⟩
  · split
    · exact ⟨⟨by dsimp only; omega, by dsimp only; omega⟩, Or.inl rfl⟩
    · split
      · have := e (s.1 + 1, s.2.1, s.2.2.1, (if tk s.1 = 38 then (0, nu s.1) else (1, nmI (tk s.1))) :: s.2.2.2)
        exact ⟨by unfold eoS; omega, this.2⟩
      · repeat' split
        all_goals first | exact ⟨⟨by dsimp only; omega, by dsimp only; omega⟩, Or.inl rfl⟩ | exact ⟨by have := (p 40).1; omega, Or.inl (p 40).2⟩ | exact ⟨by have := (p 5).1; omega, Or.inl (p 5).2⟩ | exact ⟨by have := (p 41).1; omega, Or.inl (p 41).2⟩ | exact ⟨by have := (p 2).1; omega, Or.inl (p 2).2⟩ | exact ⟨by have := (p 42).1; omega, Or.inl (p 42).2⟩ | exact ⟨by have := (p 20).1; omega, Or.inl (p 20).2⟩
theorem bh_ran (tk : Nat → Int) (s : pS) : (-1 ≤ (bhS tk s).1 ∧ (bhS tk s).1 ≤ 5) ∧ ((bhS tk s).2.1 = 0 ∨ (bhS tk s).2.1 = 1) ∧ ((bhS tk s).1 < 0 → bhS tk s = (-1, 1, s)) := by
  have e := fun s' : pS => eo_ran (tk s'.1) s'.1 (sP 7 s'.2.1 s'.2.2.1 s'.2.2.2)
  unfold bhS
  split
  · exact ⟨⟨by dsimp only; omega, by dsimp only; omega⟩, Or.inl rfl, fun h => absurd h (by dsimp only; omega)⟩
  · split
    · exact ⟨⟨by dsimp only; omega, by dsimp only; omega⟩, Or.inr rfl, fun _ => rfl⟩
    · split
      · refine ⟨?_, (e _).2, fun h => ?_⟩
        · unfold eoS
          have := (e (s.1 + 1, (sP 1 s.2.1 s.2.2.1 s.2.2.2).1.tail, (sP 1 s.2.1 s.2.2.1 s.2.2.2).2.1 - 1, if opN s.2.1 = 44 then (3, 0) :: (sP 1 s.2.1 s.2.2.1 s.2.2.2).2.2 else (sP 1 s.2.1 s.2.2.1 s.2.2.2).2.2)).1
          omega
        · have := (e (s.1 + 1, (sP 1 s.2.1 s.2.2.1 s.2.2.2).1.tail, (sP 1 s.2.1 s.2.2.1 s.2.2.2).2.1 - 1, if opN s.2.1 = 44 then (3, 0) :: (sP 1 s.2.1 s.2.2.1 s.2.2.2).2.2 else (sP 1 s.2.1 s.2.2.1 s.2.2.2).2.2)).1
          unfold eoS at h
          omega
      · exact ⟨⟨by dsimp only; omega, by dsimp only; omega⟩, Or.inl rfl, fun h => absurd h (by dsimp only; omega)⟩
set_option maxHeartbeats 4000000 in
set_option maxRecDepth 100000 in
theorem m_behindOne {d : Nat} (hd : 8 ≤ d) (σ : gS) (A F T Pf : Nat → Int) {w0 : Int} {b : Nat → Int} {n tx : Nat} {so : Int} {s : pS} (hR : psR b n tx so F w0 T Pf s) (hw : F 18 = 1) (htx : tx < 4) (hn3 : n ≤ 300) (hb : σ.2.1 388 = b) (hb8 : ∀ i, i < n → 0 ≤ b i ∧ b i < 256) (hB : inB s) : sC mX7_behindOne d [.ref 384] (ms (pt σ T Pf w0) A F) (mAns b n tx so σ A F T (bhS (tkA b n) s)) := by
  have br := btI_ran (tkA b n s.1) s.2.1
  have pr := ptI_ran (tkA b n s.1) s.2.1 (opN s.2.1)
  have rr := rkF_ran (btI (tkA b n s.1) s.2.1)
  have onr := opN_ran s.2.1 hR.2.2.2.2.2.2.2.2
  obtain ⟨hB1, hB2, hB3, hB4⟩ := hB
  refine sC_of rfl (Nat.le_of_ble_eq_true rfl) ?_
  show sE g_tt _ _ _ 0 [some (.ref 384), none, none, none] [] (ms (pt σ T Pf w0) A F)
  refine q_aload_n dX7_behindOne_0 rfl rfl ?_
  refine s_callV (ci := 7) (a := 384) (As := []) (S := []) dX7_behindOne_1 okX7_betweenOf mlX7_197 rfl (by omega) rfl (Nat.le_of_ble_eq_true rfl) (show kd 384 = 7 from rfl) (by decide) rfl (m_betweenOf (d := d - 1) (by omega) σ A F T Pf hR (by omega)) (fun v_ σ_ hq => ?_)
  obtain ⟨rfl, e9⟩ := hq
  have e9 := e9.symm
  subst e9
  show sE g_tt _ _ _ 4 [some (.ref 384), none, none, none] [.int (iZ (btI (tkA b n s.1) s.2.1))] (ms (pt σ T Pf w0) A F)
  refine q_istore_n dX7_behindOne_4 rfl (by decide) ?_
  show sE g_tt _ _ _ 5 [some (.ref 384), some (.int (iZ (btI (tkA b n s.1) s.2.1))), none, none] [] (ms (pt σ T Pf w0) A F)
  refine q_iload_n dX7_behindOne_5 rfl rfl ?_
  refine z_if_lt (tgt := 60) dX7_behindOne_6 (by decide) (by unfold inR; omega) (fun c_1 => ?_) (fun c_1 => ?_)
  · refine q_aload_n dX7_behindOne_60 rfl rfl ?_
    refine s_callV (ci := 7) (a := 384) (As := []) (S := []) dX7_behindOne_61 okX7_openNow mlX7_159 rfl (by omega) rfl (Nat.le_of_ble_eq_true rfl) (show kd 384 = 7 from rfl) (by decide) rfl (m_openNow (d := d - 1) (by omega) σ A F T Pf hR (by omega)) (fun v_ σ_ hq => ?_)
    obtain ⟨rfl, e9⟩ := hq
    have e9 := e9.symm
    subst e9
    show sE g_tt _ _ _ 64 [some (.ref 384), some (.int (iZ (btI (tkA b n s.1) s.2.1))), none, none] [.int (iZ (opN s.2.1))] (ms (pt σ T Pf w0) A F)
    refine q_istore_n dX7_behindOne_64 rfl (by decide) ?_
    show sE g_tt _ _ _ 65 [some (.ref 384), some (.int (iZ (btI (tkA b n s.1) s.2.1))), some (.int (iZ (opN s.2.1))), none] [] (ms (pt σ T Pf w0) A F)
    refine q_aload_n dX7_behindOne_65 rfl rfl ?_
    refine q_iload_n dX7_behindOne_66 rfl rfl ?_
    refine s_callV (ci := 7) (a := 384) (As := [.int (iZ (opN s.2.1))]) (S := []) dX7_behindOne_67 okX7_partOf mlX7_200 rfl (by omega) rfl (Nat.le_of_ble_eq_true rfl) (show kd 384 = 7 from rfl) (by decide) rfl (m_partOf (d := d - 1) (op := opN s.2.1) (by omega) (by omega) σ A F T Pf hR (by omega)) (fun v_ σ_ hq => ?_)
    obtain ⟨rfl, e9⟩ := hq
    have e9 := e9.symm
    subst e9
    show sE g_tt _ _ _ 70 [some (.ref 384), some (.int (iZ (btI (tkA b n s.1) s.2.1))), some (.int (iZ (opN s.2.1))), none] [.int (iZ (ptI (tkA b n s.1) s.2.1 (opN s.2.1)))] (ms (pt σ T Pf w0) A F)
    refine q_istore_n dX7_behindOne_70 rfl (by decide) ?_
    show sE g_tt _ _ _ 71 [some (.ref 384), some (.int (iZ (btI (tkA b n s.1) s.2.1))), some (.int (iZ (opN s.2.1))), some (.int (iZ (ptI (tkA b n s.1) s.2.1 (opN s.2.1))))] [] (ms (pt σ T Pf w0) A F)
    refine q_iload_n dX7_behindOne_71 rfl rfl ?_
    refine z_if_ge (tgt := 77) dX7_behindOne_72 (by decide) (by unfold inR; omega) (fun c_2 => ?_) (fun c_2 => ?_)
    · refine q_aload_n dX7_behindOne_77 rfl rfl ?_
      refine z_iconst dX7_behindOne_78 ?_
      refine s_callV (ci := 7) (a := 384) (As := [.int (iZ 1)]) (S := []) dX7_behindOne_79 okX7_settlePile mlX7_185 rfl (by omega) rfl (Nat.le_of_ble_eq_true rfl) (show kd 384 = 7 from rfl) (by decide) rfl (m_settlePile (d := d - 1) (l := 1) (by omega) (by omega) σ A F T Pf hR htx ⟨by omega, by omega⟩) (fun v_ σ_ hq => ?_)
      obtain ⟨rfl, T1, F1, e9, hR1, h18, kM, kX⟩ := hq
      subst e9
      show sE g_tt _ _ _ 82 [some (.ref 384), some (.int (iZ (btI (tkA b n s.1) s.2.1))), some (.int (iZ (opN s.2.1))), some (.int (iZ (ptI (tkA b n s.1) s.2.1 (opN s.2.1))))] [] (ms (pt σ T1 Pf w0) A F1)
      have hop : 40 ≤ opN s.2.1 := by
        have pp : ¬ (ptI (tkA b n s.1) s.2.1 (opN s.2.1)) = -1 := by omega
        by_cases q : 40 ≤ opN s.2.1
        · exact q
        · exact absurd (show (ptI (tkA b n s.1) s.2.1 (opN s.2.1)) = -1 by unfold ptI; rw [if_neg (by omega), if_neg (by omega), if_neg (by omega), if_neg (by omega)]) pp
      obtain ⟨z, R, eP, hz⟩ := sP_1 s.2.1 s.2.2.1 s.2.2.2 hop
      have hsl := sP_len 1 s.2.1 s.2.2.1 s.2.2.2
      generalize eq9 : sP 1 s.2.1 s.2.2.1 s.2.2.2 = q at *
      obtain ⟨P1, o1, D1⟩ := q
      obtain rfl : P1 = z :: R := eP
      have hlc : (z :: R).length = R.length + 1 := rfl
      have hsl2 : (z :: R).length ≤ s.2.1.length := hsl.2
      have hsl1 : (z :: R).length + D1.length = s.2.1.length + s.2.2.2.length := hsl.1
      refine q_aload_n dX7_behindOne_82 rfl rfl ?_
      refine s_callV (ci := 7) (a := 384) (As := []) (S := []) dX7_behindOne_83 okX7_nextToken mlX7_162 rfl (by omega) rfl (Nat.le_of_ble_eq_true rfl) (show kd 384 = 7 from rfl) (by decide) rfl (m_nxt (d := d - 1) (by omega) σ A F1 T1 Pf hn3 hb hb8 hR1.1) (fun v_ σ_ hq => ?_)
      obtain ⟨rfl, w1, F2, e9, ld9, kp9⟩ := hq
      subst e9
      have hR2 := psR_k hR1 kp9 ld9
      show sE g_tt _ _ _ 86 [some (.ref 384), some (.int (iZ (btI (tkA b n s.1) s.2.1))), some (.int (iZ (opN s.2.1))), some (.int (iZ (ptI (tkA b n s.1) s.2.1 (opN s.2.1))))] [] (ms (pt σ T1 Pf w1) A F2)
      refine q_iload_n dX7_behindOne_86 rfl rfl ?_
      refine z_if_ne (tgt := 127) dX7_behindOne_87 (by decide) (by unfold inR; omega) (fun c_51 => ?_) (fun c_51 => ?_)
      · refine q_aload_n dX7_behindOne_127 rfl rfl ?_
        refine sg7 (kf := 15) (v := .ref 389) dX7_behindOne_128 flX7_29 (show kd 384 = 7 from rfl) (by decide) rfl ?_
        refine q_aload_n dX7_behindOne_131 rfl rfl ?_
        refine s_callV (ci := 7) (a := 384) (As := []) (S := [.ref 389]) dX7_behindOne_132 okX7_openAt mlX7_155 rfl (by omega) rfl (Nat.le_of_ble_eq_true rfl) (show kd 384 = 7 from rfl) (by decide) rfl (m_openAt (d := d - 1) σ A F2 T1 Pf hR2 (by show (z :: R).length ≤ 155; omega)) (fun v_ σ_ hq => ?_)
        obtain ⟨rfl, e9⟩ := hq
        have e9 := e9.symm
        subst e9
        refine z_top (y := (R.length : Int)) (by show opA (z :: R) = _; rw [opA, if_pos hz]) ?_
        show sE g_tt _ _ _ 135 [some (.ref 384), some (.int (iZ (btI (tkA b n s.1) s.2.1))), some (.int (iZ (opN s.2.1))), some (.int (iZ (ptI (tkA b n s.1) s.2.1 (opN s.2.1))))] [.int (iZ (R.length : Int)), .ref 389] (ms (pt σ T1 Pf w1) A F2)
        refine q_iload_n dX7_behindOne_135 rfl rfl ?_
        refine pt_st389 (k := R.length) dX7_behindOne_136 (by omega) (by omega) (by omega) ?_
        refine q_aload_n dX7_behindOne_137 rfl rfl ?_
        refine z_iconst dX7_behindOne_138 ?_
        refine mz18 dX7_behindOne_139 flX7_188 (by omega) ?_
        refine z_iconst dX7_behindOne_142 ?_
        exact s_iretZ dX7_behindOne_143 rfl (show mAns b n tx so σ A F T (bhS (tkA b n) s) _ _ by
          unfold bhS; rw [if_neg (by omega), if_neg (by omega), if_neg (by omega), eq9]
          exact ⟨rfl, w1, T1, _, va_up F2 18 0, rfl, ⟨hR2.1, hR2.2.1, hR2.2.2.1, hR2.2.2.2.1, hR2.2.2.2.2.1, hR2.2.2.2.2.2.1, stk_push (ptI (tkA b n s.1) s.2.1 (opN s.2.1)) hR2.2.2.2.2.2.2.1.2, hR2.2.2.2.2.2.2.2.1, fun y hy => by rcases List.mem_cons.1 hy with rfl | hy; exact ⟨by omega, by omega⟩; exact hR2.2.2.2.2.2.2.2.2 y (List.mem_cons_of_mem _ hy)⟩, rfl, kpM_up (kpM_tr kM (kpM_T kp9)) (Or.inr (Or.inr (Or.inr rfl))) _, kX⟩)
      · refine q_aload_n dX7_behindOne_90 rfl rfl ?_
        refine q_dup dX7_behindOne_91 rfl ?_
        refine sg7 (kf := 17) (v := .int (iZ o1)) dX7_behindOne_92 flX7_152 (show kd 384 = 7 from rfl) (by decide) (by show some (Value.int (iZ (F2 17))) = _; rw [hR2.2.2.2.2.2.1]) ?_
        refine z_iconst dX7_behindOne_95 ?_
        refine z_isub dX7_behindOne_96 ?_
        refine mp (kf := 17) dX7_behindOne_97 flX7_152 (by decide) ?_
        refine q_aload_n dX7_behindOne_100 rfl rfl ?_
        refine q_dup dX7_behindOne_101 rfl ?_
        refine sg7 (kf := 16) (v := .int (iZ ((z :: R).length : Int))) dX7_behindOne_102 flX7_142 (show kd 384 = 7 from rfl) (by decide) (by show some (Value.int (iZ (F2 16))) = _; rw [hR2.2.2.2.2.1]) ?_
        refine z_iconst dX7_behindOne_105 ?_
        refine z_isub dX7_behindOne_106 ?_
        refine mp (kf := 16) dX7_behindOne_107 flX7_142 (by decide) ?_
        have hR3 : psR b n tx so (va_up (va_up F2 17 (o1 - 1)) 16 (((z :: R).length : Int) - 1)) w1 T1 Pf (s.1 + 1, R, o1 - 1, D1) := psR_P (psR_o hR2 (o1 - 1)) hR2.2.2.2.2.2.2.1.2 (fun y hy => hR2.2.2.2.2.2.2.2.2 y (List.mem_cons_of_mem _ hy)) (by omega)
        have kM9 : kpM F (va_up (va_up F2 17 (o1 - 1)) 16 (((z :: R).length : Int) - 1)) := kpM_up (kpM_up (kpM_tr kM (kpM_T kp9)) (Or.inr (Or.inr (Or.inl rfl))) _) (Or.inr (Or.inl rfl)) _
        refine q_iload_n dX7_behindOne_110 rfl rfl ?_
        refine z_bipush dX7_behindOne_111 (by decide +kernel) ?_
        refine z_icmp_ne (tgt := 122) dX7_behindOne_113 (by decide) (by unfold inR; omega) (by unfold inR; omega) (fun c_71 => ?_) (fun c_71 => ?_)
        · refine q_aload_n dX7_behindOne_122 rfl rfl ?_
          refine s_callV (ci := 7) (a := 384) (As := []) (S := []) dX7_behindOne_123 okX7_endOne mlX7_171 rfl (by omega) rfl (Nat.le_of_ble_eq_true rfl) (show kd 384 = 7 from rfl) (by decide) rfl (m_endOne (d := d - 1) (by omega) σ A (va_up (va_up F2 17 (o1 - 1)) 16 (((z :: R).length : Int) - 1)) T1 Pf hR3 htx hn3 hb hb8 ⟨by show R.length ≤ 155; omega, by show R.length + D1.length ≤ 304; omega⟩) (fun v_ σ_ hq => ?_)
          rename gS => τ9
          obtain ⟨rfl, hq2⟩ := hq
          have hq : mAns b n tx so σ A F T (eoS (tkA b n) (s.1 + 1, R, o1 - 1, D1)) _ τ9 := mAns_tr ⟨rfl, hq2⟩ kM9 kX
          show sE g_tt _ _ _ 126 [some (.ref 384), some (.int (iZ (btI (tkA b n s.1) s.2.1))), some (.int (iZ (opN s.2.1))), some (.int (iZ (ptI (tkA b n s.1) s.2.1 (opN s.2.1))))] [.int (iZ ((eoS (tkA b n) (s.1 + 1, R, o1 - 1, D1)).1))] τ9
          exact s_iretZ dX7_behindOne_126 rfl (show mAns b n tx so σ A F T (bhS (tkA b n) s) _ _ by
            unfold bhS; rw [if_neg (by omega), if_neg (by omega), if_pos (by omega), eq9]; rw [if_neg (by omega)]
            exact hq)
        · refine q_aload_n dX7_behindOne_116 rfl rfl ?_
          refine z_iconst dX7_behindOne_117 ?_
          refine z_iconst dX7_behindOne_118 ?_
          refine s_callV (ci := 7) (a := 384) (As := [.int (iZ 3), .int (iZ 0)]) (S := []) dX7_behindOne_119 okX7_emit mlX7_148 rfl (by omega) rfl (Nat.le_of_ble_eq_true rfl) (show kd 384 = 7 from rfl) (by decide) rfl (m_emit (d := d - 1) (x := 3) (y := 0) σ A (va_up (va_up F2 17 (o1 - 1)) 16 (((z :: R).length : Int) - 1)) T1 Pf hR3 htx (by show D1.length ≤ 303; omega)) (fun v_ σ_ hq => ?_)
          obtain ⟨rfl, T3, F3, e9, hR4, h18b, kM4, kX4⟩ := hq
          subst e9
          show sE g_tt _ _ _ 122 [some (.ref 384), some (.int (iZ (btI (tkA b n s.1) s.2.1))), some (.int (iZ (opN s.2.1))), some (.int (iZ (ptI (tkA b n s.1) s.2.1 (opN s.2.1))))] [] (ms (pt σ T3 Pf w1) A F3)
          refine q_aload_n dX7_behindOne_122 rfl rfl ?_
          refine s_callV (ci := 7) (a := 384) (As := []) (S := []) dX7_behindOne_123 okX7_endOne mlX7_171 rfl (by omega) rfl (Nat.le_of_ble_eq_true rfl) (show kd 384 = 7 from rfl) (by decide) rfl (m_endOne (d := d - 1) (by omega) σ A F3 T3 Pf hR4 htx hn3 hb hb8 ⟨by show R.length ≤ 155; omega, by show R.length + ((3, 0) :: D1).length ≤ 304; rw [List.length_cons]; omega⟩) (fun v_ σ_ hq => ?_)
          rename gS => τ9
          obtain ⟨rfl, hq2⟩ := hq
          have hq : mAns b n tx so σ A F T (eoS (tkA b n) (s.1 + 1, R, o1 - 1, ((3, 0) :: D1))) _ τ9 := mAns_tr ⟨rfl, hq2⟩ (kpM_tr kM9 kM4) (kpX_tr kX kX4)
          show sE g_tt _ _ _ 126 [some (.ref 384), some (.int (iZ (btI (tkA b n s.1) s.2.1))), some (.int (iZ (opN s.2.1))), some (.int (iZ (ptI (tkA b n s.1) s.2.1 (opN s.2.1))))] [.int (iZ ((eoS (tkA b n) (s.1 + 1, R, o1 - 1, ((3, 0) :: D1))).1))] τ9
          exact s_iretZ dX7_behindOne_126 rfl (show mAns b n tx so σ A F T (bhS (tkA b n) s) _ _ by
            unfold bhS; rw [if_neg (by omega), if_neg (by omega), if_pos (by omega), eq9]; rw [if_pos (by omega)]
            exact hq)
    · refine z_iconst dX7_behindOne_75 ?_
      exact s_iretZ dX7_behindOne_76 rfl (show mAns b n tx so σ A F T (bhS (tkA b n) s) _ _ by
        unfold bhS; rw [if_neg (by omega), if_pos (by omega)]
        exact ⟨rfl, w0, T, Pf, F, rfl, hR, hw, kpM_rf F, kpX_rf tx T⟩)
  · refine q_aload_n dX7_behindOne_9 rfl rfl ?_
    refine q_iload_n dX7_behindOne_10 rfl rfl ?_
    refine s_callS (As := [.int (iZ (btI (tkA b n s.1) s.2.1))]) (S := [.ref 384]) dX7_behindOne_11 okX7_rank mlX7_145 rfl (by omega) rfl (Nat.le_of_ble_eq_true rfl) (m_rk (d := d - 1) (n := btI (tkA b n s.1) s.2.1) (by unfold inR; omega) (ms (pt σ T Pf w0) A F)) (fun v_ σ_ hq => ?_)
    obtain ⟨rfl, e9⟩ := hq
    have e9 := e9.symm
    subst e9
    show sE g_tt _ _ _ 14 [some (.ref 384), some (.int (iZ (btI (tkA b n s.1) s.2.1))), none, none] [.int (iZ (rkF (btI (tkA b n s.1) s.2.1))), .ref 384] (ms (pt σ T Pf w0) A F)
    refine z_iconst dX7_behindOne_14 ?_
    refine z_icmp_ne (tgt := 22) dX7_behindOne_15 (by decide) (by unfold inR; omega) (by unfold inR; omega) (fun c_3 => ?_) (fun c_3 => ?_)
    · refine q_iload_n dX7_behindOne_22 rfl rfl ?_
      refine s_callS (As := [.int (iZ (btI (tkA b n s.1) s.2.1))]) (S := [.ref 384]) dX7_behindOne_23 okX7_rank mlX7_145 rfl (by omega) rfl (Nat.le_of_ble_eq_true rfl) (m_rk (d := d - 1) (n := btI (tkA b n s.1) s.2.1) (by unfold inR; omega) (ms (pt σ T Pf w0) A F)) (fun v_ σ_ hq => ?_)
      obtain ⟨rfl, e9⟩ := hq
      have e9 := e9.symm
      subst e9
      show sE g_tt _ _ _ 26 [some (.ref 384), some (.int (iZ (btI (tkA b n s.1) s.2.1))), none, none] [.int (iZ (rkF (btI (tkA b n s.1) s.2.1))), .ref 384] (ms (pt σ T Pf w0) A F)
      refine s_callV (ci := 7) (a := 384) (As := [.int (iZ (rkF (btI (tkA b n s.1) s.2.1)))]) (S := []) dX7_behindOne_26 okX7_settlePile mlX7_185 rfl (by omega) rfl (Nat.le_of_ble_eq_true rfl) (show kd 384 = 7 from rfl) (by decide) rfl (m_settlePile (d := d - 1) (l := rkF (btI (tkA b n s.1) s.2.1)) (by omega) (by omega) σ A F T Pf hR htx ⟨by omega, by omega⟩) (fun v_ σ_ hq => ?_)
      obtain ⟨rfl, T1, F1, e9, hR1, h18, kM, kX⟩ := hq
      subst e9
      show sE g_tt _ _ _ 29 [some (.ref 384), some (.int (iZ (btI (tkA b n s.1) s.2.1))), none, none] [] (ms (pt σ T1 Pf w0) A F1)
      have eL : (if rkF (btI (tkA b n s.1) s.2.1) = 4 then 5 else rkF (btI (tkA b n s.1) s.2.1)) = rkF (btI (tkA b n s.1) s.2.1) := by first | rw [if_pos (by omega)] | rw [if_neg (by omega)]
      have hsl := sP_len (rkF (btI (tkA b n s.1) s.2.1)) s.2.1 s.2.2.1 s.2.2.2
      generalize eq9 : sP (rkF (btI (tkA b n s.1) s.2.1)) s.2.1 s.2.2.1 s.2.2.2 = q at *
      obtain ⟨P1, o1, D1⟩ := q
      have hsl2 : P1.length ≤ s.2.1.length := hsl.2
      refine q_aload_n dX7_behindOne_29 rfl rfl ?_
      refine sg7 (kf := 15) (v := .ref 389) dX7_behindOne_30 flX7_29 (show kd 384 = 7 from rfl) (by decide) rfl ?_
      refine q_aload_n dX7_behindOne_33 rfl rfl ?_
      refine sg7 (kf := 16) (v := .int (iZ (P1.length : Int))) dX7_behindOne_34 flX7_142 (show kd 384 = 7 from rfl) (by decide) (by show some (Value.int (iZ (F1 16))) = _; rw [hR1.2.2.2.2.1]) ?_
      refine q_iload_n dX7_behindOne_37 rfl rfl ?_
      refine pt_st389 (k := P1.length) dX7_behindOne_38 (by omega) (by omega) (by omega) ?_
      refine q_aload_n dX7_behindOne_39 rfl rfl ?_
      refine q_dup dX7_behindOne_40 rfl ?_
      refine sg7 (kf := 16) (v := .int (iZ (P1.length : Int))) dX7_behindOne_41 flX7_142 (show kd 384 = 7 from rfl) (by decide) (by show some (Value.int (iZ (F1 16))) = _; rw [hR1.2.2.2.2.1]) ?_
      refine z_iconst dX7_behindOne_44 ?_
      refine z_iadd dX7_behindOne_45 ?_
      refine mp (kf := 16) dX7_behindOne_46 flX7_142 (by decide) ?_
      refine q_aload_n dX7_behindOne_49 rfl rfl ?_
      refine z_iconst dX7_behindOne_50 ?_
      refine mz18 dX7_behindOne_51 flX7_188 (by omega) ?_
      refine q_aload_n dX7_behindOne_54 rfl rfl ?_
      refine s_callV (ci := 7) (a := 384) (As := []) (S := []) dX7_behindOne_55 okX7_nextToken mlX7_162 rfl (by omega) rfl (Nat.le_of_ble_eq_true rfl) (show kd 384 = 7 from rfl) (by decide) rfl (m_nxt (d := d - 1) (by omega) σ A (va_up (va_up F1 16 ((P1.length : Int) + 1)) 18 0) T1 (va_up Pf P1.length (btI (tkA b n s.1) s.2.1)) hn3 hb hb8 hR1.1) (fun v_ σ_ hq => ?_)
      obtain ⟨rfl, w1, F2, e9, ld9, kp9⟩ := hq
      subst e9
      show sE g_tt _ _ _ 58 [some (.ref 384), some (.int (iZ (btI (tkA b n s.1) s.2.1))), none, none] [] (ms (pt σ T1 (va_up Pf P1.length (btI (tkA b n s.1) s.2.1)) w1) A F2)
      refine z_iconst dX7_behindOne_58 ?_
      exact s_iretZ dX7_behindOne_59 rfl (show mAns b n tx so σ A F T (bhS (tkA b n) s) _ _ by
        unfold bhS; rw [if_pos (by omega), eL, eq9]
        exact ⟨rfl, w1, T1, _, F2, rfl, psR_k (psR_w (psR_P hR1 (stk_push (btI (tkA b n s.1) s.2.1) hR1.2.2.2.2.2.2.1) (fun y hy => by rcases List.mem_cons.1 hy with rfl | hy; exact ⟨by omega, by omega⟩; exact hR1.2.2.2.2.2.2.2.2 y hy) (v := (P1.length : Int) + 1) (by show _ = ((P1.length + 1 : Nat) : Int); omega)) 0) kp9 ld9, (kp9 18 (by decide) (by decide) (by decide) (by decide)), kpM_tr (kpM_up (kpM_up kM (Or.inr (Or.inl rfl)) _) (Or.inr (Or.inr (Or.inr rfl))) _) (kpM_T kp9), kX⟩)
    · refine z_iconst dX7_behindOne_18 ?_
      refine q_goto (tgt := 26) dX7_behindOne_19 (by decide) ?_
      refine s_callV (ci := 7) (a := 384) (As := [.int (iZ 5)]) (S := []) dX7_behindOne_26 okX7_settlePile mlX7_185 rfl (by omega) rfl (Nat.le_of_ble_eq_true rfl) (show kd 384 = 7 from rfl) (by decide) rfl (m_settlePile (d := d - 1) (l := 5) (by omega) (by omega) σ A F T Pf hR htx ⟨by omega, by omega⟩) (fun v_ σ_ hq => ?_)
      obtain ⟨rfl, T1, F1, e9, hR1, h18, kM, kX⟩ := hq
      subst e9
      show sE g_tt _ _ _ 29 [some (.ref 384), some (.int (iZ (btI (tkA b n s.1) s.2.1))), none, none] [] (ms (pt σ T1 Pf w0) A F1)
      have eL : (if rkF (btI (tkA b n s.1) s.2.1) = 4 then 5 else rkF (btI (tkA b n s.1) s.2.1)) = 5 := by first | rw [if_pos (by omega)] | rw [if_neg (by omega)]
      have hsl := sP_len (5) s.2.1 s.2.2.1 s.2.2.2
      generalize eq9 : sP (5) s.2.1 s.2.2.1 s.2.2.2 = q at *
      obtain ⟨P1, o1, D1⟩ := q
      have hsl2 : P1.length ≤ s.2.1.length := hsl.2
      refine q_aload_n dX7_behindOne_29 rfl rfl ?_
      refine sg7 (kf := 15) (v := .ref 389) dX7_behindOne_30 flX7_29 (show kd 384 = 7 from rfl) (by decide) rfl ?_
      refine q_aload_n dX7_behindOne_33 rfl rfl ?_
      refine sg7 (kf := 16) (v := .int (iZ (P1.length : Int))) dX7_behindOne_34 flX7_142 (show kd 384 = 7 from rfl) (by decide) (by show some (Value.int (iZ (F1 16))) = _; rw [hR1.2.2.2.2.1]) ?_
      refine q_iload_n dX7_behindOne_37 rfl rfl ?_
      refine pt_st389 (k := P1.length) dX7_behindOne_38 (by omega) (by omega) (by omega) ?_
      refine q_aload_n dX7_behindOne_39 rfl rfl ?_
      refine q_dup dX7_behindOne_40 rfl ?_
      refine sg7 (kf := 16) (v := .int (iZ (P1.length : Int))) dX7_behindOne_41 flX7_142 (show kd 384 = 7 from rfl) (by decide) (by show some (Value.int (iZ (F1 16))) = _; rw [hR1.2.2.2.2.1]) ?_
      refine z_iconst dX7_behindOne_44 ?_
      refine z_iadd dX7_behindOne_45 ?_
      refine mp (kf := 16) dX7_behindOne_46 flX7_142 (by decide) ?_
      refine q_aload_n dX7_behindOne_49 rfl rfl ?_
      refine z_iconst dX7_behindOne_50 ?_
      refine mz18 dX7_behindOne_51 flX7_188 (by omega) ?_
      refine q_aload_n dX7_behindOne_54 rfl rfl ?_
      refine s_callV (ci := 7) (a := 384) (As := []) (S := []) dX7_behindOne_55 okX7_nextToken mlX7_162 rfl (by omega) rfl (Nat.le_of_ble_eq_true rfl) (show kd 384 = 7 from rfl) (by decide) rfl (m_nxt (d := d - 1) (by omega) σ A (va_up (va_up F1 16 ((P1.length : Int) + 1)) 18 0) T1 (va_up Pf P1.length (btI (tkA b n s.1) s.2.1)) hn3 hb hb8 hR1.1) (fun v_ σ_ hq => ?_)
      obtain ⟨rfl, w1, F2, e9, ld9, kp9⟩ := hq
      subst e9
      show sE g_tt _ _ _ 58 [some (.ref 384), some (.int (iZ (btI (tkA b n s.1) s.2.1))), none, none] [] (ms (pt σ T1 (va_up Pf P1.length (btI (tkA b n s.1) s.2.1)) w1) A F2)
      refine z_iconst dX7_behindOne_58 ?_
      exact s_iretZ dX7_behindOne_59 rfl (show mAns b n tx so σ A F T (bhS (tkA b n) s) _ _ by
        unfold bhS; rw [if_pos (by omega), eL, eq9]
        exact ⟨rfl, w1, T1, _, F2, rfl, psR_k (psR_w (psR_P hR1 (stk_push (btI (tkA b n s.1) s.2.1) hR1.2.2.2.2.2.2.1) (fun y hy => by rcases List.mem_cons.1 hy with rfl | hy; exact ⟨by omega, by omega⟩; exact hR1.2.2.2.2.2.2.2.2 y hy) (v := (P1.length : Int) + 1) (by show _ = ((P1.length + 1 : Nat) : Int); omega)) 0) kp9 ld9, (kp9 18 (by decide) (by decide) (by decide) (by decide)), kpM_tr (kpM_up (kpM_up kM (Or.inr (Or.inl rfl)) _) (Or.inr (Or.inr (Or.inr rfl))) _) (kpM_T kp9), kX⟩)
def sumQ (b : Nat → Int) (n tx : Nat) (so : Int) (σ : gS) (A F T : Nat → Int) (x : Int × pS) (r : Option Value) (σ' : gS) : Prop := r = some (.int (iZ x.1)) ∧ ∃ w1 T1 P1 F1, σ' = ms (pt σ T1 P1 w1) A F1 ∧ psR b n tx so F1 w1 T1 P1 x.2 ∧ kpM F F1 ∧ kpX tx T T1
set_option maxHeartbeats 4000000 in
set_option maxRecDepth 100000 in
theorem lm_summed {d : Nat} (hd : 9 ≤ d) (σ : gS) (A F0 T0 : Nat → Int) {b : Nat → Int} {n tx : Nat} {so : Int} (htx : tx < 4) (hn3 : n ≤ 300) (hb : σ.2.1 388 = b) (hb8 : ∀ i, i < n → 0 ≤ b i ∧ b i < 256) (hso : so = 0 ∨ so = 1) {x : Int × pS} : ∀ (f : Nat) (wh : Int) (F : Nat → Int) (w0 : Int) (T Pf : Nat → Int) (s : pS), rnS (tkA b n) (nuA b n) so f wh s = some x → psR b n tx so F w0 T Pf s → F 18 = wh → (wh = 0 ∨ wh = 1) → kpM F0 F → kpX tx T0 T → ∀ l1 : Option Value, sE g_tt mX7_summed d (sumQ b n tx so σ A F0 T0 x) 15 [some (.ref 384), l1] [] (ms (pt σ T Pf w0) A F) := by
  intro f
  induction f with
  | zero => intro wh F w0 T Pf s hr; exact absurd hr (by simp [rnS])
  | succ f ih =>
    intro wh F w0 T Pf s hr hR hw h01 kM kX l1
    rw [rnS] at hr
    by_cases hI : inB s
    · rw [if_pos hI] at hr
      have onr := opN_ran s.2.1 hR.2.2.2.2.2.2.2.2
      have hB1 := hI.1
      have hB2 := hI.2.1
      by_cases hwh : wh = 0
      · rw [if_pos hwh] at hr
        have gr := bg_ran (tkA b n) (nuA b n) so s
        refine q_aload_n dX7_summed_15 rfl rfl ?_
        refine sg7 (kf := 18) (v := .int (iZ wh)) dX7_summed_16 flX7_188 (show kd 384 = 7 from rfl) (by decide) (by show some (Value.int (iZ (F 18))) = _; rw [hw]) ?_
        refine z_if_eq (tgt := 29) dX7_summed_19 (by decide) (by unfold inR; omega) (fun c_1 => ?_) (fun c_1 => ?_)
        · refine q_aload_n dX7_summed_29 rfl rfl ?_
          refine s_callV (ci := 7) (a := 384) (As := []) (S := []) dX7_summed_30 okX7_beginOne mlX7_206 rfl (by omega) rfl (Nat.le_of_ble_eq_true rfl) (show kd 384 = 7 from rfl) (by decide) rfl (m_beginOne (d := d - 1) (by omega) σ A F T Pf hR (hw.trans hwh) htx hn3 hb hb8 hso hI) (fun v_ σ_ hq => ?_)
          obtain ⟨rfl, w1, T1, P1, F1, e9, hR1, hw1, kM1, kX1⟩ := hq
          subst e9
          show sE g_tt _ _ _ 33 [some (.ref 384), l1] [.int (iZ ((bgS (tkA b n) (nuA b n) so s).1))] (ms (pt σ T1 P1 w1) A F1)
          refine q_istore_n dX7_summed_33 rfl (by decide) ?_
          show sE g_tt _ _ _ 34 [some (.ref 384), some (.int (iZ ((bgS (tkA b n) (nuA b n) so s).1)))] [] (ms (pt σ T1 P1 w1) A F1)
          refine q_iload_n dX7_summed_34 rfl rfl ?_
          refine z_if_le (tgt := 40) dX7_summed_35 (by decide) (by unfold inR; omega) (fun c_2 => ?_) (fun c_2 => ?_)
          · refine q_iload_n dX7_summed_40 rfl rfl ?_
            refine z_if_ne (tgt := 47) dX7_summed_41 (by decide) (by unfold inR; omega) (fun c_3 => ?_) (fun c_3 => ?_)
            · exfalso
              omega
            · refine q_goto (tgt := 15) dX7_summed_44 (by decide) ?_
              rw [if_neg (by omega), if_pos (by omega)] at hr
              exact ih _ F1 w1 T1 P1 _ hr hR1 hw1 gr.2 (kpM_tr kM kM1) (kpX_tr kX kX1) _
          · refine q_iload_n dX7_summed_38 rfl rfl ?_
            exact s_iretZ dX7_summed_39 rfl (by rw [if_pos (by omega)] at hr; obtain rfl := Option.some.inj hr; exact ⟨rfl, w1, T1, P1, F1, rfl, hR1, kpM_tr kM kM1, kpX_tr kX kX1⟩)
        · exfalso
          omega
      · have hwh : wh = 1 := by omega
        rw [if_neg (show ¬ wh = 0 by omega)] at hr
        have gr := bh_ran (tkA b n) s
        refine q_aload_n dX7_summed_15 rfl rfl ?_
        refine sg7 (kf := 18) (v := .int (iZ wh)) dX7_summed_16 flX7_188 (show kd 384 = 7 from rfl) (by decide) (by show some (Value.int (iZ (F 18))) = _; rw [hw]) ?_
        refine z_if_eq (tgt := 29) dX7_summed_19 (by decide) (by unfold inR; omega) (fun c_1 => ?_) (fun c_1 => ?_)
        · exfalso
          omega
        · refine q_aload_n dX7_summed_22 rfl rfl ?_
          refine s_callV (ci := 7) (a := 384) (As := []) (S := []) dX7_summed_23 okX7_behindOne mlX7_203 rfl (by omega) rfl (Nat.le_of_ble_eq_true rfl) (show kd 384 = 7 from rfl) (by decide) rfl (m_behindOne (d := d - 1) (by omega) σ A F T Pf hR (hw.trans hwh) htx hn3 hb hb8 hI) (fun v_ σ_ hq => ?_)
          obtain ⟨rfl, w1, T1, P1, F1, e9, hR1, hw1, kM1, kX1⟩ := hq
          subst e9
          show sE g_tt _ _ _ 26 [some (.ref 384), l1] [.int (iZ ((bhS (tkA b n) s).1))] (ms (pt σ T1 P1 w1) A F1)
          refine q_goto (tgt := 33) dX7_summed_26 (by decide) ?_
          refine q_istore_n dX7_summed_33 rfl (by decide) ?_
          show sE g_tt _ _ _ 34 [some (.ref 384), some (.int (iZ ((bhS (tkA b n) s).1)))] [] (ms (pt σ T1 P1 w1) A F1)
          refine q_iload_n dX7_summed_34 rfl rfl ?_
          refine z_if_le (tgt := 40) dX7_summed_35 (by decide) (by unfold inR; omega) (fun c_2 => ?_) (fun c_2 => ?_)
          · refine q_iload_n dX7_summed_40 rfl rfl ?_
            refine z_if_ne (tgt := 47) dX7_summed_41 (by decide) (by unfold inR; omega) (fun c_3 => ?_) (fun c_3 => ?_)
            · have eB := gr.2.2 (by omega)
              rw [eB] at hR1
              have hR1 : psR b n tx so F1 w1 T1 P1 s := hR1
              refine q_aload_n dX7_summed_47 rfl rfl ?_
              refine s_callV (ci := 7) (a := 384) (As := []) (S := []) dX7_summed_48 okX7_openNow mlX7_159 rfl (by omega) rfl (Nat.le_of_ble_eq_true rfl) (show kd 384 = 7 from rfl) (by decide) rfl (m_openNow (d := d - 1) (by omega) σ A F1 T1 P1 hR1 (by omega)) (fun v_ σ_ hq => ?_)
              obtain ⟨rfl, e9⟩ := hq
              have e9 := e9.symm
              subst e9
              show sE g_tt _ _ _ 51 [some (.ref 384), some (.int (iZ ((bhS (tkA b n) s).1)))] [.int (iZ (opN s.2.1))] (ms (pt σ T1 P1 w1) A F1)
              refine z_if_lt (tgt := 56) dX7_summed_51 (by decide) (by unfold inR; omega) (fun c_41 => ?_) (fun c_41 => ?_)
              · refine q_aload_n dX7_summed_56 rfl rfl ?_
                refine z_iconst dX7_summed_57 ?_
                refine s_callV (ci := 7) (a := 384) (As := [.int (iZ 1)]) (S := []) dX7_summed_58 okX7_settlePile mlX7_185 rfl (by omega) rfl (Nat.le_of_ble_eq_true rfl) (show kd 384 = 7 from rfl) (by decide) rfl (m_settlePile (d := d - 1) (l := 1) (by omega) (by omega) σ A F1 T1 P1 hR1 htx ⟨by omega, by omega⟩) (fun v_ σ_ hq => ?_)
                obtain ⟨rfl, T2, F2, e9, hR2, h18, kM2, kX2⟩ := hq
                subst e9
                show sE g_tt _ _ _ 61 [some (.ref 384), some (.int (iZ ((bhS (tkA b n) s).1)))] [] (ms (pt σ T2 P1 w1) A F2)
                refine z_iconst dX7_summed_61 ?_
                exact s_iretZ dX7_summed_62 rfl (by rw [if_neg (by omega), if_neg (by omega), if_neg (by omega)] at hr; obtain rfl := Option.some.inj hr; exact ⟨rfl, w1, T2, P1, F2, rfl, hR2, kpM_tr (kpM_tr kM kM1) kM2, kpX_tr (kpX_tr kX kX1) kX2⟩)
              · refine z_iconst dX7_summed_54 ?_
                exact s_iretZ dX7_summed_55 rfl (by rw [if_neg (by omega), if_neg (by omega), if_pos (by omega)] at hr; obtain rfl := Option.some.inj hr; exact ⟨rfl, w1, T1, P1, F1, rfl, hR1, kpM_tr kM kM1, kpX_tr kX kX1⟩)
            · refine q_goto (tgt := 15) dX7_summed_44 (by decide) ?_
              rw [if_neg (by omega), if_pos (by omega)] at hr
              exact ih _ F1 w1 T1 P1 _ hr hR1 hw1 gr.2.1 (kpM_tr kM kM1) (kpX_tr kX kX1) _
          · refine q_iload_n dX7_summed_38 rfl rfl ?_
            exact s_iretZ dX7_summed_39 rfl (by rw [if_pos (by omega)] at hr; obtain rfl := Option.some.inj hr; exact ⟨rfl, w1, T1, P1, F1, rfl, hR1, kpM_tr kM kM1, kpX_tr kX kX1⟩)
    · rw [if_neg hI] at hr; cases hr
set_option maxHeartbeats 4000000 in
set_option maxRecDepth 100000 in
theorem m_summed {d : Nat} (hd : 9 ≤ d) (σ : gS) (A F T Pf : Nat → Int) {w0 : Int} {b : Nat → Int} {n tx k : Nat} {so : Int} {D : List (Int × Int)} (hl : ldR b n F w0 k) (h12 : F 12 = ((681 * tx : Nat) : Int)) (h13 : F 13 = ((D.length : Nat) : Int)) (h14 : F 14 = so) (hD : dR T (681 * tx + 73) D) (htx : tx < 4) (hn3 : n ≤ 300) (hb : σ.2.1 388 = b) (hb8 : ∀ i, i < n → 0 ≤ b i ∧ b i < 256) (hso : so = 0 ∨ so = 1) {f : Nat} {x : Int × pS} (hr : rnS (tkA b n) (nuA b n) so f 0 (k, [], 0, D) = some x) : sC mX7_summed d [.ref 384] (ms (pt σ T Pf w0) A F) (sumQ b n tx so σ A F T x) := by
  refine sC_of rfl (Nat.le_of_ble_eq_true rfl) ?_
  show sE g_tt _ _ _ 0 [some (.ref 384), none] [] (ms (pt σ T Pf w0) A F)
  refine q_aload_n dX7_summed_0 rfl rfl ?_
  refine z_iconst dX7_summed_1 ?_
  refine mp (kf := 16) dX7_summed_2 flX7_142 (by decide) ?_
  refine q_aload_n dX7_summed_5 rfl rfl ?_
  refine z_iconst dX7_summed_6 ?_
  refine mp (kf := 17) dX7_summed_7 flX7_152 (by decide) ?_
  refine q_aload_n dX7_summed_10 rfl rfl ?_
  refine z_iconst dX7_summed_11 ?_
  refine mz18 dX7_summed_12 flX7_188 (by omega) ?_
  have hR0 : psR b n tx so (va_up (va_up (va_up F 16 0) 17 0) 18 0) w0 T Pf (k, [], 0, D) := ⟨hl, h12, h13, h14, rfl, rfl, trivial, hD, fun x hx => by cases hx⟩
  exact lm_summed hd σ A F T htx hn3 hb hb8 hso f 0 _ w0 T Pf _ hr hR0 rfl (Or.inl rfl) (kpM_up (kpM_up (kpM_up (kpM_rf F) (Or.inr (Or.inl rfl)) _) (Or.inr (Or.inr (Or.inl rfl))) _) (Or.inr (Or.inr (Or.inr rfl))) _) (kpX_rf tx T) _
