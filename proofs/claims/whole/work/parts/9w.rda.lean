/-! ===== the class's reader: readDeed ===== -/
/-- what a deed's clause comes to: the state, its numbers -/
def ddR (a : Int) (tk nu st : Nat → Int) (B B' : rB) (f s : Int) : Prop := (a = 2 ∨ a = 5 → B' = (exB 35 tk st (nuB 0 7 tk nu st (adB B))) ∧ f = nu (B.2.2.1 + 1) ∧ s = 0) ∧ (a = 7 → B' = (exB 35 tk st (nuB 1 60 tk nu st (adB B))) ∧ f = nu (B.2.2.1 + 1) ∧ s = 0) ∧ (a = 3 → B' = (exB 35 tk st (nuB 0 7 tk nu st (exB 8 tk st (nuB 0 40 tk nu st (adB B))))) ∧ f = nu (B.2.2.1 + 1) ∧ s = nu (exB 8 tk st (nuB 0 40 tk nu st (adB B))).2.2.1) ∧ (a = 4 → B' = (exB 35 tk st (nuB 0 7 tk nu st (exB 8 tk st (nuB 1 20 tk nu st (adB B))))) ∧ f = nu (B.2.2.1 + 1) ∧ s = nu (exB 8 tk st (nuB 1 20 tk nu st (adB B))).2.2.1) ∧ (a = 6 → B' = (exB 35 tk st (adB B)) ∧ f = 0 ∧ s = 0)
set_option maxHeartbeats 4000000 in
set_option maxRecDepth 100000 in
theorem x_readDeed {d N : Nat} (hd : 2 ≤ d) {σ1 : gS} {x n : Nat} {tk st nu : Nat → Int} {so : Int} (K : rdK σ1 x n tk st nu) {B : rB} (rd : rdR σ1 x tk so σ1 B) (ok : okB n B) (ht : tk B.2.2.1 ≠ 39) (h9 : σ1.1 x 9 = (N : Int)) (hN : N < 24) {a : Int} (ha : 2 ≤ a ∧ a ≤ 7) : sC mX1_readDeed d [.ref 333, .int (iZ a)] σ1 (fun r σ' => r = none ∧ ∃ B' f s, rdK σ' x n tk st nu ∧ rdR σ' x tk so σ' B' ∧ ddR a tk nu st B B' f s ∧ clQ σ1 σ' x N a f s (fun j => σ1.1 x j)) := by
  refine sC_of rfl (Nat.le_of_ble_eq_true rfl) ?_
  show sE g_tt _ _ _ 0 [some (.ref 333), some (.int (iZ a)), none, none] [] σ1
  refine z_iconst dX1_readDeed_0 ?_
  refine q_istore_n dX1_readDeed_1 rfl (by decide) ?_
  show sE g_tt _ _ _ 2 [some (.ref 333), some (.int (iZ a)), some (.int (iZ 0)), none] [] σ1
  refine z_iconst dX1_readDeed_2 ?_
  refine q_istore_n dX1_readDeed_3 rfl (by decide) ?_
  show sE g_tt _ _ _ 4 [some (.ref 333), some (.int (iZ a)), some (.int (iZ 0)), some (.int (iZ 0))] [] σ1
  refine q_aload_n dX1_readDeed_4 rfl rfl ?_
  refine s_callV (ci := 1) (a := 333) (As := []) (S := []) dX1_readDeed_5 okX1_advance mlX1_56 rfl (by omega) rfl (Nat.le_of_ble_eq_true rfl) (show kd 333 = 1 from rfl) (by decide) rfl (x_advance (d := d - 1) K rd (k_lt K ok.2.1 ht)) (fun v_ σ_ hq => ?_)
  obtain ⟨rfl, rd2⟩ := hq
  rename gS => σ2
  show sE g_tt _ _ _ 8 [some (.ref 333), some (.int (iZ a)), some (.int (iZ 0)), some (.int (iZ 0))] [] σ2
  refine q_iload_n dX1_readDeed_8 rfl rfl ?_
  refine z_iconst dX1_readDeed_9 ?_
  refine z_icmp_eq (tgt := 18) dX1_readDeed_10 (by decide) (by unfold inR at *; omega) (by unfold inR at *; omega) (fun c_1 => ?_) (fun c_1 => ?_)
  · refine q_aload_n dX1_readDeed_18 rfl rfl ?_
    refine z_iconst dX1_readDeed_19 ?_
    refine z_bipush dX1_readDeed_20 (by decide +kernel) ?_
    refine s_callV (ci := 1) (a := 333) (As := [.int (iZ 0), .int (iZ 7)]) (S := []) dX1_readDeed_22 okX1_numberIn mlX1_100 rfl (by omega) rfl (Nat.le_of_ble_eq_true rfl) (show kd 333 = 1 from rfl) (by decide) rfl (x_numberIn (d := d - 1) (by omega) (a := 0) (b := 7) K rd2 (okB_ad ok (k_lt K ok.2.1 ht)) (by unfold inR; omega) (by unfold inR; omega)) (fun v_ σ_ hq => ?_)
    obtain ⟨rfl, rd3⟩ := hq
    rename gS => σ3
    show sE g_tt _ _ _ 25 [some (.ref 333), some (.int (iZ a)), some (.int (iZ 0)), some (.int (iZ 0))] [.int (iZ (nu (B.2.2.1 + 1)))] σ3
    refine q_istore_n dX1_readDeed_25 rfl (by decide) ?_
    show sE g_tt _ _ _ 26 [some (.ref 333), some (.int (iZ a)), some (.int (iZ (nu (B.2.2.1 + 1)))), some (.int (iZ 0))] [] σ3
    refine q_goto (tgt := 93) dX1_readDeed_26 (by decide) ?_
    refine q_aload_n dX1_readDeed_93 rfl rfl ?_
    refine z_bipush dX1_readDeed_94 (by decide +kernel) ?_
    refine s_callV (ci := 1) (a := 333) (As := [.int (iZ 35)]) (S := []) dX1_readDeed_96 okX1_expect mlX1_93 rfl (by omega) rfl (Nat.le_of_ble_eq_true rfl) (show kd 333 = 1 from rfl) (by decide) rfl (x_expect (d := d - 1) (by omega) (t := 35) K rd3 (nuO K.2.2.2.1 (okB_ad ok (k_lt K ok.2.1 ht))) (by omega)) (fun v_ σ_ hq => ?_)
    obtain ⟨rfl, rd4⟩ := hq
    rename gS => σ4
    show sE g_tt _ _ _ 99 [some (.ref 333), some (.int (iZ a)), some (.int (iZ (nu (B.2.2.1 + 1)))), some (.int (iZ 0))] [] σ4
    refine q_aload_n dX1_readDeed_99 rfl rfl ?_
    refine sg1 (kf := 3) (v := .ref x) dX1_readDeed_100 flX1_32 (show kd 333 = 1 from rfl) (by decide) (by show some (va_rf ((σ4).2.2.2.2 333 3)) = _; rw [show (σ4).2.2.2.2 333 3 = some x from rd4.2.2.1]; rfl) ?_
    refine q_iload_n dX1_readDeed_103 rfl rfl ?_
    refine q_iload_n dX1_readDeed_104 rfl rfl ?_
    refine q_iload_n dX1_readDeed_105 rfl rfl ?_
    refine s_callV (ci := 4) (a := x) (As := [.int (iZ a), .int (iZ (nu (B.2.2.1 + 1))), .int (iZ 0)]) (S := []) dX1_readDeed_106 okX4_addClause mlX1_96 rfl (by omega) rfl (Nat.le_of_ble_eq_true rfl) K.1 (by decide) rfl (x_addClause (d := d - 1) (N := N) K.1 σ4 (a := a) (b := nu (B.2.2.1 + 1)) (c := 0) ((rd4.2.2.2.2.2.2.2.2.2.2.2 9 (by decide) (by decide)).trans h9) (by omega)) (fun v_ σ_ hq => ?_)
    obtain ⟨rfl, e9⟩ := hq
    rw [if_pos hN] at e9
    subst e9
    show sE g_tt _ _ _ 109 [some (.ref 333), some (.int (iZ a)), some (.int (iZ (nu (B.2.2.1 + 1)))), some (.int (iZ 0))] [] (acS σ4 x N a (nu (B.2.2.1 + 1)) 0)
    exact s_vret dX1_readDeed_109 rfl ⟨rfl, (exB 35 tk st (nuB 0 7 tk nu st (adB B))), (nu (B.2.2.1 + 1)), 0, (rd_ac (rd_self K rd4).1 (rd_self K rd4).2 N a (nu (B.2.2.1 + 1)) 0).1, (rd_ac (rd_self K rd4).1 (rd_self K rd4).2 N a (nu (B.2.2.1 + 1)) 0).2, ⟨fun z => by first | omega | exact ⟨rfl, rfl, rfl⟩, fun z => by first | omega | exact ⟨rfl, rfl, rfl⟩, fun z => by first | omega | exact ⟨rfl, rfl, rfl⟩, fun z => by first | omega | exact ⟨rfl, rfl, rfl⟩, fun z => by first | omega | exact ⟨rfl, rfl, rfl⟩⟩, cl_ac (chg_rdP rd4.1) (row_o (by have := xne K; omega) rd4.1) (fun j h1 h10 => rd4.2.2.2.2.2.2.2.2.2.2.2 j h1 h10)⟩
  · refine q_iload_n dX1_readDeed_13 rfl rfl ?_
    refine z_iconst dX1_readDeed_14 ?_
    refine z_icmp_ne (tgt := 29) dX1_readDeed_15 (by decide) (by unfold inR at *; omega) (by unfold inR at *; omega) (fun c_2 => ?_) (fun c_2 => ?_)
    · refine q_iload_n dX1_readDeed_29 rfl rfl ?_
      refine z_bipush dX1_readDeed_30 (by decide +kernel) ?_
      refine z_icmp_ne (tgt := 46) dX1_readDeed_32 (by decide) (by unfold inR at *; omega) (by unfold inR at *; omega) (fun c_3 => ?_) (fun c_3 => ?_)
      · refine q_iload_n dX1_readDeed_46 rfl rfl ?_
        refine z_iconst dX1_readDeed_47 ?_
        refine z_icmp_eq (tgt := 56) dX1_readDeed_48 (by decide) (by unfold inR at *; omega) (by unfold inR at *; omega) (fun c_4 => ?_) (fun c_4 => ?_)
        · refine q_iload_n dX1_readDeed_56 rfl rfl ?_
          refine z_iconst dX1_readDeed_57 ?_
          refine z_icmp_ne (tgt := 71) dX1_readDeed_58 (by decide) (by unfold inR at *; omega) (by unfold inR at *; omega) (fun c_5 => ?_) (fun c_5 => ?_)
          · refine q_aload_n dX1_readDeed_71 rfl rfl ?_
            refine z_iconst dX1_readDeed_72 ?_
            refine z_bipush dX1_readDeed_73 (by decide +kernel) ?_
            refine s_callV (ci := 1) (a := 333) (As := [.int (iZ 1), .int (iZ 20)]) (S := []) dX1_readDeed_75 okX1_numberIn mlX1_100 rfl (by omega) rfl (Nat.le_of_ble_eq_true rfl) (show kd 333 = 1 from rfl) (by decide) rfl (x_numberIn (d := d - 1) (by omega) (a := 1) (b := 20) K rd2 (okB_ad ok (k_lt K ok.2.1 ht)) (by unfold inR; omega) (by unfold inR; omega)) (fun v_ σ_ hq => ?_)
            obtain ⟨rfl, rd3⟩ := hq
            rename gS => σ3
            show sE g_tt _ _ _ 78 [some (.ref 333), some (.int (iZ a)), some (.int (iZ 0)), some (.int (iZ 0))] [.int (iZ (nu (B.2.2.1 + 1)))] σ3
            refine q_istore_n dX1_readDeed_78 rfl (by decide) ?_
            show sE g_tt _ _ _ 79 [some (.ref 333), some (.int (iZ a)), some (.int (iZ (nu (B.2.2.1 + 1)))), some (.int (iZ 0))] [] σ3
            refine q_aload_n dX1_readDeed_79 rfl rfl ?_
            refine z_bipush dX1_readDeed_80 (by decide +kernel) ?_
            refine s_callV (ci := 1) (a := 333) (As := [.int (iZ 8)]) (S := []) dX1_readDeed_82 okX1_expect mlX1_93 rfl (by omega) rfl (Nat.le_of_ble_eq_true rfl) (show kd 333 = 1 from rfl) (by decide) rfl (x_expect (d := d - 1) (by omega) (t := 8) K rd3 (nuO K.2.2.2.1 (okB_ad ok (k_lt K ok.2.1 ht))) (by omega)) (fun v_ σ_ hq => ?_)
            obtain ⟨rfl, rd4⟩ := hq
            rename gS => σ4
            show sE g_tt _ _ _ 85 [some (.ref 333), some (.int (iZ a)), some (.int (iZ (nu (B.2.2.1 + 1)))), some (.int (iZ 0))] [] σ4
            refine q_aload_n dX1_readDeed_85 rfl rfl ?_
            refine z_iconst dX1_readDeed_86 ?_
            refine z_bipush dX1_readDeed_87 (by decide +kernel) ?_
            refine s_callV (ci := 1) (a := 333) (As := [.int (iZ 0), .int (iZ 7)]) (S := []) dX1_readDeed_89 okX1_numberIn mlX1_100 rfl (by omega) rfl (Nat.le_of_ble_eq_true rfl) (show kd 333 = 1 from rfl) (by decide) rfl (x_numberIn (d := d - 1) (by omega) (a := 0) (b := 7) K rd4 (okB_ex (by decide) K.2.2.2.1 (nuO K.2.2.2.1 (okB_ad ok (k_lt K ok.2.1 ht)))) (by unfold inR; omega) (by unfold inR; omega)) (fun v_ σ_ hq => ?_)
            obtain ⟨rfl, rd5⟩ := hq
            rename gS => σ5
            show sE g_tt _ _ _ 92 [some (.ref 333), some (.int (iZ a)), some (.int (iZ (nu (B.2.2.1 + 1)))), some (.int (iZ 0))] [.int (iZ (nu (exB 8 tk st (nuB 1 20 tk nu st (adB B))).2.2.1))] σ5
            refine q_istore_n dX1_readDeed_92 rfl (by decide) ?_
            show sE g_tt _ _ _ 93 [some (.ref 333), some (.int (iZ a)), some (.int (iZ (nu (B.2.2.1 + 1)))), some (.int (iZ (nu (exB 8 tk st (nuB 1 20 tk nu st (adB B))).2.2.1)))] [] σ5
            refine q_aload_n dX1_readDeed_93 rfl rfl ?_
            refine z_bipush dX1_readDeed_94 (by decide +kernel) ?_
            refine s_callV (ci := 1) (a := 333) (As := [.int (iZ 35)]) (S := []) dX1_readDeed_96 okX1_expect mlX1_93 rfl (by omega) rfl (Nat.le_of_ble_eq_true rfl) (show kd 333 = 1 from rfl) (by decide) rfl (x_expect (d := d - 1) (by omega) (t := 35) K rd5 (nuO K.2.2.2.1 (okB_ex (by decide) K.2.2.2.1 (nuO K.2.2.2.1 (okB_ad ok (k_lt K ok.2.1 ht))))) (by omega)) (fun v_ σ_ hq => ?_)
            obtain ⟨rfl, rd6⟩ := hq
            rename gS => σ6
            show sE g_tt _ _ _ 99 [some (.ref 333), some (.int (iZ a)), some (.int (iZ (nu (B.2.2.1 + 1)))), some (.int (iZ (nu (exB 8 tk st (nuB 1 20 tk nu st (adB B))).2.2.1)))] [] σ6
            refine q_aload_n dX1_readDeed_99 rfl rfl ?_
            refine sg1 (kf := 3) (v := .ref x) dX1_readDeed_100 flX1_32 (show kd 333 = 1 from rfl) (by decide) (by show some (va_rf ((σ6).2.2.2.2 333 3)) = _; rw [show (σ6).2.2.2.2 333 3 = some x from rd6.2.2.1]; rfl) ?_
            refine q_iload_n dX1_readDeed_103 rfl rfl ?_
            refine q_iload_n dX1_readDeed_104 rfl rfl ?_
            refine q_iload_n dX1_readDeed_105 rfl rfl ?_
            refine s_callV (ci := 4) (a := x) (As := [.int (iZ a), .int (iZ (nu (B.2.2.1 + 1))), .int (iZ (nu (exB 8 tk st (nuB 1 20 tk nu st (adB B))).2.2.1))]) (S := []) dX1_readDeed_106 okX4_addClause mlX1_96 rfl (by omega) rfl (Nat.le_of_ble_eq_true rfl) K.1 (by decide) rfl (x_addClause (d := d - 1) (N := N) K.1 σ6 (a := a) (b := nu (B.2.2.1 + 1)) (c := nu (exB 8 tk st (nuB 1 20 tk nu st (adB B))).2.2.1) ((rd6.2.2.2.2.2.2.2.2.2.2.2 9 (by decide) (by decide)).trans h9) (by omega)) (fun v_ σ_ hq => ?_)
            obtain ⟨rfl, e9⟩ := hq
            rw [if_pos hN] at e9
            subst e9
            show sE g_tt _ _ _ 109 [some (.ref 333), some (.int (iZ a)), some (.int (iZ (nu (B.2.2.1 + 1)))), some (.int (iZ (nu (exB 8 tk st (nuB 1 20 tk nu st (adB B))).2.2.1)))] [] (acS σ6 x N a (nu (B.2.2.1 + 1)) (nu (exB 8 tk st (nuB 1 20 tk nu st (adB B))).2.2.1))
            exact s_vret dX1_readDeed_109 rfl ⟨rfl, (exB 35 tk st (nuB 0 7 tk nu st (exB 8 tk st (nuB 1 20 tk nu st (adB B))))), (nu (B.2.2.1 + 1)), (nu (exB 8 tk st (nuB 1 20 tk nu st (adB B))).2.2.1), (rd_ac (rd_self K rd6).1 (rd_self K rd6).2 N a (nu (B.2.2.1 + 1)) (nu (exB 8 tk st (nuB 1 20 tk nu st (adB B))).2.2.1)).1, (rd_ac (rd_self K rd6).1 (rd_self K rd6).2 N a (nu (B.2.2.1 + 1)) (nu (exB 8 tk st (nuB 1 20 tk nu st (adB B))).2.2.1)).2, ⟨fun z => by first | omega | exact ⟨rfl, rfl, rfl⟩, fun z => by first | omega | exact ⟨rfl, rfl, rfl⟩, fun z => by first | omega | exact ⟨rfl, rfl, rfl⟩, fun z => by first | omega | exact ⟨rfl, rfl, rfl⟩, fun z => by first | omega | exact ⟨rfl, rfl, rfl⟩⟩, cl_ac (chg_rdP rd6.1) (row_o (by have := xne K; omega) rd6.1) (fun j h1 h10 => rd6.2.2.2.2.2.2.2.2.2.2.2 j h1 h10)⟩
          · refine q_aload_n dX1_readDeed_61 rfl rfl ?_
            refine z_iconst dX1_readDeed_62 ?_
            refine z_bipush dX1_readDeed_63 (by decide +kernel) ?_
            refine s_callV (ci := 1) (a := 333) (As := [.int (iZ 0), .int (iZ 40)]) (S := []) dX1_readDeed_65 okX1_numberIn mlX1_100 rfl (by omega) rfl (Nat.le_of_ble_eq_true rfl) (show kd 333 = 1 from rfl) (by decide) rfl (x_numberIn (d := d - 1) (by omega) (a := 0) (b := 40) K rd2 (okB_ad ok (k_lt K ok.2.1 ht)) (by unfold inR; omega) (by unfold inR; omega)) (fun v_ σ_ hq => ?_)
            obtain ⟨rfl, rd3⟩ := hq
            rename gS => σ3
            show sE g_tt _ _ _ 68 [some (.ref 333), some (.int (iZ a)), some (.int (iZ 0)), some (.int (iZ 0))] [.int (iZ (nu (B.2.2.1 + 1)))] σ3
            refine q_goto (tgt := 78) dX1_readDeed_68 (by decide) ?_
            refine q_istore_n dX1_readDeed_78 rfl (by decide) ?_
            show sE g_tt _ _ _ 79 [some (.ref 333), some (.int (iZ a)), some (.int (iZ (nu (B.2.2.1 + 1)))), some (.int (iZ 0))] [] σ3
            refine q_aload_n dX1_readDeed_79 rfl rfl ?_
            refine z_bipush dX1_readDeed_80 (by decide +kernel) ?_
            refine s_callV (ci := 1) (a := 333) (As := [.int (iZ 8)]) (S := []) dX1_readDeed_82 okX1_expect mlX1_93 rfl (by omega) rfl (Nat.le_of_ble_eq_true rfl) (show kd 333 = 1 from rfl) (by decide) rfl (x_expect (d := d - 1) (by omega) (t := 8) K rd3 (nuO K.2.2.2.1 (okB_ad ok (k_lt K ok.2.1 ht))) (by omega)) (fun v_ σ_ hq => ?_)
            obtain ⟨rfl, rd4⟩ := hq
            rename gS => σ4
            show sE g_tt _ _ _ 85 [some (.ref 333), some (.int (iZ a)), some (.int (iZ (nu (B.2.2.1 + 1)))), some (.int (iZ 0))] [] σ4
            refine q_aload_n dX1_readDeed_85 rfl rfl ?_
            refine z_iconst dX1_readDeed_86 ?_
            refine z_bipush dX1_readDeed_87 (by decide +kernel) ?_
            refine s_callV (ci := 1) (a := 333) (As := [.int (iZ 0), .int (iZ 7)]) (S := []) dX1_readDeed_89 okX1_numberIn mlX1_100 rfl (by omega) rfl (Nat.le_of_ble_eq_true rfl) (show kd 333 = 1 from rfl) (by decide) rfl (x_numberIn (d := d - 1) (by omega) (a := 0) (b := 7) K rd4 (okB_ex (by decide) K.2.2.2.1 (nuO K.2.2.2.1 (okB_ad ok (k_lt K ok.2.1 ht)))) (by unfold inR; omega) (by unfold inR; omega)) (fun v_ σ_ hq => ?_)
            obtain ⟨rfl, rd5⟩ := hq
            rename gS => σ5
            show sE g_tt _ _ _ 92 [some (.ref 333), some (.int (iZ a)), some (.int (iZ (nu (B.2.2.1 + 1)))), some (.int (iZ 0))] [.int (iZ (nu (exB 8 tk st (nuB 0 40 tk nu st (adB B))).2.2.1))] σ5
            refine q_istore_n dX1_readDeed_92 rfl (by decide) ?_
            show sE g_tt _ _ _ 93 [some (.ref 333), some (.int (iZ a)), some (.int (iZ (nu (B.2.2.1 + 1)))), some (.int (iZ (nu (exB 8 tk st (nuB 0 40 tk nu st (adB B))).2.2.1)))] [] σ5
            refine q_aload_n dX1_readDeed_93 rfl rfl ?_
            refine z_bipush dX1_readDeed_94 (by decide +kernel) ?_
            refine s_callV (ci := 1) (a := 333) (As := [.int (iZ 35)]) (S := []) dX1_readDeed_96 okX1_expect mlX1_93 rfl (by omega) rfl (Nat.le_of_ble_eq_true rfl) (show kd 333 = 1 from rfl) (by decide) rfl (x_expect (d := d - 1) (by omega) (t := 35) K rd5 (nuO K.2.2.2.1 (okB_ex (by decide) K.2.2.2.1 (nuO K.2.2.2.1 (okB_ad ok (k_lt K ok.2.1 ht))))) (by omega)) (fun v_ σ_ hq => ?_)
            obtain ⟨rfl, rd6⟩ := hq
            rename gS => σ6
            show sE g_tt _ _ _ 99 [some (.ref 333), some (.int (iZ a)), some (.int (iZ (nu (B.2.2.1 + 1)))), some (.int (iZ (nu (exB 8 tk st (nuB 0 40 tk nu st (adB B))).2.2.1)))] [] σ6
            refine q_aload_n dX1_readDeed_99 rfl rfl ?_
            refine sg1 (kf := 3) (v := .ref x) dX1_readDeed_100 flX1_32 (show kd 333 = 1 from rfl) (by decide) (by show some (va_rf ((σ6).2.2.2.2 333 3)) = _; rw [show (σ6).2.2.2.2 333 3 = some x from rd6.2.2.1]; rfl) ?_
            refine q_iload_n dX1_readDeed_103 rfl rfl ?_
            refine q_iload_n dX1_readDeed_104 rfl rfl ?_
            refine q_iload_n dX1_readDeed_105 rfl rfl ?_
            refine s_callV (ci := 4) (a := x) (As := [.int (iZ a), .int (iZ (nu (B.2.2.1 + 1))), .int (iZ (nu (exB 8 tk st (nuB 0 40 tk nu st (adB B))).2.2.1))]) (S := []) dX1_readDeed_106 okX4_addClause mlX1_96 rfl (by omega) rfl (Nat.le_of_ble_eq_true rfl) K.1 (by decide) rfl (x_addClause (d := d - 1) (N := N) K.1 σ6 (a := a) (b := nu (B.2.2.1 + 1)) (c := nu (exB 8 tk st (nuB 0 40 tk nu st (adB B))).2.2.1) ((rd6.2.2.2.2.2.2.2.2.2.2.2 9 (by decide) (by decide)).trans h9) (by omega)) (fun v_ σ_ hq => ?_)
            obtain ⟨rfl, e9⟩ := hq
            rw [if_pos hN] at e9
            subst e9
            show sE g_tt _ _ _ 109 [some (.ref 333), some (.int (iZ a)), some (.int (iZ (nu (B.2.2.1 + 1)))), some (.int (iZ (nu (exB 8 tk st (nuB 0 40 tk nu st (adB B))).2.2.1)))] [] (acS σ6 x N a (nu (B.2.2.1 + 1)) (nu (exB 8 tk st (nuB 0 40 tk nu st (adB B))).2.2.1))
            exact s_vret dX1_readDeed_109 rfl ⟨rfl, (exB 35 tk st (nuB 0 7 tk nu st (exB 8 tk st (nuB 0 40 tk nu st (adB B))))), (nu (B.2.2.1 + 1)), (nu (exB 8 tk st (nuB 0 40 tk nu st (adB B))).2.2.1), (rd_ac (rd_self K rd6).1 (rd_self K rd6).2 N a (nu (B.2.2.1 + 1)) (nu (exB 8 tk st (nuB 0 40 tk nu st (adB B))).2.2.1)).1, (rd_ac (rd_self K rd6).1 (rd_self K rd6).2 N a (nu (B.2.2.1 + 1)) (nu (exB 8 tk st (nuB 0 40 tk nu st (adB B))).2.2.1)).2, ⟨fun z => by first | omega | exact ⟨rfl, rfl, rfl⟩, fun z => by first | omega | exact ⟨rfl, rfl, rfl⟩, fun z => by first | omega | exact ⟨rfl, rfl, rfl⟩, fun z => by first | omega | exact ⟨rfl, rfl, rfl⟩, fun z => by first | omega | exact ⟨rfl, rfl, rfl⟩⟩, cl_ac (chg_rdP rd6.1) (row_o (by have := xne K; omega) rd6.1) (fun j h1 h10 => rd6.2.2.2.2.2.2.2.2.2.2.2 j h1 h10)⟩
        · refine q_iload_n dX1_readDeed_51 rfl rfl ?_
          refine z_iconst dX1_readDeed_52 ?_
          refine z_icmp_ne (tgt := 93) dX1_readDeed_53 (by decide) (by unfold inR at *; omega) (by unfold inR at *; omega) (fun c_6 => ?_) (fun c_6 => ?_)
          · refine q_aload_n dX1_readDeed_93 rfl rfl ?_
            refine z_bipush dX1_readDeed_94 (by decide +kernel) ?_
            refine s_callV (ci := 1) (a := 333) (As := [.int (iZ 35)]) (S := []) dX1_readDeed_96 okX1_expect mlX1_93 rfl (by omega) rfl (Nat.le_of_ble_eq_true rfl) (show kd 333 = 1 from rfl) (by decide) rfl (x_expect (d := d - 1) (by omega) (t := 35) K rd2 (okB_ad ok (k_lt K ok.2.1 ht)) (by omega)) (fun v_ σ_ hq => ?_)
            obtain ⟨rfl, rd3⟩ := hq
            rename gS => σ3
            show sE g_tt _ _ _ 99 [some (.ref 333), some (.int (iZ a)), some (.int (iZ 0)), some (.int (iZ 0))] [] σ3
            refine q_aload_n dX1_readDeed_99 rfl rfl ?_
            refine sg1 (kf := 3) (v := .ref x) dX1_readDeed_100 flX1_32 (show kd 333 = 1 from rfl) (by decide) (by show some (va_rf ((σ3).2.2.2.2 333 3)) = _; rw [show (σ3).2.2.2.2 333 3 = some x from rd3.2.2.1]; rfl) ?_
            refine q_iload_n dX1_readDeed_103 rfl rfl ?_
            refine q_iload_n dX1_readDeed_104 rfl rfl ?_
            refine q_iload_n dX1_readDeed_105 rfl rfl ?_
            refine s_callV (ci := 4) (a := x) (As := [.int (iZ a), .int (iZ 0), .int (iZ 0)]) (S := []) dX1_readDeed_106 okX4_addClause mlX1_96 rfl (by omega) rfl (Nat.le_of_ble_eq_true rfl) K.1 (by decide) rfl (x_addClause (d := d - 1) (N := N) K.1 σ3 (a := a) (b := 0) (c := 0) ((rd3.2.2.2.2.2.2.2.2.2.2.2 9 (by decide) (by decide)).trans h9) (by omega)) (fun v_ σ_ hq => ?_)
            obtain ⟨rfl, e9⟩ := hq
            rw [if_pos hN] at e9
            subst e9
            show sE g_tt _ _ _ 109 [some (.ref 333), some (.int (iZ a)), some (.int (iZ 0)), some (.int (iZ 0))] [] (acS σ3 x N a 0 0)
            exact s_vret dX1_readDeed_109 rfl ⟨rfl, (exB 35 tk st (adB B)), 0, 0, (rd_ac (rd_self K rd3).1 (rd_self K rd3).2 N a 0 0).1, (rd_ac (rd_self K rd3).1 (rd_self K rd3).2 N a 0 0).2, ⟨fun z => by first | omega | exact ⟨rfl, rfl, rfl⟩, fun z => by first | omega | exact ⟨rfl, rfl, rfl⟩, fun z => by first | omega | exact ⟨rfl, rfl, rfl⟩, fun z => by first | omega | exact ⟨rfl, rfl, rfl⟩, fun z => by first | omega | exact ⟨rfl, rfl, rfl⟩⟩, cl_ac (chg_rdP rd3.1) (row_o (by have := xne K; omega) rd3.1) (fun j h1 h10 => rd3.2.2.2.2.2.2.2.2.2.2.2 j h1 h10)⟩
          · refine q_iload_n dX1_readDeed_56 rfl rfl ?_
            refine z_iconst dX1_readDeed_57 ?_
            refine z_icmp_ne (tgt := 71) dX1_readDeed_58 (by decide) (by unfold inR at *; omega) (by unfold inR at *; omega) (fun c_7 => ?_) (fun c_7 => ?_)
            · refine q_aload_n dX1_readDeed_71 rfl rfl ?_
              refine z_iconst dX1_readDeed_72 ?_
              refine z_bipush dX1_readDeed_73 (by decide +kernel) ?_
              refine s_callV (ci := 1) (a := 333) (As := [.int (iZ 1), .int (iZ 20)]) (S := []) dX1_readDeed_75 okX1_numberIn mlX1_100 rfl (by omega) rfl (Nat.le_of_ble_eq_true rfl) (show kd 333 = 1 from rfl) (by decide) rfl (x_numberIn (d := d - 1) (by omega) (a := 1) (b := 20) K rd2 (okB_ad ok (k_lt K ok.2.1 ht)) (by unfold inR; omega) (by unfold inR; omega)) (fun v_ σ_ hq => ?_)
              obtain ⟨rfl, rd3⟩ := hq
              rename gS => σ3
              show sE g_tt _ _ _ 78 [some (.ref 333), some (.int (iZ a)), some (.int (iZ 0)), some (.int (iZ 0))] [.int (iZ (nu (B.2.2.1 + 1)))] σ3
              refine q_istore_n dX1_readDeed_78 rfl (by decide) ?_
              show sE g_tt _ _ _ 79 [some (.ref 333), some (.int (iZ a)), some (.int (iZ (nu (B.2.2.1 + 1)))), some (.int (iZ 0))] [] σ3
              refine q_aload_n dX1_readDeed_79 rfl rfl ?_
              refine z_bipush dX1_readDeed_80 (by decide +kernel) ?_
              refine s_callV (ci := 1) (a := 333) (As := [.int (iZ 8)]) (S := []) dX1_readDeed_82 okX1_expect mlX1_93 rfl (by omega) rfl (Nat.le_of_ble_eq_true rfl) (show kd 333 = 1 from rfl) (by decide) rfl (x_expect (d := d - 1) (by omega) (t := 8) K rd3 (nuO K.2.2.2.1 (okB_ad ok (k_lt K ok.2.1 ht))) (by omega)) (fun v_ σ_ hq => ?_)
              obtain ⟨rfl, rd4⟩ := hq
              rename gS => σ4
              show sE g_tt _ _ _ 85 [some (.ref 333), some (.int (iZ a)), some (.int (iZ (nu (B.2.2.1 + 1)))), some (.int (iZ 0))] [] σ4
              refine q_aload_n dX1_readDeed_85 rfl rfl ?_
              refine z_iconst dX1_readDeed_86 ?_
              refine z_bipush dX1_readDeed_87 (by decide +kernel) ?_
              refine s_callV (ci := 1) (a := 333) (As := [.int (iZ 0), .int (iZ 7)]) (S := []) dX1_readDeed_89 okX1_numberIn mlX1_100 rfl (by omega) rfl (Nat.le_of_ble_eq_true rfl) (show kd 333 = 1 from rfl) (by decide) rfl (x_numberIn (d := d - 1) (by omega) (a := 0) (b := 7) K rd4 (okB_ex (by decide) K.2.2.2.1 (nuO K.2.2.2.1 (okB_ad ok (k_lt K ok.2.1 ht)))) (by unfold inR; omega) (by unfold inR; omega)) (fun v_ σ_ hq => ?_)
              obtain ⟨rfl, rd5⟩ := hq
              rename gS => σ5
              show sE g_tt _ _ _ 92 [some (.ref 333), some (.int (iZ a)), some (.int (iZ (nu (B.2.2.1 + 1)))), some (.int (iZ 0))] [.int (iZ (nu (exB 8 tk st (nuB 1 20 tk nu st (adB B))).2.2.1))] σ5
              refine q_istore_n dX1_readDeed_92 rfl (by decide) ?_
              show sE g_tt _ _ _ 93 [some (.ref 333), some (.int (iZ a)), some (.int (iZ (nu (B.2.2.1 + 1)))), some (.int (iZ (nu (exB 8 tk st (nuB 1 20 tk nu st (adB B))).2.2.1)))] [] σ5
              refine q_aload_n dX1_readDeed_93 rfl rfl ?_
              refine z_bipush dX1_readDeed_94 (by decide +kernel) ?_
              refine s_callV (ci := 1) (a := 333) (As := [.int (iZ 35)]) (S := []) dX1_readDeed_96 okX1_expect mlX1_93 rfl (by omega) rfl (Nat.le_of_ble_eq_true rfl) (show kd 333 = 1 from rfl) (by decide) rfl (x_expect (d := d - 1) (by omega) (t := 35) K rd5 (nuO K.2.2.2.1 (okB_ex (by decide) K.2.2.2.1 (nuO K.2.2.2.1 (okB_ad ok (k_lt K ok.2.1 ht))))) (by omega)) (fun v_ σ_ hq => ?_)
              obtain ⟨rfl, rd6⟩ := hq
              rename gS => σ6
              show sE g_tt _ _ _ 99 [some (.ref 333), some (.int (iZ a)), some (.int (iZ (nu (B.2.2.1 + 1)))), some (.int (iZ (nu (exB 8 tk st (nuB 1 20 tk nu st (adB B))).2.2.1)))] [] σ6
              refine q_aload_n dX1_readDeed_99 rfl rfl ?_
              refine sg1 (kf := 3) (v := .ref x) dX1_readDeed_100 flX1_32 (show kd 333 = 1 from rfl) (by decide) (by show some (va_rf ((σ6).2.2.2.2 333 3)) = _; rw [show (σ6).2.2.2.2 333 3 = some x from rd6.2.2.1]; rfl) ?_
              refine q_iload_n dX1_readDeed_103 rfl rfl ?_
              refine q_iload_n dX1_readDeed_104 rfl rfl ?_
              refine q_iload_n dX1_readDeed_105 rfl rfl ?_
              refine s_callV (ci := 4) (a := x) (As := [.int (iZ a), .int (iZ (nu (B.2.2.1 + 1))), .int (iZ (nu (exB 8 tk st (nuB 1 20 tk nu st (adB B))).2.2.1))]) (S := []) dX1_readDeed_106 okX4_addClause mlX1_96 rfl (by omega) rfl (Nat.le_of_ble_eq_true rfl) K.1 (by decide) rfl (x_addClause (d := d - 1) (N := N) K.1 σ6 (a := a) (b := nu (B.2.2.1 + 1)) (c := nu (exB 8 tk st (nuB 1 20 tk nu st (adB B))).2.2.1) ((rd6.2.2.2.2.2.2.2.2.2.2.2 9 (by decide) (by decide)).trans h9) (by omega)) (fun v_ σ_ hq => ?_)
              obtain ⟨rfl, e9⟩ := hq
              rw [if_pos hN] at e9
              subst e9
              show sE g_tt _ _ _ 109 [some (.ref 333), some (.int (iZ a)), some (.int (iZ (nu (B.2.2.1 + 1)))), some (.int (iZ (nu (exB 8 tk st (nuB 1 20 tk nu st (adB B))).2.2.1)))] [] (acS σ6 x N a (nu (B.2.2.1 + 1)) (nu (exB 8 tk st (nuB 1 20 tk nu st (adB B))).2.2.1))
              exact s_vret dX1_readDeed_109 rfl ⟨rfl, (exB 35 tk st (nuB 0 7 tk nu st (exB 8 tk st (nuB 1 20 tk nu st (adB B))))), (nu (B.2.2.1 + 1)), (nu (exB 8 tk st (nuB 1 20 tk nu st (adB B))).2.2.1), (rd_ac (rd_self K rd6).1 (rd_self K rd6).2 N a (nu (B.2.2.1 + 1)) (nu (exB 8 tk st (nuB 1 20 tk nu st (adB B))).2.2.1)).1, (rd_ac (rd_self K rd6).1 (rd_self K rd6).2 N a (nu (B.2.2.1 + 1)) (nu (exB 8 tk st (nuB 1 20 tk nu st (adB B))).2.2.1)).2, ⟨fun z => by first | omega | exact ⟨rfl, rfl, rfl⟩, fun z => by first | omega | exact ⟨rfl, rfl, rfl⟩, fun z => by first | omega | exact ⟨rfl, rfl, rfl⟩, fun z => by first | omega | exact ⟨rfl, rfl, rfl⟩, fun z => by first | omega | exact ⟨rfl, rfl, rfl⟩⟩, cl_ac (chg_rdP rd6.1) (row_o (by have := xne K; omega) rd6.1) (fun j h1 h10 => rd6.2.2.2.2.2.2.2.2.2.2.2 j h1 h10)⟩
            · refine q_aload_n dX1_readDeed_61 rfl rfl ?_
              refine z_iconst dX1_readDeed_62 ?_
              refine z_bipush dX1_readDeed_63 (by decide +kernel) ?_
              refine s_callV (ci := 1) (a := 333) (As := [.int (iZ 0), .int (iZ 40)]) (S := []) dX1_readDeed_65 okX1_numberIn mlX1_100 rfl (by omega) rfl (Nat.le_of_ble_eq_true rfl) (show kd 333 = 1 from rfl) (by decide) rfl (x_numberIn (d := d - 1) (by omega) (a := 0) (b := 40) K rd2 (okB_ad ok (k_lt K ok.2.1 ht)) (by unfold inR; omega) (by unfold inR; omega)) (fun v_ σ_ hq => ?_)
              obtain ⟨rfl, rd3⟩ := hq
              rename gS => σ3
              show sE g_tt _ _ _ 68 [some (.ref 333), some (.int (iZ a)), some (.int (iZ 0)), some (.int (iZ 0))] [.int (iZ (nu (B.2.2.1 + 1)))] σ3
              refine q_goto (tgt := 78) dX1_readDeed_68 (by decide) ?_
              refine q_istore_n dX1_readDeed_78 rfl (by decide) ?_
              show sE g_tt _ _ _ 79 [some (.ref 333), some (.int (iZ a)), some (.int (iZ (nu (B.2.2.1 + 1)))), some (.int (iZ 0))] [] σ3
              refine q_aload_n dX1_readDeed_79 rfl rfl ?_
              refine z_bipush dX1_readDeed_80 (by decide +kernel) ?_
              refine s_callV (ci := 1) (a := 333) (As := [.int (iZ 8)]) (S := []) dX1_readDeed_82 okX1_expect mlX1_93 rfl (by omega) rfl (Nat.le_of_ble_eq_true rfl) (show kd 333 = 1 from rfl) (by decide) rfl (x_expect (d := d - 1) (by omega) (t := 8) K rd3 (nuO K.2.2.2.1 (okB_ad ok (k_lt K ok.2.1 ht))) (by omega)) (fun v_ σ_ hq => ?_)
              obtain ⟨rfl, rd4⟩ := hq
              rename gS => σ4
              show sE g_tt _ _ _ 85 [some (.ref 333), some (.int (iZ a)), some (.int (iZ (nu (B.2.2.1 + 1)))), some (.int (iZ 0))] [] σ4
              refine q_aload_n dX1_readDeed_85 rfl rfl ?_
              refine z_iconst dX1_readDeed_86 ?_
              refine z_bipush dX1_readDeed_87 (by decide +kernel) ?_
              refine s_callV (ci := 1) (a := 333) (As := [.int (iZ 0), .int (iZ 7)]) (S := []) dX1_readDeed_89 okX1_numberIn mlX1_100 rfl (by omega) rfl (Nat.le_of_ble_eq_true rfl) (show kd 333 = 1 from rfl) (by decide) rfl (x_numberIn (d := d - 1) (by omega) (a := 0) (b := 7) K rd4 (okB_ex (by decide) K.2.2.2.1 (nuO K.2.2.2.1 (okB_ad ok (k_lt K ok.2.1 ht)))) (by unfold inR; omega) (by unfold inR; omega)) (fun v_ σ_ hq => ?_)
              obtain ⟨rfl, rd5⟩ := hq
              rename gS => σ5
              show sE g_tt _ _ _ 92 [some (.ref 333), some (.int (iZ a)), some (.int (iZ (nu (B.2.2.1 + 1)))), some (.int (iZ 0))] [.int (iZ (nu (exB 8 tk st (nuB 0 40 tk nu st (adB B))).2.2.1))] σ5
              refine q_istore_n dX1_readDeed_92 rfl (by decide) ?_
              show sE g_tt _ _ _ 93 [some (.ref 333), some (.int (iZ a)), some (.int (iZ (nu (B.2.2.1 + 1)))), some (.int (iZ (nu (exB 8 tk st (nuB 0 40 tk nu st (adB B))).2.2.1)))] [] σ5
              refine q_aload_n dX1_readDeed_93 rfl rfl ?_
              refine z_bipush dX1_readDeed_94 (by decide +kernel) ?_
              refine s_callV (ci := 1) (a := 333) (As := [.int (iZ 35)]) (S := []) dX1_readDeed_96 okX1_expect mlX1_93 rfl (by omega) rfl (Nat.le_of_ble_eq_true rfl) (show kd 333 = 1 from rfl) (by decide) rfl (x_expect (d := d - 1) (by omega) (t := 35) K rd5 (nuO K.2.2.2.1 (okB_ex (by decide) K.2.2.2.1 (nuO K.2.2.2.1 (okB_ad ok (k_lt K ok.2.1 ht))))) (by omega)) (fun v_ σ_ hq => ?_)
              obtain ⟨rfl, rd6⟩ := hq
              rename gS => σ6
              show sE g_tt _ _ _ 99 [some (.ref 333), some (.int (iZ a)), some (.int (iZ (nu (B.2.2.1 + 1)))), some (.int (iZ (nu (exB 8 tk st (nuB 0 40 tk nu st (adB B))).2.2.1)))] [] σ6
              refine q_aload_n dX1_readDeed_99 rfl rfl ?_
              refine sg1 (kf := 3) (v := .ref x) dX1_readDeed_100 flX1_32 (show kd 333 = 1 from rfl) (by decide) (by show some (va_rf ((σ6).2.2.2.2 333 3)) = _; rw [show (σ6).2.2.2.2 333 3 = some x from rd6.2.2.1]; rfl) ?_
              refine q_iload_n dX1_readDeed_103 rfl rfl ?_
              refine q_iload_n dX1_readDeed_104 rfl rfl ?_
              refine q_iload_n dX1_readDeed_105 rfl rfl ?_
              refine s_callV (ci := 4) (a := x) (As := [.int (iZ a), .int (iZ (nu (B.2.2.1 + 1))), .int (iZ (nu (exB 8 tk st (nuB 0 40 tk nu st (adB B))).2.2.1))]) (S := []) dX1_readDeed_106 okX4_addClause mlX1_96 rfl (by omega) rfl (Nat.le_of_ble_eq_true rfl) K.1 (by decide) rfl (x_addClause (d := d - 1) (N := N) K.1 σ6 (a := a) (b := nu (B.2.2.1 + 1)) (c := nu (exB 8 tk st (nuB 0 40 tk nu st (adB B))).2.2.1) ((rd6.2.2.2.2.2.2.2.2.2.2.2 9 (by decide) (by decide)).trans h9) (by omega)) (fun v_ σ_ hq => ?_)
              obtain ⟨rfl, e9⟩ := hq
              rw [if_pos hN] at e9
              subst e9
              show sE g_tt _ _ _ 109 [some (.ref 333), some (.int (iZ a)), some (.int (iZ (nu (B.2.2.1 + 1)))), some (.int (iZ (nu (exB 8 tk st (nuB 0 40 tk nu st (adB B))).2.2.1)))] [] (acS σ6 x N a (nu (B.2.2.1 + 1)) (nu (exB 8 tk st (nuB 0 40 tk nu st (adB B))).2.2.1))
              exact s_vret dX1_readDeed_109 rfl ⟨rfl, (exB 35 tk st (nuB 0 7 tk nu st (exB 8 tk st (nuB 0 40 tk nu st (adB B))))), (nu (B.2.2.1 + 1)), (nu (exB 8 tk st (nuB 0 40 tk nu st (adB B))).2.2.1), (rd_ac (rd_self K rd6).1 (rd_self K rd6).2 N a (nu (B.2.2.1 + 1)) (nu (exB 8 tk st (nuB 0 40 tk nu st (adB B))).2.2.1)).1, (rd_ac (rd_self K rd6).1 (rd_self K rd6).2 N a (nu (B.2.2.1 + 1)) (nu (exB 8 tk st (nuB 0 40 tk nu st (adB B))).2.2.1)).2, ⟨fun z => by first | omega | exact ⟨rfl, rfl, rfl⟩, fun z => by first | omega | exact ⟨rfl, rfl, rfl⟩, fun z => by first | omega | exact ⟨rfl, rfl, rfl⟩, fun z => by first | omega | exact ⟨rfl, rfl, rfl⟩, fun z => by first | omega | exact ⟨rfl, rfl, rfl⟩⟩, cl_ac (chg_rdP rd6.1) (row_o (by have := xne K; omega) rd6.1) (fun j h1 h10 => rd6.2.2.2.2.2.2.2.2.2.2.2 j h1 h10)⟩
      · refine q_aload_n dX1_readDeed_35 rfl rfl ?_
        refine z_iconst dX1_readDeed_36 ?_
        refine z_bipush dX1_readDeed_37 (by decide +kernel) ?_
        refine s_callV (ci := 1) (a := 333) (As := [.int (iZ 1), .int (iZ 60)]) (S := []) dX1_readDeed_39 okX1_numberIn mlX1_100 rfl (by omega) rfl (Nat.le_of_ble_eq_true rfl) (show kd 333 = 1 from rfl) (by decide) rfl (x_numberIn (d := d - 1) (by omega) (a := 1) (b := 60) K rd2 (okB_ad ok (k_lt K ok.2.1 ht)) (by unfold inR; omega) (by unfold inR; omega)) (fun v_ σ_ hq => ?_)
        obtain ⟨rfl, rd3⟩ := hq
        rename gS => σ3
        show sE g_tt _ _ _ 42 [some (.ref 333), some (.int (iZ a)), some (.int (iZ 0)), some (.int (iZ 0))] [.int (iZ (nu (B.2.2.1 + 1)))] σ3
        refine q_istore_n dX1_readDeed_42 rfl (by decide) ?_
        show sE g_tt _ _ _ 43 [some (.ref 333), some (.int (iZ a)), some (.int (iZ (nu (B.2.2.1 + 1)))), some (.int (iZ 0))] [] σ3
        refine q_goto (tgt := 93) dX1_readDeed_43 (by decide) ?_
        refine q_aload_n dX1_readDeed_93 rfl rfl ?_
        refine z_bipush dX1_readDeed_94 (by decide +kernel) ?_
        refine s_callV (ci := 1) (a := 333) (As := [.int (iZ 35)]) (S := []) dX1_readDeed_96 okX1_expect mlX1_93 rfl (by omega) rfl (Nat.le_of_ble_eq_true rfl) (show kd 333 = 1 from rfl) (by decide) rfl (x_expect (d := d - 1) (by omega) (t := 35) K rd3 (nuO K.2.2.2.1 (okB_ad ok (k_lt K ok.2.1 ht))) (by omega)) (fun v_ σ_ hq => ?_)
        obtain ⟨rfl, rd4⟩ := hq
        rename gS => σ4
        show sE g_tt _ _ _ 99 [some (.ref 333), some (.int (iZ a)), some (.int (iZ (nu (B.2.2.1 + 1)))), some (.int (iZ 0))] [] σ4
        refine q_aload_n dX1_readDeed_99 rfl rfl ?_
        refine sg1 (kf := 3) (v := .ref x) dX1_readDeed_100 flX1_32 (show kd 333 = 1 from rfl) (by decide) (by show some (va_rf ((σ4).2.2.2.2 333 3)) = _; rw [show (σ4).2.2.2.2 333 3 = some x from rd4.2.2.1]; rfl) ?_
        refine q_iload_n dX1_readDeed_103 rfl rfl ?_
        refine q_iload_n dX1_readDeed_104 rfl rfl ?_
        refine q_iload_n dX1_readDeed_105 rfl rfl ?_
        refine s_callV (ci := 4) (a := x) (As := [.int (iZ a), .int (iZ (nu (B.2.2.1 + 1))), .int (iZ 0)]) (S := []) dX1_readDeed_106 okX4_addClause mlX1_96 rfl (by omega) rfl (Nat.le_of_ble_eq_true rfl) K.1 (by decide) rfl (x_addClause (d := d - 1) (N := N) K.1 σ4 (a := a) (b := nu (B.2.2.1 + 1)) (c := 0) ((rd4.2.2.2.2.2.2.2.2.2.2.2 9 (by decide) (by decide)).trans h9) (by omega)) (fun v_ σ_ hq => ?_)
        obtain ⟨rfl, e9⟩ := hq
        rw [if_pos hN] at e9
        subst e9
        show sE g_tt _ _ _ 109 [some (.ref 333), some (.int (iZ a)), some (.int (iZ (nu (B.2.2.1 + 1)))), some (.int (iZ 0))] [] (acS σ4 x N a (nu (B.2.2.1 + 1)) 0)
        exact s_vret dX1_readDeed_109 rfl ⟨rfl, (exB 35 tk st (nuB 1 60 tk nu st (adB B))), (nu (B.2.2.1 + 1)), 0, (rd_ac (rd_self K rd4).1 (rd_self K rd4).2 N a (nu (B.2.2.1 + 1)) 0).1, (rd_ac (rd_self K rd4).1 (rd_self K rd4).2 N a (nu (B.2.2.1 + 1)) 0).2, ⟨fun z => by first | omega | exact ⟨rfl, rfl, rfl⟩, fun z => by first | omega | exact ⟨rfl, rfl, rfl⟩, fun z => by first | omega | exact ⟨rfl, rfl, rfl⟩, fun z => by first | omega | exact ⟨rfl, rfl, rfl⟩, fun z => by first | omega | exact ⟨rfl, rfl, rfl⟩⟩, cl_ac (chg_rdP rd4.1) (row_o (by have := xne K; omega) rd4.1) (fun j h1 h10 => rd4.2.2.2.2.2.2.2.2.2.2.2 j h1 h10)⟩
    · refine q_aload_n dX1_readDeed_18 rfl rfl ?_
      refine z_iconst dX1_readDeed_19 ?_
      refine z_bipush dX1_readDeed_20 (by decide +kernel) ?_
      refine s_callV (ci := 1) (a := 333) (As := [.int (iZ 0), .int (iZ 7)]) (S := []) dX1_readDeed_22 okX1_numberIn mlX1_100 rfl (by omega) rfl (Nat.le_of_ble_eq_true rfl) (show kd 333 = 1 from rfl) (by decide) rfl (x_numberIn (d := d - 1) (by omega) (a := 0) (b := 7) K rd2 (okB_ad ok (k_lt K ok.2.1 ht)) (by unfold inR; omega) (by unfold inR; omega)) (fun v_ σ_ hq => ?_)
      obtain ⟨rfl, rd3⟩ := hq
      rename gS => σ3
      show sE g_tt _ _ _ 25 [some (.ref 333), some (.int (iZ a)), some (.int (iZ 0)), some (.int (iZ 0))] [.int (iZ (nu (B.2.2.1 + 1)))] σ3
      refine q_istore_n dX1_readDeed_25 rfl (by decide) ?_
      show sE g_tt _ _ _ 26 [some (.ref 333), some (.int (iZ a)), some (.int (iZ (nu (B.2.2.1 + 1)))), some (.int (iZ 0))] [] σ3
      refine q_goto (tgt := 93) dX1_readDeed_26 (by decide) ?_
      refine q_aload_n dX1_readDeed_93 rfl rfl ?_
      refine z_bipush dX1_readDeed_94 (by decide +kernel) ?_
      refine s_callV (ci := 1) (a := 333) (As := [.int (iZ 35)]) (S := []) dX1_readDeed_96 okX1_expect mlX1_93 rfl (by omega) rfl (Nat.le_of_ble_eq_true rfl) (show kd 333 = 1 from rfl) (by decide) rfl (x_expect (d := d - 1) (by omega) (t := 35) K rd3 (nuO K.2.2.2.1 (okB_ad ok (k_lt K ok.2.1 ht))) (by omega)) (fun v_ σ_ hq => ?_)
      obtain ⟨rfl, rd4⟩ := hq
      rename gS => σ4
      show sE g_tt _ _ _ 99 [some (.ref 333), some (.int (iZ a)), some (.int (iZ (nu (B.2.2.1 + 1)))), some (.int (iZ 0))] [] σ4
      refine q_aload_n dX1_readDeed_99 rfl rfl ?_
      refine sg1 (kf := 3) (v := .ref x) dX1_readDeed_100 flX1_32 (show kd 333 = 1 from rfl) (by decide) (by show some (va_rf ((σ4).2.2.2.2 333 3)) = _; rw [show (σ4).2.2.2.2 333 3 = some x from rd4.2.2.1]; rfl) ?_
      refine q_iload_n dX1_readDeed_103 rfl rfl ?_
      refine q_iload_n dX1_readDeed_104 rfl rfl ?_
      refine q_iload_n dX1_readDeed_105 rfl rfl ?_
      refine s_callV (ci := 4) (a := x) (As := [.int (iZ a), .int (iZ (nu (B.2.2.1 + 1))), .int (iZ 0)]) (S := []) dX1_readDeed_106 okX4_addClause mlX1_96 rfl (by omega) rfl (Nat.le_of_ble_eq_true rfl) K.1 (by decide) rfl (x_addClause (d := d - 1) (N := N) K.1 σ4 (a := a) (b := nu (B.2.2.1 + 1)) (c := 0) ((rd4.2.2.2.2.2.2.2.2.2.2.2 9 (by decide) (by decide)).trans h9) (by omega)) (fun v_ σ_ hq => ?_)
      obtain ⟨rfl, e9⟩ := hq
      rw [if_pos hN] at e9
      subst e9
      show sE g_tt _ _ _ 109 [some (.ref 333), some (.int (iZ a)), some (.int (iZ (nu (B.2.2.1 + 1)))), some (.int (iZ 0))] [] (acS σ4 x N a (nu (B.2.2.1 + 1)) 0)
      exact s_vret dX1_readDeed_109 rfl ⟨rfl, (exB 35 tk st (nuB 0 7 tk nu st (adB B))), (nu (B.2.2.1 + 1)), 0, (rd_ac (rd_self K rd4).1 (rd_self K rd4).2 N a (nu (B.2.2.1 + 1)) 0).1, (rd_ac (rd_self K rd4).1 (rd_self K rd4).2 N a (nu (B.2.2.1 + 1)) 0).2, ⟨fun z => by first | omega | exact ⟨rfl, rfl, rfl⟩, fun z => by first | omega | exact ⟨rfl, rfl, rfl⟩, fun z => by first | omega | exact ⟨rfl, rfl, rfl⟩, fun z => by first | omega | exact ⟨rfl, rfl, rfl⟩, fun z => by first | omega | exact ⟨rfl, rfl, rfl⟩⟩, cl_ac (chg_rdP rd4.1) (row_o (by have := xne K; omega) rd4.1) (fun j h1 h10 => rd4.2.2.2.2.2.2.2.2.2.2.2 j h1 h10)⟩
