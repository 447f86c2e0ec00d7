/-! ===== the law's loop ===== -/
set_option maxHeartbeats 4000000 in
set_option maxRecDepth 100000 in
theorem lp_law {L : Nat} {xs : Nat → Int32} (hL : L ≤ 3072) : ∀ (m k : Nat) (τ : gS) (c : Int), JJ τ c → c ≤ 1000 + 80 * (k : Int) → 6 * k ≤ 3072 + 6 → 520 - k < m → gE (gYL L xs) mL_law 1000 (0, 0, 398, 15794) lwR1 18 [some (.ref 1000002), some (.ref 0), some (.ref 384), some (.int (iZ ((6 * k : Nat) : Int)))] [] (hE τ) := by
  intro m
  induction m with
  | zero => intro k τ c _ _ _ h; exact absurd h (by omega)
  | succ m ih =>
    intro k τ c J hc hk hm
    refine q_iload_n dL_law_18 rfl rfl ?_
    refine q_aload_n dL_law_19 rfl rfl ?_
    refine q_slen dL_law_20 ?_
    refine z_bipush dL_law_21 (by decide +kernel) ?_
    refine z_isub dL_law_23 ?_
    refine z_icmp_gt (tgt := 1667) dL_law_24 (by decide) (by unfold inR; omega) (by unfold inR; omega) (fun q => ?_) (fun q => ?_)
    · refine z_iconst dL_law_1667 ?_
      exact q_zret (by decide +kernel) dL_law_1668 rfl ⟨rfl, rfl⟩ (by show some (Value.int (iZ 1)) = some (.int 1); decide +kernel)
    · obtain ⟨W, V, J⟩ := J
      have N : ∀ σ2, JJ σ2 (c + 80) → gE (gYL L xs) mL_law 1000 (0, 0, 398, 15794) lwR1 1661 [some (.ref 1000002), some (.ref 0), some (.ref 384), some (.int (iZ ((6 * k : Nat) : Int)))] [] (hE σ2) := by
        intro σ2 J2
        refine z_iinc dL_law_1661 rfl (by decide) ?_
        show gE (gYL L xs) _ _ _ _ 1664 [some (.ref 1000002), some (.ref 0), some (.ref 384), some (.int (iZ (((6 * k : Nat) : Int) + 6)))] [] (hE σ2)
        refine q_goto (tgt := 18) dL_law_1664 (by decide) ?_
        have z := ih (k + 1) σ2 (c + 80) J2 (by omega) (by omega) (by omega)
        rw [show ((6 * (k + 1) : Nat) : Int) = ((6 * k : Nat) : Int) + 6 by omega] at z
        exact z
      refine q_aload_n dL_law_27 rfl rfl ?_
      refine q_iload_n dL_law_28 rfl rfl ?_
      refine q_sld (j := 6 * k) dL_law_29 rfl (by omega) hL ?_
      refine z_bipush dL_law_30 (by decide +kernel) ?_
      refine z_and63 dL_law_32 ?_
      by_cases s0 : xv xs (6 * k) % 64 = 0
      · refine z_top s0 ?_
        refine q_tableIn (tgt := 260) (off := 227) dL_law_33 (by decide +kernel) (by decide +kernel) (by decide +kernel) (by decide) ?_
        exact lw_person hL (by omega) (by omega) J N
      by_cases s1 : xv xs (6 * k) % 64 = 1
      · refine z_top s1 ?_
        refine q_tableIn (tgt := 283) (off := 250) dL_law_33 (by decide +kernel) (by decide +kernel) (by decide +kernel) (by decide) ?_
        exact lw_kind hL (by omega) (by omega) J N
      by_cases s2 : xv xs (6 * k) % 64 = 2
      · refine z_top s2 ?_
        refine q_tableIn (tgt := 316) (off := 283) dL_law_33 (by decide +kernel) (by decide +kernel) (by decide +kernel) (by decide) ?_
        exact lw_feed hL (by omega) (by omega) J N
      by_cases s3 : xv xs (6 * k) % 64 = 3
      · refine z_top s3 ?_
        refine q_tableIn (tgt := 379) (off := 346) dL_law_33 (by decide +kernel) (by decide +kernel) (by decide +kernel) (by decide) ?_
        exact lw_end hL (by omega) (by omega) J N
      by_cases s4 : xv xs (6 * k) % 64 = 4
      · refine z_top s4 ?_
        refine q_tableIn (tgt := 402) (off := 369) dL_law_33 (by decide +kernel) (by decide +kernel) (by decide +kernel) (by decide) ?_
        exact lw_text hL (by omega) (by omega) J N
      by_cases s5 : xv xs (6 * k) % 64 = 5
      · refine z_top s5 ?_
        refine q_tableIn (tgt := 415) (off := 382) dL_law_33 (by decide +kernel) (by decide +kernel) (by decide +kernel) (by decide) ?_
        exact lw_fault hL (by omega) (by omega) J N
      by_cases s6 : xv xs (6 * k) % 64 = 6
      · refine z_top s6 ?_
        refine q_tableIn (tgt := 438) (off := 405) dL_law_33 (by decide +kernel) (by decide +kernel) (by decide +kernel) (by decide) ?_
        exact lw_by hL (by omega) (by omega) J N
      by_cases s7 : xv xs (6 * k) % 64 = 7
      · refine z_top s7 ?_
        refine q_tableIn (tgt := 461) (off := 428) dL_law_33 (by decide +kernel) (by decide +kernel) (by decide +kernel) (by decide) ?_
        exact lw_good hL (by omega) (by omega) J N
      by_cases s8 : xv xs (6 * k) % 64 = 8
      · refine z_top s8 ?_
        refine q_tableIn (tgt := 494) (off := 461) dL_law_33 (by decide +kernel) (by decide +kernel) (by decide +kernel) (by decide) ?_
        exact lw_thank hL (by omega) (by omega) J N
      by_cases s9 : xv xs (6 * k) % 64 = 9
      · refine z_top s9 ?_
        refine q_tableIn (tgt := 517) (off := 484) dL_law_33 (by decide +kernel) (by decide +kernel) (by decide +kernel) (by decide) ?_
        exact lw_settle hL (by omega) (by omega) J N
      by_cases s10 : xv xs (6 * k) % 64 = 10
      · refine z_top s10 ?_
        refine q_tableIn (tgt := 530) (off := 497) dL_law_33 (by decide +kernel) (by decide +kernel) (by decide +kernel) (by decide) ?_
        exact lw_night hL (by omega) (by omega) J N
      by_cases s11 : xv xs (6 * k) % 64 = 11
      · refine z_top s11 ?_
        refine q_tableIn (tgt := 553) (off := 520) dL_law_33 (by decide +kernel) (by decide +kernel) (by decide +kernel) (by decide) ?_
        exact lw_played hL (by omega) (by omega) J N
      by_cases s12 : xv xs (6 * k) % 64 = 12
      · refine z_top s12 ?_
        refine q_tableIn (tgt := 576) (off := 543) dL_law_33 (by decide +kernel) (by decide +kernel) (by decide +kernel) (by decide) ?_
        exact lw_years hL (by omega) (by omega) J N
      by_cases s13 : xv xs (6 * k) % 64 = 13
      · refine z_top s13 ?_
        refine q_tableIn (tgt := 609) (off := 576) dL_law_33 (by decide +kernel) (by decide +kernel) (by decide +kernel) (by decide) ?_
        exact lw_undo hL (by omega) (by omega) J N
      by_cases s14 : xv xs (6 * k) % 64 = 14
      · refine z_top s14 ?_
        refine q_tableIn (tgt := 622) (off := 589) dL_law_33 (by decide +kernel) (by decide +kernel) (by decide +kernel) (by decide) ?_
        exact lw_of hL (by omega) (by omega) J N
      by_cases s15 : xv xs (6 * k) % 64 = 15
      · refine z_top s15 ?_
        refine q_tableIn (tgt := 655) (off := 622) dL_law_33 (by decide +kernel) (by decide +kernel) (by decide +kernel) (by decide) ?_
        exact lw_ofPerson hL (by omega) (by omega) J N
      by_cases s16 : xv xs (6 * k) % 64 = 16
      · refine z_top s16 ?_
        refine q_tableIn (tgt := 678) (off := 645) dL_law_33 (by decide +kernel) (by decide +kernel) (by decide +kernel) (by decide) ?_
        exact lw_is hL (by omega) (by omega) J N
      by_cases s17 : xv xs (6 * k) % 64 = 17
      · refine z_top s17 ?_
        refine q_tableIn (tgt := 701) (off := 668) dL_law_33 (by decide +kernel) (by decide +kernel) (by decide +kernel) (by decide) ?_
        exact lw_book hL (by omega) (by omega) J N
      by_cases s18 : xv xs (6 * k) % 64 = 18
      · refine z_top s18 ?_
        refine q_tableIn (tgt := 734) (off := 701) dL_law_33 (by decide +kernel) (by decide +kernel) (by decide +kernel) (by decide) ?_
        exact lw_foretold hL (by omega) (by omega) J N
      by_cases s19 : xv xs (6 * k) % 64 = 19
      · refine z_top s19 ?_
        refine q_tableIn (tgt := 777) (off := 744) dL_law_33 (by decide +kernel) (by decide +kernel) (by decide +kernel) (by decide) ?_
        exact lw_rest hL (by omega) (by omega) J N
      by_cases s20 : xv xs (6 * k) % 64 = 20
      · refine z_top s20 ?_
        refine q_tableIn (tgt := 810) (off := 777) dL_law_33 (by decide +kernel) (by decide +kernel) (by decide +kernel) (by decide) ?_
        exact lw_wave hL (by omega) (by omega) J N
      by_cases s21 : xv xs (6 * k) % 64 = 21
      · refine z_top s21 ?_
        refine q_tableIn (tgt := 833) (off := 800) dL_law_33 (by decide +kernel) (by decide +kernel) (by decide +kernel) (by decide) ?_
        exact lw_greatest hL (by omega) (by omega) J N
      by_cases s22 : xv xs (6 * k) % 64 = 22
      · refine z_top s22 ?_
        refine q_tableIn (tgt := 872) (off := 839) dL_law_33 (by decide +kernel) (by decide +kernel) (by decide +kernel) (by decide) ?_
        exact lw_reached hL (by omega) (by omega) J N
      by_cases s23 : xv xs (6 * k) % 64 = 23
      · refine z_top s23 ?_
        refine q_tableIn (tgt := 895) (off := 862) dL_law_33 (by decide +kernel) (by decide +kernel) (by decide +kernel) (by decide) ?_
        exact lw_waves hL (by omega) (by omega) J N
      by_cases s24 : xv xs (6 * k) % 64 = 24
      · refine z_top s24 ?_
        refine q_tableIn (tgt := 928) (off := 895) dL_law_33 (by decide +kernel) (by decide +kernel) (by decide +kernel) (by decide) ?_
        exact lw_until hL (by omega) (by omega) J N
      by_cases s25 : xv xs (6 * k) % 64 = 25
      · refine z_top s25 ?_
        refine q_tableIn (tgt := 961) (off := 928) dL_law_33 (by decide +kernel) (by decide +kernel) (by decide +kernel) (by decide) ?_
        exact lw_mover hL (by omega) (by omega) J N
      by_cases s26 : xv xs (6 * k) % 64 = 26
      · refine z_top s26 ?_
        refine q_tableIn (tgt := 1000) (off := 967) dL_law_33 (by decide +kernel) (by decide +kernel) (by decide +kernel) (by decide) ?_
        exact lw_again hL (by omega) (by omega) J N
      by_cases s27 : xv xs (6 * k) % 64 = 27
      · refine z_top s27 ?_
        refine q_tableIn (tgt := 1013) (off := 980) dL_law_33 (by decide +kernel) (by decide +kernel) (by decide +kernel) (by decide) ?_
        exact lw_period hL (by omega) (by omega) J N
      by_cases s28 : xv xs (6 * k) % 64 = 28
      · refine z_top s28 ?_
        refine q_tableIn (tgt := 1062) (off := 1029) dL_law_33 (by decide +kernel) (by decide +kernel) (by decide +kernel) (by decide) ?_
        exact lw_least hL (by omega) (by omega) J N
      by_cases s29 : xv xs (6 * k) % 64 = 29
      · refine z_top s29 ?_
        refine q_tableIn (tgt := 1111) (off := 1078) dL_law_33 (by decide +kernel) (by decide +kernel) (by decide +kernel) (by decide) ?_
        exact lw_meet hL (by omega) (by omega) J N
      by_cases s30 : xv xs (6 * k) % 64 = 30
      · refine z_top s30 ?_
        refine q_tableIn (tgt := 1154) (off := 1121) dL_law_33 (by decide +kernel) (by decide +kernel) (by decide +kernel) (by decide) ?_
        exact lw_doers hL (by omega) (by omega) J N
      by_cases s31 : xv xs (6 * k) % 64 = 31
      · refine z_top s31 ?_
        refine q_tableIn (tgt := 1193) (off := 1160) dL_law_33 (by decide +kernel) (by decide +kernel) (by decide +kernel) (by decide) ?_
        exact lw_likely hL (by omega) (by omega) J N
      by_cases s32 : xv xs (6 * k) % 64 = 32
      · refine z_top s32 ?_
        refine q_tableIn (tgt := 1252) (off := 1219) dL_law_33 (by decide +kernel) (by decide +kernel) (by decide +kernel) (by decide) ?_
        exact lw_off hL (by omega) (by omega) J N
      by_cases s33 : xv xs (6 * k) % 64 = 33
      · refine z_top s33 ?_
        refine q_tableIn (tgt := 1301) (off := 1268) dL_law_33 (by decide +kernel) (by decide +kernel) (by decide +kernel) (by decide) ?_
        exact lw_need hL (by omega) (by omega) J N
      by_cases s34 : xv xs (6 * k) % 64 = 34
      · refine z_top s34 ?_
        refine q_tableIn (tgt := 1334) (off := 1301) dL_law_33 (by decide +kernel) (by decide +kernel) (by decide +kernel) (by decide) ?_
        exact lw_cart hL (by omega) (by omega) J N
      by_cases s35 : xv xs (6 * k) % 64 = 35
      · refine z_top s35 ?_
        refine q_tableIn (tgt := 1357) (off := 1324) dL_law_33 (by decide +kernel) (by decide +kernel) (by decide +kernel) (by decide) ?_
        exact lw_round hL (by omega) (by omega) J N
      by_cases s36 : xv xs (6 * k) % 64 = 36
      · refine z_top s36 ?_
        refine q_tableIn (tgt := 1390) (off := 1357) dL_law_33 (by decide +kernel) (by decide +kernel) (by decide +kernel) (by decide) ?_
        exact lw_sick hL (by omega) (by omega) J N
      by_cases s37 : xv xs (6 * k) % 64 = 37
      · refine z_top s37 ?_
        refine q_tableIn (tgt := 1403) (off := 1370) dL_law_33 (by decide +kernel) (by decide +kernel) (by decide +kernel) (by decide) ?_
        exact lw_beside hL (by omega) (by omega) J N
      by_cases s38 : xv xs (6 * k) % 64 = 38
      · refine z_top s38 ?_
        refine q_tableIn (tgt := 1426) (off := 1393) dL_law_33 (by decide +kernel) (by decide +kernel) (by decide +kernel) (by decide) ?_
        exact lw_alone hL (by omega) (by omega) J N
      by_cases s39 : xv xs (6 * k) % 64 = 39
      · refine z_top s39 ?_
        refine q_tableIn (tgt := 1439) (off := 1406) dL_law_33 (by decide +kernel) (by decide +kernel) (by decide +kernel) (by decide) ?_
        exact lw_spread hL (by omega) (by omega) J N
      by_cases s40 : xv xs (6 * k) % 64 = 40
      · refine z_top s40 ?_
        refine q_tableIn (tgt := 1452) (off := 1419) dL_law_33 (by decide +kernel) (by decide +kernel) (by decide +kernel) (by decide) ?_
        exact lw_crowded hL (by omega) (by omega) J N
      by_cases s41 : xv xs (6 * k) % 64 = 41
      · refine z_top s41 ?_
        refine q_tableIn (tgt := 1465) (off := 1432) dL_law_33 (by decide +kernel) (by decide +kernel) (by decide +kernel) (by decide) ?_
        exact lw_empty hL (by omega) (by omega) J N
      by_cases s42 : xv xs (6 * k) % 64 = 42
      · refine z_top s42 ?_
        refine q_tableIn (tgt := 1478) (off := 1445) dL_law_33 (by decide +kernel) (by decide +kernel) (by decide +kernel) (by decide) ?_
        exact lw_said hL (by omega) (by omega) J N
      by_cases s43 : xv xs (6 * k) % 64 = 43
      · refine z_top s43 ?_
        refine q_tableIn (tgt := 1511) (off := 1478) dL_law_33 (by decide +kernel) (by decide +kernel) (by decide +kernel) (by decide) ?_
        exact lw_whose hL (by omega) (by omega) J N
      by_cases s44 : xv xs (6 * k) % 64 = 44
      · refine z_top s44 ?_
        refine q_tableIn (tgt := 1524) (off := 1491) dL_law_33 (by decide +kernel) (by decide +kernel) (by decide +kernel) (by decide) ?_
        exact lw_ready hL (by omega) (by omega) J N
      by_cases s45 : xv xs (6 * k) % 64 = 45
      · refine z_top s45 ?_
        refine q_tableIn (tgt := 1537) (off := 1504) dL_law_33 (by decide +kernel) (by decide +kernel) (by decide +kernel) (by decide) ?_
        exact lw_balance hL (by omega) (by omega) J N
      by_cases s46 : xv xs (6 * k) % 64 = 46
      · refine z_top s46 ?_
        refine q_tableIn (tgt := 1550) (off := 1517) dL_law_33 (by decide +kernel) (by decide +kernel) (by decide +kernel) (by decide) ?_
        exact lw_middle hL (by omega) (by omega) J N
      by_cases s47 : xv xs (6 * k) % 64 = 47
      · refine z_top s47 ?_
        refine q_tableIn (tgt := 1563) (off := 1530) dL_law_33 (by decide +kernel) (by decide +kernel) (by decide +kernel) (by decide) ?_
        exact lw_kindest hL (by omega) (by omega) J N
      by_cases s48 : xv xs (6 * k) % 64 = 48
      · refine z_top s48 ?_
        refine q_tableIn (tgt := 1576) (off := 1543) dL_law_33 (by decide +kernel) (by decide +kernel) (by decide +kernel) (by decide) ?_
        exact lw_travelled hL (by omega) (by omega) J N
      by_cases s49 : xv xs (6 * k) % 64 = 49
      · refine z_top s49 ?_
        refine q_tableIn (tgt := 1589) (off := 1556) dL_law_33 (by decide +kernel) (by decide +kernel) (by decide +kernel) (by decide) ?_
        exact lw_ledger hL (by omega) (by omega) J N
      by_cases s50 : xv xs (6 * k) % 64 = 50
      · refine z_top s50 ?_
        refine q_tableIn (tgt := 1612) (off := 1579) dL_law_33 (by decide +kernel) (by decide +kernel) (by decide +kernel) (by decide) ?_
        exact lw_image hL (by omega) (by omega) J N
      by_cases s51 : xv xs (6 * k) % 64 = 51
      · refine z_top s51 ?_
        refine q_tableIn (tgt := 1625) (off := 1592) dL_law_33 (by decide +kernel) (by decide +kernel) (by decide +kernel) (by decide) ?_
        exact lw_back hL (by omega) (by omega) J N
      by_cases s52 : xv xs (6 * k) % 64 = 52
      · refine z_top s52 ?_
        refine q_tableIn (tgt := 1638) (off := 1605) dL_law_33 (by decide +kernel) (by decide +kernel) (by decide +kernel) (by decide) ?_
        exact lw_about hL (by omega) (by omega) J N
      refine q_tableOut (tgt := 1661) dL_law_33 (by rw [iZ_toInt (by unfold inR; omega)]; omega) (by decide) ?_
      exact N τ (J_self J)
