/-! ===== the class settles ===== -/
theorem rdI_all {W : wF} {B : Nat → Int} (h : ∀ j, j < 8 → B (11 + j) < wA W B j + 2) : rdI W B = -1 := by
  rcases rdI_spec (W := W) (A := B) with e | ⟨j, hj, _, hw⟩
  · exact e
  · have := h j hj; omega
theorem mRdy_at (A : Nat → Int) (W : Nat → Int) : ∀ (f k h : Nat), k ≤ h → h < k + f → (∀ j, k ≤ j → j < h → A (11 + j) < W j + 2) → W h + 2 ≤ A (11 + h) → mRdy A W f k = (h : Int) := by
  intro f
  induction f with
  | zero => intro k h h1 h2; omega
  | succ f ih =>
    intro k h h1 h2 h3 h4
    rw [mRdy]
    by_cases e : k = h
    · subst e; rw [if_pos h4]
    · rw [if_neg (by have := h3 k (Nat.le_refl _) (by omega); omega)]
      exact ih (k + 1) h (by omega) (by omega) (fun j a b => h3 j (by omega) b) h4
theorem rdI_at {W : wF} {B : Nat → Int} {h : Nat} (hh : h < 8) (h1 : ∀ j, j < h → B (11 + j) < wA W B j + 2) (h2 : wA W B h + 2 ≤ B (11 + h)) : rdI W B = (h : Int) := mRdy_at B (wA W B) 8 0 h (by omega) (by omega) (fun j _ b => h1 j b) h2
/-- names alike -/
def nmE (A B : Nat → Int) (j : Nat) : Prop := ∀ k, k < 8 → mNm A j k = mNm B j k
theorem mPeo_cong {A B : Nat → Int} {y z : Int} : ∀ n, (∀ p, p < n → (A (19 + p) = y ↔ B (19 + p) = z)) → mPeo A y n = mPeo B z n := by
  intro n
  induction n with
  | zero => intro _; rfl
  | succ n ih =>
    intro h
    rw [mPeo, mPeo, ih (fun p hp => h p (by omega))]
    by_cases c : A (19 + n) = y
    · rw [if_pos c, if_pos ((h n (by omega)).1 c)]
    · rw [if_neg c, if_neg (fun q => c ((h n (by omega)).2 q))]
theorem mThank_nm {c nt : Int} {B : Nat → Int} (g : gd c nt B) (F : Nat → Int) {h j : Nat} (hh : h < 8) (hj : j + 2 < h) : nmE (mThank B F h).1 B j := by
  have a0 := g.2.2.2.2.1.1
  have a3 := g.2.2.2.2.1.2
  have lo : ∀ i, i < 11 → i ≠ 8 → i ≠ 10 → (mThank B F h).1 i = B i := fun i q1 q2 q3 => mThank_lo B F hh a0 a3 q1 q2 q3
  have kk : ∀ i, i + 1 < h → (mThank B F h).1 (11 + i) = B (11 + i) := fun i hi => by
    rw [mThank_k B F hh a0 a3 (by omega), if_neg (by omega), if_neg (by omega), if_neg (by omega)]; omega
  have pe : mPeo (mThank B F h).1 (j : Int) (B 0).toNat = mPeo B (j : Int) (B 0).toNat := by
    refine mPeo_cong _ (fun p hp => ?_)
    have g0 := g.1
    rw [mThank_at B F hh a0 a3 (by omega)]
    by_cases q : (p : Int) < B 0 ∧ B (19 + p) = (h : Int)
    · rw [if_pos q]
      unfold mMv
      split <;> omega
    · rw [if_neg q]
  have ko : ∀ z : Int, z + 1 < (h : Int) → mKo (mThank B F h).1 z = mKo B z := fun z hz => by
    unfold mKo
    by_cases q : 0 ≤ z ∧ z < 8
    · rw [if_pos q, if_pos q, show (11 + z).toNat = 11 + z.toNat by omega]; exact kk _ (by omega)
    · rw [if_neg q, if_neg q]
  intro k hk
  match k, hk with
  | 0, _ => exact lo 5 (by decide) (by decide) (by decide)
  | 1, _ => exact lo 7 (by decide) (by decide) (by decide)
  | 2, _ => rfl
  | 3, _ => exact kk j (by omega)
  | 4, _ =>
    show ((mBits (mPeo (mThank B F h).1 j ((mThank B F h).1 0).toNat + 1) (mPeo (mThank B F h).1 j ((mThank B F h).1 0).toNat) : Nat) : Int) = ((mBits (mPeo B j (B 0).toNat + 1) (mPeo B j (B 0).toNat) : Nat) : Int)
    rw [lo 0 (by decide) (by decide) (by decide), pe]
  | 5, _ => exact ko _ (by omega)
  | 6, _ => exact ko _ (by omega)
  | 7, _ => exact lo 9 (by decide) (by decide) (by decide)
/-- a law that looks at its own house and those beside alone -/
def nearW (c nt : Int) (w : (Nat → Int) → Nat → Int) : Prop := ∀ A B j, j < 8 → gd c nt A → gd c nt B → nmE A B j → w A j = w B j
theorem mPhi_even (B : Nat → Int) : ∃ q : Int, mPhi B = 2 * q := ⟨4 * B 11 + 7 * B 12 + 9 * B 13 + 10 * B 14 + 10 * B 15 + 9 * B 16 + 7 * B 17 + 4 * B 18, by unfold mPhi; omega⟩
set_option maxHeartbeats 4000000 in
set_option maxRecDepth 100000 in
theorem lp_settleBy {d s x : Nat} (hd : 5 ≤ d) (hs : kd s = 2) (σ : gS) {W : wF} {t far : Int} {c nt : Int} (hc : c ≤ 100000) {v : (Nat → Int) → Nat → Int} (tx : txOK σ x c nt (W t) v) (hW9 : ∀ A h, gd c nt A → h < 8 → 0 ≤ W t A h ∧ W t A h ≤ 9) (hfar : σ.1 x 10 = far) (hfr : inR far) (hnear : far = 0 → nearW c nt (W t)) : ∀ (m : Nat) (house : Nat) (ti look : Int) (fu : Nat) (B F1 : Nat → Int) (σ1 : gS) (K H E N f : Nat → Int), gd c nt B → B 2 = t → trR (F1 23) K H E f B → f 11 = F1 25 → eqT σ σ1 → house ≤ 8 → (∀ j, j < house → B (11 + j) < W t B j + 2) → mPhi B < 2 * (fu : Int) → (0 ≤ look ∧ look + 9 * (mPhi B / 2) + (8 - (house : Int)) ≤ 9500000) → (0 ≤ ti ∧ ti + mPhi B / 2 ≤ 2000000) → 9 * (mPhi B / 2) + (8 - (house : Int)) < (m : Int) → sE g_tt mX2_settleBy d (fun r σ' => r = some (.int (iZ (ti + ((sett W fu B F1).1.length : Int)))) ∧ ∃ σ2 K' H' E' N' f', σ' = st σ2 s K' H' E' N' f' ∧ eqT σ σ2 ∧ trR (F1 23) K' H' E' f' (sett W fu B F1).2.1 ∧ f' 11 = (sett W fu B F1).2.2 25 ∧ ∀ j, j < 8 → N' j = N j + (((sett W fu B F1).1.count j : Nat) : Int)) 33 [some (.ref s), some (.ref x), some (.int (iZ ti)), some (.int (iZ (house : Int))), some (.int (iZ look))] [] (st σ1 s K H E N f) := by
  intro m
  induction m with
  | zero =>
    intro house ti look fu B F1 σ1 K H E N f g hB2 tr hm hE1 hh8 hnr hfu hlk hti hmu
    have p0 := (mPhi_ge g).1
    exact absurd hmu (by omega)
  | succ m ih =>
    intro house ti look fu B F1 σ1 K H E N f g hB2 tr hm hE1 hh8 hnr hfu hlk hti hmu
    have p0 := (mPhi_ge g).1
    rcases Nat.lt_or_ge house 8 with h8 | h8
    · have hw := hW9 B house g h8
      refine q_iload dX2_settleBy_33 rfl ?_
      refine z_ldc (z := 10000000) dX2_settleBy_35 kcX2_77 ?_
      refine z_icmp_ge (tgt := 94) dX2_settleBy_37 (by decide) (by unfold inR at *; omega) (by unfold inR at *; omega) (fun c_1 => ?_) (fun c_1 => ?_)
      · exfalso
        omega
      · refine q_iload_n dX2_settleBy_40 rfl rfl ?_
        refine z_bipush dX2_settleBy_41 (by decide +kernel) ?_
        refine z_icmp_ge (tgt := 94) dX2_settleBy_43 (by decide) (by unfold inR at *; omega) (by unfold inR at *; omega) (fun c_2 => ?_) (fun c_2 => ?_)
        · exfalso
          omega
        · refine q_aload_n dX2_settleBy_46 rfl rfl ?_
          refine q_iload_n dX2_settleBy_47 rfl rfl ?_
          refine q_aload_n dX2_settleBy_48 rfl rfl ?_
          refine s_callV (ci := 2) (a := s) (As := [.int (iZ (house : Int)), .ref x]) (S := []) dX2_settleBy_49 okX2_isReady mlX2_78 rfl (by omega) rfl (Nat.le_of_ble_eq_true rfl) hs (by decide) rfl (c_isReady (d := d - 1) (h := house) (by omega) (by omega) hs σ1 K H E N f g tr hc (txOK_T tx hE1) hw.1 hw.2) (fun v_ σ_ hq => ?_)
          obtain ⟨rfl, σ2, e9, hE2⟩ := hq
          subst e9
          have hE3 := eqT_tr hE1 hE2
          show sE g_tt _ _ _ 52 [some (.ref s), some (.ref x), some (.int (iZ ti)), some (.int (iZ (house : Int))), some (.int (iZ look))] [.int (iZ (if W t B house + 2 ≤ B (11 + house) then 1 else 0))] (st σ2 s K H E N f)
          refine z_if_eq (tgt := 85) dX2_settleBy_52 (by decide) inR_01 (fun c_3 => ?_) (fun c_3 => ?_)
          · have c_3 := if01_0 c_3
            refine z_iinc dX2_settleBy_85 rfl (by decide) ?_
            show sE g_tt _ _ _ 88 [some (.ref s), some (.ref x), some (.int (iZ ti)), some (.int (iZ ((house : Int) + 1))), some (.int (iZ look))] [] (st σ2 s K H E N f)
            refine z_iinc dX2_settleBy_88 rfl (by decide) ?_
            show sE g_tt _ _ _ 91 [some (.ref s), some (.ref x), some (.int (iZ ti)), some (.int (iZ ((house : Int) + 1))), some (.int (iZ (look + 1)))] [] (st σ2 s K H E N f)
            refine q_goto (tgt := 33) dX2_settleBy_91 (by decide) ?_
            rw [show (house : Int) + 1 = ((house + 1 : Nat) : Int) by omega]
            exact ih (house + 1) ti (look + 1) fu B F1 σ2 K H E N f g hB2 tr hm hE3 (by omega) (fun j hj => by
              rcases Nat.lt_or_eq_of_le (Nat.le_of_lt_succ hj) with q | q
              · exact hnr j q
              · subst q; omega) hfu (by omega) hti (by omega)
          · have c_3 := if01_1 c_3
            refine q_aload_n dX2_settleBy_55 rfl rfl ?_
            refine q_iload_n dX2_settleBy_56 rfl rfl ?_
            refine s_callV (ci := 2) (a := s) (As := [.int (iZ (house : Int))]) (S := []) dX2_settleBy_57 okX2_handOn mlX2_82 rfl (by omega) rfl (Nat.le_of_ble_eq_true rfl) hs (by decide) rfl (c_handOn (d := d - 1) (h := house) (by omega) (by omega) hs σ2 K H E N f B F1 g tr hm) (fun v_ σ_ hq => ?_)
            obtain ⟨rfl, K2, H2, E2, f2, e9, tr2, hm2⟩ := hq
            subst e9
            show sE g_tt _ _ _ 60 [some (.ref s), some (.ref x), some (.int (iZ ti)), some (.int (iZ (house : Int))), some (.int (iZ look))] [] (st σ2 s K2 H2 E2 (va_up N house (N house + 1)) f2)
            refine z_iinc dX2_settleBy_60 rfl (by decide) ?_
            show sE g_tt _ _ _ 63 [some (.ref s), some (.ref x), some (.int (iZ (ti + 1))), some (.int (iZ (house : Int))), some (.int (iZ look))] [] (st σ2 s K2 H2 E2 (va_up N house (N house + 1)) f2)
            refine q_aload_n dX2_settleBy_63 rfl rfl ?_
            refine sg4 (kf := 10) (v := .int (iZ far)) dX2_settleBy_64 flX2_85 tx.1 (by decide) (by rw [st_o1 _ _ _ _ _ _ (by have := (kd_tx tx.1).2.2; have := kd_sp hs; omega), hE3.1]; show some (Value.int (iZ (σ.1 x 10))) = _; rw [hfar]) ?_
            refine z_if_eq (tgt := 74) dX2_settleBy_67 (by decide) (by unfold inR at *; omega) (fun c_4 => ?_) (fun c_4 => ?_)
            · refine z_iconst dX2_settleBy_74 ?_
              refine q_iload_n dX2_settleBy_75 rfl rfl ?_
              refine z_iconst dX2_settleBy_76 ?_
              refine z_isub dX2_settleBy_77 ?_
              refine z_mmax dX2_settleBy_78 mlX2_89 (by omega) (Nat.le_of_ble_eq_true rfl) (by unfold inR at *; omega) (by unfold inR at *; omega) ?_
              refine q_istore_n dX2_settleBy_81 rfl (by decide) ?_
              show sE g_tt _ _ _ 82 [some (.ref s), some (.ref x), some (.int (iZ (ti + 1))), some (.int (iZ (max 0 ((house : Int) - 2)))), some (.int (iZ look))] [] (st σ2 s K2 H2 E2 (va_up N house (N house + 1)) f2)
              refine q_goto (tgt := 88) dX2_settleBy_82 (by decide) ?_
              refine z_iinc dX2_settleBy_88 rfl (by decide) ?_
              show sE g_tt _ _ _ 91 [some (.ref s), some (.ref x), some (.int (iZ (ti + 1))), some (.int (iZ (max 0 ((house : Int) - 2)))), some (.int (iZ (look + 1)))] [] (st σ2 s K2 H2 E2 (va_up N house (N house + 1)) f2)
              refine q_goto (tgt := 33) dX2_settleBy_91 (by decide) ?_
              have er : rdI W B = (house : Int) := rdI_at (by omega) (fun j hj => by unfold wA; rw [hB2]; exact hnr j hj) (by unfold wA; rw [hB2]; omega)
              obtain ⟨fv, rfl⟩ : ∃ fv, fu = fv + 1 := ⟨fu - 1, by omega⟩
              have w2 : 2 ≤ B (11 + house) := by omega
              have ps := (mThank_sum B F1 (h := house) (by omega) g.2.2.2.2.1.1 g.2.2.2.2.1.2).2
              have g2 : gd c nt (mThank B F1 house).1 := gd_thank g F1 (by omega) w2
              have b2 : (mThank B F1 house).1 2 = t := by rw [mThank_lo B F1 (by omega) g.2.2.2.2.1.1 g.2.2.2.2.1.2 (by decide) (by decide) (by decide)]; exact hB2
              have f23 : (mThank B F1 house).2 23 = F1 23 := mThank_F B F1 house (by decide) (by decide) (by decide)
              have p0 := (mPhi_ge g2).1
              obtain ⟨hn, hhn⟩ : ∃ hn : Nat, (max 0 ((house : Int) - 2) : Int) = (hn : Int) := ⟨(max 0 ((house : Int) - 2) : Int).toNat, by omega⟩
              rw [hhn]
              refine sE_imp (fun v9 σ9 q => ?_) (ih hn (ti + 1) (look + 1) fv (mThank B F1 house).1 (mThank B F1 house).2 σ2 K2 H2 E2 (va_up N house (N house + 1)) f2 g2 b2 (by rw [f23]; exact tr2) hm2 hE3 (by omega) (fun j hj => ?_) (by omega) (by omega) (by omega) (by omega))
              · have es : sett W (fv + 1) B F1 = (house :: (sett W fv (mThank B F1 house).1 (mThank B F1 house).2).1, (sett W fv (mThank B F1 house).1 (mThank B F1 house).2).2) := by
                  simp only [sett]
                  rw [if_neg (by omega), er, Int.toNat_natCast]
                obtain ⟨q1, σ4, K4, H4, E4, N4, f4, q2, q3, q4, q5, q6⟩ := q
                rw [es]
                refine ⟨by rw [q1]; congr 3; simp only [List.length_cons]; omega, σ4, K4, H4, E4, N4, f4, q2, q3, by rw [← f23]; exact q4, q5, fun j hj => ?_⟩
                rw [q6 j hj, cnt_cons]
                by_cases e : j = house
                · subst e; rw [va_up_self, if_pos rfl]; omega
                · rw [va_up_ne _ _ e, if_neg e]; omega
              · have nj : j + 2 < house := by omega
                have k9 : (mThank B F1 house).1 (11 + j) = B (11 + j) := by rw [mThank_k B F1 (by omega) g.2.2.2.2.1.1 g.2.2.2.2.1.2 (by omega), if_neg (by omega), if_neg (by omega), if_neg (by omega)]; omega
                rw [k9, hnear (by omega) (mThank B F1 house).1 B j (by omega) g2 g (mThank_nm g F1 (by omega) nj)]
                exact hnr j (by omega)
            · refine z_iconst dX2_settleBy_70 ?_
              refine q_goto (tgt := 81) dX2_settleBy_71 (by decide) ?_
              refine q_istore_n dX2_settleBy_81 rfl (by decide) ?_
              show sE g_tt _ _ _ 82 [some (.ref s), some (.ref x), some (.int (iZ (ti + 1))), some (.int (iZ 0)), some (.int (iZ look))] [] (st σ2 s K2 H2 E2 (va_up N house (N house + 1)) f2)
              refine q_goto (tgt := 88) dX2_settleBy_82 (by decide) ?_
              refine z_iinc dX2_settleBy_88 rfl (by decide) ?_
              show sE g_tt _ _ _ 91 [some (.ref s), some (.ref x), some (.int (iZ (ti + 1))), some (.int (iZ 0)), some (.int (iZ (look + 1)))] [] (st σ2 s K2 H2 E2 (va_up N house (N house + 1)) f2)
              refine q_goto (tgt := 33) dX2_settleBy_91 (by decide) ?_
              have er : rdI W B = (house : Int) := rdI_at (by omega) (fun j hj => by unfold wA; rw [hB2]; exact hnr j hj) (by unfold wA; rw [hB2]; omega)
              obtain ⟨fv, rfl⟩ : ∃ fv, fu = fv + 1 := ⟨fu - 1, by omega⟩
              have w2 : 2 ≤ B (11 + house) := by omega
              have ps := (mThank_sum B F1 (h := house) (by omega) g.2.2.2.2.1.1 g.2.2.2.2.1.2).2
              have g2 : gd c nt (mThank B F1 house).1 := gd_thank g F1 (by omega) w2
              have b2 : (mThank B F1 house).1 2 = t := by rw [mThank_lo B F1 (by omega) g.2.2.2.2.1.1 g.2.2.2.2.1.2 (by decide) (by decide) (by decide)]; exact hB2
              have f23 : (mThank B F1 house).2 23 = F1 23 := mThank_F B F1 house (by decide) (by decide) (by decide)
              have p0 := (mPhi_ge g2).1
              obtain ⟨hn, hhn⟩ : ∃ hn : Nat, (0 : Int) = (hn : Int) := ⟨(0 : Int).toNat, by omega⟩
              rw [hhn]
              refine sE_imp (fun v9 σ9 q => ?_) (ih hn (ti + 1) (look + 1) fv (mThank B F1 house).1 (mThank B F1 house).2 σ2 K2 H2 E2 (va_up N house (N house + 1)) f2 g2 b2 (by rw [f23]; exact tr2) hm2 hE3 (by omega) (fun j hj => ?_) (by omega) (by omega) (by omega) (by omega))
              · have es : sett W (fv + 1) B F1 = (house :: (sett W fv (mThank B F1 house).1 (mThank B F1 house).2).1, (sett W fv (mThank B F1 house).1 (mThank B F1 house).2).2) := by
                  simp only [sett]
                  rw [if_neg (by omega), er, Int.toNat_natCast]
                obtain ⟨q1, σ4, K4, H4, E4, N4, f4, q2, q3, q4, q5, q6⟩ := q
                rw [es]
                refine ⟨by rw [q1]; congr 3; simp only [List.length_cons]; omega, σ4, K4, H4, E4, N4, f4, q2, q3, by rw [← f23]; exact q4, q5, fun j hj => ?_⟩
                rw [q6 j hj, cnt_cons]
                by_cases e : j = house
                · subst e; rw [va_up_self, if_pos rfl]; omega
                · rw [va_up_ne _ _ e, if_neg e]; omega
              · omega
    · have es : sett W fu B F1 = ([], B, F1) := by
        obtain ⟨fv, rfl⟩ : ∃ fv, fu = fv + 1 := ⟨fu - 1, by omega⟩
        simp only [sett]
        rw [if_pos (rdI_all (fun j hj => by unfold wA; rw [hB2]; exact hnr j (by omega)))]
      refine q_iload dX2_settleBy_33 rfl ?_
      refine z_ldc (z := 10000000) dX2_settleBy_35 kcX2_77 ?_
      refine z_icmp_ge (tgt := 94) dX2_settleBy_37 (by decide) (by unfold inR at *; omega) (by unfold inR at *; omega) (fun c_1 => ?_) (fun c_1 => ?_)
      · refine q_iload_n dX2_settleBy_94 rfl rfl ?_
        exact s_iretZ dX2_settleBy_95 rfl ⟨by rw [es]; congr 3; show _ = ti + ((0 : Nat) : Int); omega, σ1, K, H, E, N, f, rfl, hE1, by rw [es]; exact tr, by rw [es]; exact hm, fun j hj => by rw [es]; show N j = N j + ((0 : Nat) : Int); omega⟩
      · refine q_iload_n dX2_settleBy_40 rfl rfl ?_
        refine z_bipush dX2_settleBy_41 (by decide +kernel) ?_
        refine z_icmp_ge (tgt := 94) dX2_settleBy_43 (by decide) (by unfold inR at *; omega) (by unfold inR at *; omega) (fun c_2 => ?_) (fun c_2 => ?_)
        · refine q_iload_n dX2_settleBy_94 rfl rfl ?_
          exact s_iretZ dX2_settleBy_95 rfl ⟨by rw [es]; congr 3; show _ = ti + ((0 : Nat) : Int); omega, σ1, K, H, E, N, f, rfl, hE1, by rw [es]; exact tr, by rw [es]; exact hm, fun j hj => by rw [es]; show N j = N j + ((0 : Nat) : Int); omega⟩
        · exfalso
          omega
set_option maxHeartbeats 4000000 in
set_option maxRecDepth 100000 in
theorem lp_settleBy0 {d s x : Nat} (hd : 5 ≤ d) (hs : kd s = 2) (σ : gS) {W : wF} {t far : Int} {c nt : Int} (hc : c ≤ 100000) {v : (Nat → Int) → Nat → Int} (tx : txOK σ x c nt (W t) v) (hW9 : ∀ A h, gd c nt A → h < 8 → 0 ≤ W t A h ∧ W t A h ≤ 9) (hfar : σ.1 x 10 = far) (hfr : inR far) (hnear : far = 0 → nearW c nt (W t)) (K H E N f : Nat → Int) (A F : Nat → Int) (g : gd c nt A) (hA2 : A 2 = t) (tr : trR (F 23) K H E f A) : ∀ (n : Nat) (k : Nat), k ≤ 8 → 8 - (k : Int) < (n : Int) → sE g_tt mX2_settleBy d (fun r σ' => r = some (.int (iZ ((mS W A F).1.length : Int))) ∧ ∃ σ2 K' H' E' N' f', σ' = st σ2 s K' H' E' N' f' ∧ eqT σ σ2 ∧ trR (F 23) K' H' E' f' (mS W A F).2.1 ∧ f' 11 = (mS W A F).2.2 25 ∧ ∀ j, j < 8 → N' j = (((mS W A F).1.count j : Nat) : Int)) 2 [some (.ref s), some (.ref x), some (.int (iZ (k : Int))), none, none] [] (st σ s K H E (mCl N k) f) := by
  intro n
  induction n with
  | zero =>
    intro k hk hn
    exact absurd hn (by omega)
  | succ n ih =>
    intro k hk hn
    refine q_iload_n dX2_settleBy_2 rfl rfl ?_
    refine z_bipush dX2_settleBy_3 (by decide +kernel) ?_
    refine z_icmp_ge (tgt := 21) dX2_settleBy_5 (by decide) (by unfold inR at *; omega) (by unfold inR at *; omega) (fun c_1 => ?_) (fun c_1 => ?_)
    · refine q_aload_n dX2_settleBy_21 rfl rfl ?_
      refine z_iconst dX2_settleBy_22 ?_
      refine tp (kf := 11) dX2_settleBy_23 flX2_46 hs (by decide) ?_
      refine z_iconst dX2_settleBy_26 ?_
      refine q_istore_n dX2_settleBy_27 rfl (by decide) ?_
      show sE g_tt _ _ _ 28 [some (.ref s), some (.ref x), some (.int (iZ 0)), none, none] [] (st σ s K H E (mCl N k) (va_up f 11 0))
      refine z_iconst dX2_settleBy_28 ?_
      refine q_istore_n dX2_settleBy_29 rfl (by decide) ?_
      show sE g_tt _ _ _ 30 [some (.ref s), some (.ref x), some (.int (iZ 0)), some (.int (iZ 0)), none] [] (st σ s K H E (mCl N k) (va_up f 11 0))
      refine z_iconst dX2_settleBy_30 ?_
      refine q_istore dX2_settleBy_31 (by decide) ?_
      show sE g_tt _ _ _ 33 [some (.ref s), some (.ref x), some (.int (iZ 0)), some (.int (iZ 0)), some (.int (iZ 0))] [] (st σ s K H E (mCl N k) (va_up f 11 0))
      have f9 : trR (F 23) K H E (va_up f 11 0) A := trR_mv tr 0
      have pg := mPhi_ge g
      have fg := fuS_ge
      refine sE_imp (fun v9 σ9 q => ?_) (lp_settleBy hd hs σ hc tx hW9 hfar hfr hnear 9500001 0 0 0 fuS A (va_up (va_up F 26 0) 25 0) σ K H E (mCl N k) (va_up f 11 0) g hA2 f9 rfl (eqT_rf σ) (by omega) (fun j hj => absurd hj (by omega)) (by omega) (by omega) (by omega) (by omega))
      obtain ⟨q1, σ4, K4, H4, E4, N4, f4, q2, q3, q4, q5, q6⟩ := q
      refine ⟨by rw [q1, Int.zero_add]; rfl, σ4, K4, H4, E4, N4, f4, q2, q3, q4, q5, fun j hj => ?_⟩
      rw [q6 j hj]
      unfold mCl
      rw [if_pos (by omega), Int.zero_add]
      rfl
    · refine q_aload_n dX2_settleBy_8 rfl rfl ?_
      refine sg2 (kf := 10) (v := .ref (s + 4)) dX2_settleBy_9 flX2_43 hs (by decide) rfl ?_
      refine q_iload_n dX2_settleBy_12 rfl rfl ?_
      refine z_iconst dX2_settleBy_13 ?_
      refine ts4 dX2_settleBy_14 hs (by omega) (by omega) ?_
      refine z_iinc dX2_settleBy_15 rfl (by decide) ?_
      show sE g_tt _ _ _ 18 [some (.ref s), some (.ref x), some (.int (iZ ((k : Int) + 1))), none, none] [] (st σ s K H E (va_up (mCl N k) k 0) f)
      refine q_goto (tgt := 2) dX2_settleBy_18 (by decide) ?_
      rw [← mCl_step]
      exact ih (k + 1) (by omega) (by omega)
set_option maxHeartbeats 4000000 in
set_option maxRecDepth 100000 in
theorem c_settleBy {d s x : Nat} (hd : 5 ≤ d) (hs : kd s = 2) (σ : gS) {W : wF} {t far : Int} {c nt : Int} (hc : c ≤ 100000) {v : (Nat → Int) → Nat → Int} (tx : txOK σ x c nt (W t) v) (hW9 : ∀ A h, gd c nt A → h < 8 → 0 ≤ W t A h ∧ W t A h ≤ 9) (hfar : σ.1 x 10 = far) (hfr : inR far) (hnear : far = 0 → nearW c nt (W t)) (K H E N f : Nat → Int) (A F : Nat → Int) (g : gd c nt A) (hA2 : A 2 = t) (tr : trR (F 23) K H E f A) : sC mX2_settleBy d [.ref s, .ref x] (st σ s K H E N f) (fun r σ' => r = some (.int (iZ ((mS W A F).1.length : Int))) ∧ ∃ σ2 K' H' E' N' f', σ' = st σ2 s K' H' E' N' f' ∧ eqT σ σ2 ∧ trR (F 23) K' H' E' f' (mS W A F).2.1 ∧ f' 11 = (mS W A F).2.2 25 ∧ ∀ j, j < 8 → N' j = (((mS W A F).1.count j : Nat) : Int)) := by
  refine sC_of rfl (Nat.le_of_ble_eq_true rfl) ?_
  show sE g_tt _ _ _ 0 [some (.ref s), some (.ref x), none, none, none] [] (st σ s K H E N f)
  refine z_iconst dX2_settleBy_0 ?_
  refine q_istore_n dX2_settleBy_1 rfl (by decide) ?_
  show sE g_tt _ _ _ 2 [some (.ref s), some (.ref x), some (.int (iZ 0)), none, none] [] (st σ s K H E N f)
  refine sE_eq (show st σ s K H E (mCl N 0) f = st σ s K H E N f by rw [mCl_0]) ?_
  exact lp_settleBy0 hd hs σ hc tx hW9 hfar hfr hnear K H E N f A F g hA2 tr 9 0 (by omega) (by omega)
