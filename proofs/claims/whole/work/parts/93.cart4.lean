/-! ===== the best round of the class; cart, round ===== -/
set_option maxHeartbeats 4000000 in
set_option maxRecDepth 100000 in
theorem lx_isBetter {d : Nat} (σ : gS) {l b : List Nat} {t tb : Int} (h4 : σ.1 337 4 = ((l.length : Nat) : Int)) (h1 : σ.1 337 1 = ((b.length : Nat) : Int)) (h2 : σ.1 337 2 = tb) (hl : lrow (σ.2.1 339) l) (hb : lrow (σ.2.1 338) b) (hlen : ¬ tb = -1 → l.length = b.length) (hl8 : l.length ≤ 8) (hb8 : b.length ≤ 8) (l8l : l8 l) (l8b : l8 b) (ht : inR t) (htb : inR tb) (htt : t = tb) (htn : ¬ tb = -1) : ∀ (n : Nat) (k : Nat), k ≤ l.length → lexF (lget l) (lget b) (l.length - k) k = lexL l b → (l.length : Int) - (k : Int) < (n : Int) → sE g_tt mX0_isBetter d (fun r σ' => r = some (.int (iZ (if tb = -1 ∨ t < tb ∨ (t = tb ∧ lexL l b = 1) then 1 else 0))) ∧ σ' = σ) 40 [some (.ref 337), some (.int (iZ t)), some (.int (iZ (k : Int)))] [] σ := by
  intro n
  induction n with
  | zero =>
    intro k hk hx hn
    exact absurd hn (by omega)
  | succ n ih =>
    intro k hk hx hn
    have hle := hlen htn
    refine q_iload_n dX0_isBetter_40 rfl rfl ?_
    refine q_aload_n dX0_isBetter_41 rfl rfl ?_
    refine sg0 (kf := 4) (v := .int (iZ ((l.length : Nat) : Int))) dX0_isBetter_42 flX0_25 (show kd 337 = 0 from rfl) (by decide) (by show some (Value.int (iZ (σ.1 337 4))) = _; rw [h4]) ?_
    refine z_icmp_ge (tgt := 98) dX0_isBetter_45 (by decide) (by unfold inR at *; omega) (by unfold inR at *; omega) (fun c_1 => ?_) (fun c_1 => ?_)
    · refine z_iconst dX0_isBetter_98 ?_
      exact s_zret dX0_isBetter_99 rfl (by omega) ⟨by rw [if_neg (by rw [show l.length - k = 0 by omega] at hx; have : lexL l b = 0 := hx.symm; omega)], rfl⟩
    · refine q_iload_n dX0_isBetter_48 rfl rfl ?_
      refine q_aload_n dX0_isBetter_49 rfl rfl ?_
      refine sg0 (kf := 1) (v := .int (iZ ((b.length : Nat) : Int))) dX0_isBetter_50 flX0_15 (show kd 337 = 0 from rfl) (by decide) (by show some (Value.int (iZ (σ.1 337 1))) = _; rw [h1]) ?_
      refine z_icmp_ge (tgt := 98) dX0_isBetter_53 (by decide) (by unfold inR at *; omega) (by unfold inR at *; omega) (fun c_2 => ?_) (fun c_2 => ?_)
      · exfalso
        omega
      · refine q_aload_n dX0_isBetter_56 rfl rfl ?_
        refine sg0 (kf := 3) (v := .ref 339) dX0_isBetter_57 flX0_22 (show kd 337 = 0 from rfl) (by decide) rfl ?_
        refine q_iload_n dX0_isBetter_60 rfl rfl ?_
        refine s_iald (n := 8) (x := lget l k) dX0_isBetter_61 (show kd 339 = 100 + 8 from rfl) (by omega) (by omega) (by decide) (lget_row hl (by omega)) ?_
        refine q_aload_n dX0_isBetter_62 rfl rfl ?_
        refine sg0 (kf := 0) (v := .ref 338) dX0_isBetter_63 flX0_9 (show kd 337 = 0 from rfl) (by decide) rfl ?_
        refine q_iload_n dX0_isBetter_66 rfl rfl ?_
        refine s_iald (n := 8) (x := lget b k) dX0_isBetter_67 (show kd 338 = 100 + 8 from rfl) (by omega) (by omega) (by decide) (lget_row hb (by omega)) ?_
        refine z_icmp_eq (tgt := 92) dX0_isBetter_68 (by decide) (by have := l8l k (by omega); unfold inR; omega) (by have := l8b k (by omega); unfold inR; omega) (fun c_3 => ?_) (fun c_3 => ?_)
        · refine z_iinc dX0_isBetter_92 rfl (by decide) ?_
          show sE g_tt _ _ _ 95 [some (.ref 337), some (.int (iZ t)), some (.int (iZ ((k : Int) + 1)))] [] σ
          refine q_goto (tgt := 40) dX0_isBetter_95 (by decide) ?_
          exact ih (k + 1) (by omega) (by rw [← hx, show l.length - k = (l.length - (k + 1)) + 1 by omega, lexF, if_pos (by omega)]) (by omega)
        · refine q_aload_n dX0_isBetter_71 rfl rfl ?_
          refine sg0 (kf := 3) (v := .ref 339) dX0_isBetter_72 flX0_22 (show kd 337 = 0 from rfl) (by decide) rfl ?_
          refine q_iload_n dX0_isBetter_75 rfl rfl ?_
          refine s_iald (n := 8) (x := lget l k) dX0_isBetter_76 (show kd 339 = 100 + 8 from rfl) (by omega) (by omega) (by decide) (lget_row hl (by omega)) ?_
          refine q_aload_n dX0_isBetter_77 rfl rfl ?_
          refine sg0 (kf := 0) (v := .ref 338) dX0_isBetter_78 flX0_9 (show kd 337 = 0 from rfl) (by decide) rfl ?_
          refine q_iload_n dX0_isBetter_81 rfl rfl ?_
          refine s_iald (n := 8) (x := lget b k) dX0_isBetter_82 (show kd 338 = 100 + 8 from rfl) (by omega) (by omega) (by decide) (lget_row hb (by omega)) ?_
          refine z_icmp_ge (tgt := 90) dX0_isBetter_83 (by decide) (by have := l8l k (by omega); unfold inR; omega) (by have := l8b k (by omega); unfold inR; omega) (fun c_4 => ?_) (fun c_4 => ?_)
          · refine z_iconst dX0_isBetter_90 ?_
            exact s_zret dX0_isBetter_91 rfl (by omega) ⟨by have e : lexL l b = 0 := (by rw [← hx, show l.length - k = (l.length - (k + 1)) + 1 by omega, lexF, if_neg (by omega), if_neg (by omega)]); rw [if_neg (by omega)], rfl⟩
          · refine z_iconst dX0_isBetter_86 ?_
            refine q_goto (tgt := 91) dX0_isBetter_87 (by decide) ?_
            exact s_zret dX0_isBetter_91 rfl (by omega) ⟨by have e : lexL l b = 1 := (by rw [← hx, show l.length - k = (l.length - (k + 1)) + 1 by omega, lexF, if_neg (by omega), if_pos (by omega)]); rw [if_pos (Or.inr (Or.inr ⟨htt, e⟩))], rfl⟩
set_option maxHeartbeats 4000000 in
set_option maxRecDepth 100000 in
theorem x_isBetter {d : Nat} (σ : gS) {l b : List Nat} {t tb : Int} (h4 : σ.1 337 4 = ((l.length : Nat) : Int)) (h1 : σ.1 337 1 = ((b.length : Nat) : Int)) (h2 : σ.1 337 2 = tb) (hl : lrow (σ.2.1 339) l) (hb : lrow (σ.2.1 338) b) (hlen : ¬ tb = -1 → l.length = b.length) (hl8 : l.length ≤ 8) (hb8 : b.length ≤ 8) (l8l : l8 l) (l8b : l8 b) (ht : inR t) (htb : inR tb) : sC mX0_isBetter d [.ref 337, .int (iZ t)] σ (fun r σ' => r = some (.int (iZ (if tb = -1 ∨ t < tb ∨ (t = tb ∧ lexL l b = 1) then 1 else 0))) ∧ σ' = σ) := by
  refine sC_of rfl (Nat.le_of_ble_eq_true rfl) ?_
  show sE g_tt _ _ _ 0 [some (.ref 337), some (.int (iZ t)), none] [] σ
  refine q_aload_n dX0_isBetter_0 rfl rfl ?_
  refine sg0 (kf := 2) (v := .int (iZ tb)) dX0_isBetter_1 flX0_19 (show kd 337 = 0 from rfl) (by decide) (by show some (Value.int (iZ (σ.1 337 2))) = _; rw [h2]) ?_
  refine z_iconst dX0_isBetter_4 ?_
  refine z_icmp_eq (tgt := 16) dX0_isBetter_5 (by decide) (by unfold inR at *; omega) (by unfold inR at *; omega) (fun c_1 => ?_) (fun c_1 => ?_)
  · refine q_aload_n dX0_isBetter_16 rfl rfl ?_
    refine sg0 (kf := 2) (v := .int (iZ tb)) dX0_isBetter_17 flX0_19 (show kd 337 = 0 from rfl) (by decide) (by show some (Value.int (iZ (σ.1 337 2))) = _; rw [h2]) ?_
    refine z_iconst dX0_isBetter_20 ?_
    refine z_icmp_eq (tgt := 32) dX0_isBetter_21 (by decide) (by unfold inR at *; omega) (by unfold inR at *; omega) (fun c_2 => ?_) (fun c_2 => ?_)
    · refine z_iconst dX0_isBetter_32 ?_
      refine q_goto (tgt := 37) dX0_isBetter_33 (by decide) ?_
      exact s_zret dX0_isBetter_37 rfl (by omega) ⟨by first | (rw [if_pos (by omega)]; done) | (rw [if_neg (by omega)]; done) | (exfalso; omega), rfl⟩
    · refine q_iload_n dX0_isBetter_24 rfl rfl ?_
      refine q_aload_n dX0_isBetter_25 rfl rfl ?_
      refine sg0 (kf := 2) (v := .int (iZ tb)) dX0_isBetter_26 flX0_19 (show kd 337 = 0 from rfl) (by decide) (by show some (Value.int (iZ (σ.1 337 2))) = _; rw [h2]) ?_
      refine z_icmp_ge (tgt := 36) dX0_isBetter_29 (by decide) (by unfold inR at *; omega) (by unfold inR at *; omega) (fun c_3 => ?_) (fun c_3 => ?_)
      · refine z_iconst dX0_isBetter_36 ?_
        exact s_zret dX0_isBetter_37 rfl (by omega) ⟨by first | (rw [if_pos (by omega)]; done) | (rw [if_neg (by omega)]; done) | (exfalso; omega), rfl⟩
      · refine z_iconst dX0_isBetter_32 ?_
        refine q_goto (tgt := 37) dX0_isBetter_33 (by decide) ?_
        exact s_zret dX0_isBetter_37 rfl (by omega) ⟨by first | (rw [if_pos (by omega)]; done) | (rw [if_neg (by omega)]; done) | (exfalso; omega), rfl⟩
  · refine q_iload_n dX0_isBetter_8 rfl rfl ?_
    refine q_aload_n dX0_isBetter_9 rfl rfl ?_
    refine sg0 (kf := 2) (v := .int (iZ tb)) dX0_isBetter_10 flX0_19 (show kd 337 = 0 from rfl) (by decide) (by show some (Value.int (iZ (σ.1 337 2))) = _; rw [h2]) ?_
    refine z_icmp_eq (tgt := 38) dX0_isBetter_13 (by decide) (by unfold inR at *; omega) (by unfold inR at *; omega) (fun c_4 => ?_) (fun c_4 => ?_)
    · refine z_iconst dX0_isBetter_38 ?_
      refine q_istore_n dX0_isBetter_39 rfl (by decide) ?_
      show sE g_tt _ _ _ 40 [some (.ref 337), some (.int (iZ t)), some (.int (iZ 0))] [] σ
      exact lx_isBetter σ h4 h1 h2 hl hb hlen hl8 hb8 l8l l8b ht htb (by omega) (by omega) (l.length + 1) 0 (by omega) rfl (by omega)
    · refine q_aload_n dX0_isBetter_16 rfl rfl ?_
      refine sg0 (kf := 2) (v := .int (iZ tb)) dX0_isBetter_17 flX0_19 (show kd 337 = 0 from rfl) (by decide) (by show some (Value.int (iZ (σ.1 337 2))) = _; rw [h2]) ?_
      refine z_iconst dX0_isBetter_20 ?_
      refine z_icmp_eq (tgt := 32) dX0_isBetter_21 (by decide) (by unfold inR at *; omega) (by unfold inR at *; omega) (fun c_5 => ?_) (fun c_5 => ?_)
      · refine z_iconst dX0_isBetter_32 ?_
        refine q_goto (tgt := 37) dX0_isBetter_33 (by decide) ?_
        exact s_zret dX0_isBetter_37 rfl (by omega) ⟨by first | (rw [if_pos (by omega)]; done) | (rw [if_neg (by omega)]; done) | (exfalso; omega), rfl⟩
      · refine q_iload_n dX0_isBetter_24 rfl rfl ?_
        refine q_aload_n dX0_isBetter_25 rfl rfl ?_
        refine sg0 (kf := 2) (v := .int (iZ tb)) dX0_isBetter_26 flX0_19 (show kd 337 = 0 from rfl) (by decide) (by show some (Value.int (iZ (σ.1 337 2))) = _; rw [h2]) ?_
        refine z_icmp_ge (tgt := 36) dX0_isBetter_29 (by decide) (by unfold inR at *; omega) (by unfold inR at *; omega) (fun c_6 => ?_) (fun c_6 => ?_)
        · refine z_iconst dX0_isBetter_36 ?_
          exact s_zret dX0_isBetter_37 rfl (by omega) ⟨by first | (rw [if_pos (by omega)]; done) | (rw [if_neg (by omega)]; done) | (exfalso; omega), rfl⟩
        · refine z_iconst dX0_isBetter_32 ?_
          refine q_goto (tgt := 37) dX0_isBetter_33 (by decide) ?_
          exact s_zret dX0_isBetter_37 rfl (by omega) ⟨by first | (rw [if_pos (by omega)]; done) | (rw [if_neg (by omega)]; done) | (exfalso; omega), rfl⟩
def crtA (a : Nat) : Prop := a = 337 ∨ a = 338 ∨ a = 339
theorem lrow_cpy {f g : Nat → Int} {l : List Nat} (h : lrow f l) (h8 : l.length ≤ 8) : lrow (va_cpy f g 0 0 8) l := fun i x hi => by
  have : i < l.length := by
    rcases Nat.lt_or_ge i l.length with q | q
    · exact q
    · rw [List.getElem?_eq_none q] at hi; cases hi
  rw [va_cpy_at _ _ _ (by omega)]
  exact h i x hi
set_option maxHeartbeats 4000000 in
set_option maxRecDepth 100000 in
theorem x_keepB {d : Nat} (hd : 1 ≤ d) (σ : gS) {l : List Nat} {t : Int} (h4 : σ.1 337 4 = ((l.length : Nat) : Int)) (hl : lrow (σ.2.1 339) l) (hl8 : l.length ≤ 8) : sC mX0_keep d [.ref 337, .int (iZ t)] σ (fun r σ' => r = none ∧ chg crtA σ σ' ∧ σ'.1 337 1 = ((l.length : Nat) : Int) ∧ σ'.1 337 2 = t ∧ lrow (σ'.2.1 338) l) := by
  refine sC_of rfl (Nat.le_of_ble_eq_true rfl) ?_
  show sE g_tt _ _ _ 0 [some (.ref 337), some (.int (iZ t))] [] σ
  refine q_aload_n dX0_keep_0 rfl rfl ?_
  refine q_iload_n dX0_keep_1 rfl rfl ?_
  refine sp0 (kf := 2) dX0_keep_2 flX0_19 (show kd 337 = 0 from rfl) (by decide) ?_
  refine q_aload_n dX0_keep_5 rfl rfl ?_
  refine q_aload_n dX0_keep_6 rfl rfl ?_
  refine sg0 (kf := 4) (v := .int (iZ ((l.length : Nat) : Int))) dX0_keep_7 flX0_25 (show kd 337 = 0 from rfl) (by decide) (by show some (Value.int (iZ ((sI σ 337 2 t).1 337 4))) = _; rw [show (sI σ 337 2 t).1 337 4 = ((l.length : Nat) : Int) from (up2_k (a := 337) (k := 2) (j := 4) σ.1 t (by decide)).trans h4]) ?_
  refine sp0 (kf := 1) dX0_keep_10 flX0_15 (show kd 337 = 0 from rfl) (by decide) ?_
  refine q_aload_n dX0_keep_13 rfl rfl ?_
  refine sg0 (kf := 3) (v := .ref 339) dX0_keep_14 flX0_22 (show kd 337 = 0 from rfl) (by decide) rfl ?_
  refine z_iconst dX0_keep_17 ?_
  refine q_aload_n dX0_keep_18 rfl rfl ?_
  refine sg0 (kf := 0) (v := .ref 338) dX0_keep_19 flX0_9 (show kd 337 = 0 from rfl) (by decide) rfl ?_
  refine z_iconst dX0_keep_22 ?_
  refine z_bipush dX0_keep_23 (by decide +kernel) ?_
  refine s_copy (n0 := 8) (n1 := 8) dX0_keep_25 mlX0_65 (by omega) (Nat.le_of_ble_eq_true rfl) (show kd 339 = 100 + 8 from rfl) (show kd 338 = 100 + 8 from rfl) (by decide) (by decide) (by omega) (by omega) (by omega) (by omega) (by omega) ?_
  show sE g_tt _ _ _ 28 [some (.ref 337), some (.int (iZ t))] [] (sRw (sI (sI σ 337 2 t) 337 1 ((l.length : Nat) : Int)) 338 (va_cpy (σ.2.1 339) (σ.2.1 338) 0 0 8))
  exact s_vret dX0_keep_28 rfl ⟨rfl, chg_tr (chg_mono (chg_sI σ 337 2 t) (fun a q => Or.inl q)) (chg_tr (chg_mono (chg_sI _ 337 1 _) (fun a q => Or.inl q)) (chg_mono (chg_sRw _ 338 _) (fun a q => Or.inr (Or.inl q)))), up2_at (up2 σ.1 337 2 t) 337 1 _, (up2_k (a := 337) (k := 1) (j := 2) (up2 σ.1 337 2 t) ((l.length : Nat) : Int) (by decide)).trans (up2_at σ.1 337 2 t), by rw [sRw_at]; exact lrow_cpy hl hl8⟩
/-- the best round so far, as the cart has it -/
def bstR (σ : gS) (X : Option (Int × List Nat)) : Prop := σ.1 337 1 = (((oL X).length : Nat) : Int) ∧ σ.1 337 2 = oT X ∧ lrow (σ.2.1 338) (oL X)
theorem dueR_cA {σ σ' : gS} {A : Nat → Int} (h : dueR σ A) (c : chg crtA σ σ') : dueR σ' A := fun k hk => by rw [(c.1 8 (by unfold crtA; omega)).2.1]; exact h k hk
theorem okO_c {A : Nat → Int} (hdu : ∀ k, k < 8 → 0 ≤ A (29 + k) ∧ A (29 + k) ≤ 31) {fr lw hg : Nat} (s : spn A fr lw hg) {k : Nat} (hk : k < 2 ^ (hg - lw)) : okO (lfN A) (cRd A fr lw hg k) := by
  by_cases q : pcB 7 k = fr - lw
  · have f8 : fr < 8 := by have := s.2.1; have := s.2.2.1; omega
    rw [← cRd_eq hdu s hk q]
    exact mRd_ok A (127 - k) f8 (fun z => lfN_1 f8 (by have := hdu fr f8; omega))
  · unfold cRd; rw [if_neg q]; exact okO_none _
theorem okO_f {A : Nat → Int} (hdu : ∀ k, k < 8 → 0 ≤ A (29 + k) ∧ A (29 + k) ≤ 31) {fr lw hg : Nat} (s : spn A fr lw hg) : ∀ k, k ≤ 2 ^ (hg - lw) → okO (lfN A) (flO (cRd A fr lw hg) k) := by
  intro k
  induction k with
  | zero => intro _; exact okO_none _
  | succ k ih => intro h; rw [flO]; exact okO_bet (ih (by omega)) (okO_c hdu s (by omega))
theorem oL_none {left : Nat} {x : Option (Int × List Nat)} (h : okO left x) (e : oT x = -1) : x = none := (oT_ok h).2.2.1.1 e
set_option maxHeartbeats 4000000 in
set_option maxRecDepth 100000 in
theorem lx_plan {d fr lw hg : Nat} (hd : 3 ≤ d) (hfr : fr < 8) (σ : gS) {A : Nat → Int} (hdu : ∀ k, k < 8 → 0 ≤ A (29 + k) ∧ A (29 + k) ≤ 31) (hd8 : dueR σ A) (sp : spn A fr lw hg) : ∀ (n : Nat) (k : Nat) (σ1 : gS) (l7 : Option Value), k ≤ 2 ^ (hg - lw) → chg crtA σ σ1 → bstR σ1 (flO (cRd A fr lw hg) k) → ((2 ^ (hg - lw) : Nat) : Int) - (k : Int) < (n : Int) → sE g_tt mX0_plan d (fun r σ' => r = some (.int (iZ (oT (mLy A (lfN A) fr 128)))) ∧ chg crtA σ σ' ∧ bstR σ' (mLy A (lfN A) fr 128)) 64 [some (.ref 337), some (.ref 8), some (.int (iZ (fr : Int))), some (.int (iZ (lw : Int))), some (.int (iZ (hg : Int))), some (.int (iZ ((hg - lw : Nat) : Int))), some (.int (iZ (k : Int))), l7] [] σ1 := by
  intro n
  induction n with
  | zero =>
    intro k σ1 l7 hk s1 bs hn
    exact absurd hn (by omega)
  | succ n ih =>
    intro k σ1 l7 hk s1 bs hn
    have s0 := sp.1
    have s2a := sp.2.1
    have s3a := sp.2.2.1
    have p7 : 2 ^ (hg - lw) ≤ 2 ^ 7 := Nat.pow_le_pow_right (by decide) (by omega)
    have p128 : (2 : Nat) ^ 7 = 128 := rfl
    have pb : pcB 7 k ≤ 7 := by rw [pcB_cB]; exact cB_le _ _ _
    refine q_iload dX0_plan_64 rfl ?_
    refine z_iconst dX0_plan_66 ?_
    refine q_iload dX0_plan_67 rfl ?_
    refine z_ishl (x := 1) (k := hg - lw) dX0_plan_69 (by omega) ?_
    refine z_top (y := ((2 ^ (hg - lw) : Nat) : Int)) (by simp) ?_
    refine z_icmp_ge (tgt := 123) dX0_plan_70 (by decide) (by unfold inR at *; omega) (by unfold inR at *; omega) (fun c_1 => ?_) (fun c_1 => ?_)
    · refine q_aload_n dX0_plan_123 rfl rfl ?_
      refine sg0 (kf := 2) (v := .int (iZ (oT (flO (cRd A fr lw hg) k)))) dX0_plan_124 flX0_19 (show kd 337 = 0 from rfl) (by decide) (by show some (Value.int (iZ (σ1.1 337 2))) = _; rw [bs.2.1]) ?_
      exact s_iretZ dX0_plan_127 rfl ⟨by rw [← cart_eq hdu sp, show 2 ^ (hg - lw) = k by omega], s1, by rw [← cart_eq hdu sp, show 2 ^ (hg - lw) = k by omega]; exact bs⟩
    · refine q_iload dX0_plan_73 rfl ?_
      refine s_callS (As := [.int (iZ (k : Int))]) (S := []) dX0_plan_75 okJ6_bitCount_0f7a4 mlX0_37 rfl (by omega) rfl (Nat.le_of_ble_eq_true rfl) (x_bitCount (d := d - 1) (n := k) (by omega) σ1) (fun v_ σ_ hq => ?_)
      obtain ⟨rfl, e9⟩ := hq
      have e9 := e9.symm
      subst e9
      show sE g_tt _ _ _ 78 [some (.ref 337), some (.ref 8), some (.int (iZ (fr : Int))), some (.int (iZ (lw : Int))), some (.int (iZ (hg : Int))), some (.int (iZ ((hg - lw : Nat) : Int))), some (.int (iZ (k : Int))), l7] [.int (iZ ((pcB 7 k : Nat) : Int))] σ1
      refine q_iload_n dX0_plan_78 rfl rfl ?_
      refine q_iload_n dX0_plan_79 rfl rfl ?_
      refine z_isub dX0_plan_80 ?_
      refine z_icmp_ne (tgt := 117) dX0_plan_81 (by decide) (by unfold inR; have := pb; omega) (by unfold inR at *; omega) (fun c_2 => ?_) (fun c_2 => ?_)
      · refine z_iinc dX0_plan_117 rfl (by decide) ?_
        show sE g_tt _ _ _ 120 [some (.ref 337), some (.ref 8), some (.int (iZ (fr : Int))), some (.int (iZ (lw : Int))), some (.int (iZ (hg : Int))), some (.int (iZ ((hg - lw : Nat) : Int))), some (.int (iZ ((k : Int) + 1))), l7] [] σ1
        refine q_goto (tgt := 64) dX0_plan_120 (by decide) ?_
        exact ih (k + 1) σ1 _ (by omega) s1 (by rw [flO, show (cRd A fr lw hg k) = none by (unfold cRd; rw [if_neg (by omega)]), bet_n]; exact bs) (by omega)
      · refine q_aload_n dX0_plan_84 rfl rfl ?_
        refine q_aload_n dX0_plan_85 rfl rfl ?_
        refine q_iload_n dX0_plan_86 rfl rfl ?_
        refine q_iload dX0_plan_87 rfl ?_
        refine q_iload dX0_plan_89 rfl ?_
        refine s_callV (ci := 0) (a := 337) (As := [.ref 8, .int (iZ (fr : Int)), .int (iZ (k : Int)), .int (iZ ((hg - lw : Nat) : Int))]) (S := []) dX0_plan_91 okX0_drive mlX0_43 rfl (by omega) rfl (Nat.le_of_ble_eq_true rfl) (show kd 337 = 0 from rfl) (by decide) rfl (x_drive (d := d - 1) (fr := fr) (tu := k) (st := hg - lw) (by omega) (by omega) (by omega) hfr σ1 hdu (dueR_cA hd8 s1)) (fun v_ σ_ hq => ?_)
        have eC : (cRd A fr lw hg k) = cDv A (fun i => k.testBit i) (hg - lw) 8 0 fr fr fr 0 (duT A fr 0 []) := by unfold cRd; rw [if_pos (by omega)]
        rw [← eC] at hq
        obtain ⟨rfl, hc2, h21, h22, h23⟩ := hq
        rename gS => σ2
        have oc := okO_c hdu sp (k := k) (by omega)
        have oo := oT_ok oc
        have of := okO_f hdu sp k (by omega)
        have og := oT_ok of
        have s2 : chg crtA σ σ2 := chg_tr s1 (chg_mono hc2 (fun a q => by unfold crtP at q; unfold crtA; omega))
        have b2 : bstR σ2 (flO (cRd A fr lw hg) k) := ⟨h21.trans bs.1, h22.trans bs.2.1, by rw [(hc2.1 338 (by unfold crtP; omega)).2.1]; exact bs.2.2⟩
        show sE g_tt _ _ _ 94 [some (.ref 337), some (.ref 8), some (.int (iZ (fr : Int))), some (.int (iZ (lw : Int))), some (.int (iZ (hg : Int))), some (.int (iZ ((hg - lw : Nat) : Int))), some (.int (iZ (k : Int))), l7] [.int (iZ (oT (cRd A fr lw hg k)))] σ2
        refine q_istore dX0_plan_94 (by decide) ?_
        show sE g_tt _ _ _ 96 [some (.ref 337), some (.ref 8), some (.int (iZ (fr : Int))), some (.int (iZ (lw : Int))), some (.int (iZ (hg : Int))), some (.int (iZ ((hg - lw : Nat) : Int))), some (.int (iZ (k : Int))), some (.int (iZ (oT (cRd A fr lw hg k))))] [] σ2
        refine q_iload dX0_plan_96 rfl ?_
        refine z_iconst dX0_plan_98 ?_
        refine z_icmp_eq (tgt := 117) dX0_plan_99 (by decide) (by have := oo.1; have := oo.2.1; unfold inR; omega) (by unfold inR at *; omega) (fun c_3 => ?_) (fun c_3 => ?_)
        · refine z_iinc dX0_plan_117 rfl (by decide) ?_
          show sE g_tt _ _ _ 120 [some (.ref 337), some (.ref 8), some (.int (iZ (fr : Int))), some (.int (iZ (lw : Int))), some (.int (iZ (hg : Int))), some (.int (iZ ((hg - lw : Nat) : Int))), some (.int (iZ ((k : Int) + 1))), some (.int (iZ (oT (cRd A fr lw hg k))))] [] σ2
          refine q_goto (tgt := 64) dX0_plan_120 (by decide) ?_
          exact ih (k + 1) σ2 _ (by omega) s2 (by rw [flO, bet_skip of oc (by (try unfold lexL at *); omega)]; exact b2) (by omega)
        · have nn : (cRd A fr lw hg k) ≠ none := fun z => c_3 (oo.2.2.1.2 z)
          have lb8 : (oL (flO (cRd A fr lw hg) k)).length ≤ 8 := by
            by_cases z : (flO (cRd A fr lw hg) k) = none
            · rw [z]; decide
            · rw [og.2.2.2.2 z]; exact lfN_8 A
          have lx := lexF_01 (lget (oL (cRd A fr lw hg k))) (lget (oL (flO (cRd A fr lw hg) k))) (oL (cRd A fr lw hg k)).length 0
          refine q_aload_n dX0_plan_102 rfl rfl ?_
          refine q_iload dX0_plan_103 rfl ?_
          refine s_callV (ci := 0) (a := 337) (As := [.int (iZ (oT (cRd A fr lw hg k)))]) (S := []) dX0_plan_105 okX0_isBetter mlX0_47 rfl (by omega) rfl (Nat.le_of_ble_eq_true rfl) (show kd 337 = 0 from rfl) (by decide) rfl (x_isBetter (d := d - 1) σ2 (l := oL (cRd A fr lw hg k)) (b := oL (flO (cRd A fr lw hg) k)) (t := oT (cRd A fr lw hg k)) (tb := oT (flO (cRd A fr lw hg) k)) (h23 nn).1 b2.1 b2.2.1 (h23 nn).2 b2.2.2 (fun z => by rw [oo.2.2.2.2 nn, og.2.2.2.2 (fun y => z (og.2.2.1.2 y))]) (by rw [oo.2.2.2.2 nn]; exact lfN_8 A) lb8 oo.2.2.2.1 og.2.2.2.1 (by unfold inR; omega) (by unfold inR; omega)) (fun v_ σ_ hq => ?_)
          obtain ⟨rfl, e9⟩ := hq
          have e9 := e9.symm
          subst e9
          show sE g_tt _ _ _ 108 [some (.ref 337), some (.ref 8), some (.int (iZ (fr : Int))), some (.int (iZ (lw : Int))), some (.int (iZ (hg : Int))), some (.int (iZ ((hg - lw : Nat) : Int))), some (.int (iZ (k : Int))), some (.int (iZ (oT (cRd A fr lw hg k))))] [.int (iZ (if oT (flO (cRd A fr lw hg) k) = -1 ∨ oT (cRd A fr lw hg k) < oT (flO (cRd A fr lw hg) k) ∨ (oT (cRd A fr lw hg k) = oT (flO (cRd A fr lw hg) k) ∧ lexL (oL (cRd A fr lw hg k)) (oL (flO (cRd A fr lw hg) k)) = 1) then 1 else 0))] σ2
          refine z_if_eq (tgt := 117) dX0_plan_108 (by decide) inR_01 (fun c_31 => ?_) (fun c_31 => ?_)
          · have c_31 := if01_0 c_31
            refine z_iinc dX0_plan_117 rfl (by decide) ?_
            show sE g_tt _ _ _ 120 [some (.ref 337), some (.ref 8), some (.int (iZ (fr : Int))), some (.int (iZ (lw : Int))), some (.int (iZ (hg : Int))), some (.int (iZ ((hg - lw : Nat) : Int))), some (.int (iZ ((k : Int) + 1))), some (.int (iZ (oT (cRd A fr lw hg k))))] [] σ2
            refine q_goto (tgt := 64) dX0_plan_120 (by decide) ?_
            exact ih (k + 1) σ2 _ (by omega) s2 (by rw [flO, bet_skip of oc (by (try unfold lexL at *); omega)]; exact b2) (by omega)
          · have c_31 := if01_1 c_31
            refine q_aload_n dX0_plan_111 rfl rfl ?_
            refine q_iload dX0_plan_112 rfl ?_
            refine s_callV (ci := 0) (a := 337) (As := [.int (iZ (oT (cRd A fr lw hg k)))]) (S := []) dX0_plan_114 okX0_keep mlX0_51 rfl (by omega) rfl (Nat.le_of_ble_eq_true rfl) (show kd 337 = 0 from rfl) (by decide) rfl (x_keepB (d := d - 1) (by omega) σ2 (l := oL (cRd A fr lw hg k)) (t := oT (cRd A fr lw hg k)) (h23 nn).1 (h23 nn).2 (by rw [oo.2.2.2.2 nn]; exact lfN_8 A)) (fun v_ σ_ hq => ?_)
            obtain ⟨rfl, hc3, h31, h32, h33⟩ := hq
            rename gS => σ3
            show sE g_tt _ _ _ 117 [some (.ref 337), some (.ref 8), some (.int (iZ (fr : Int))), some (.int (iZ (lw : Int))), some (.int (iZ (hg : Int))), some (.int (iZ ((hg - lw : Nat) : Int))), some (.int (iZ (k : Int))), some (.int (iZ (oT (cRd A fr lw hg k))))] [] σ3
            refine z_iinc dX0_plan_117 rfl (by decide) ?_
            show sE g_tt _ _ _ 120 [some (.ref 337), some (.ref 8), some (.int (iZ (fr : Int))), some (.int (iZ (lw : Int))), some (.int (iZ (hg : Int))), some (.int (iZ ((hg - lw : Nat) : Int))), some (.int (iZ ((k : Int) + 1))), some (.int (iZ (oT (cRd A fr lw hg k))))] [] σ3
            refine q_goto (tgt := 64) dX0_plan_120 (by decide) ?_
            exact ih (k + 1) σ3 _ (by omega) (chg_tr s2 hc3) (by rw [flO, bet_take of oc (by omega) (by unfold lexL at *; omega)]; exact ⟨h31, h32, h33⟩) (by omega)
def lwF (A : Nat → Int) (fr : Nat) : Nat → Nat
  | 0 => fr
  | k + 1 => if A (29 + k) = 0 then lwF A fr k else min (lwF A fr k) k
def hgF (A : Nat → Int) (fr : Nat) : Nat → Nat
  | 0 => fr
  | k + 1 => if A (29 + k) = 0 then hgF A fr k else max (hgF A fr k) k
theorem spn_k (A : Nat → Int) {fr : Nat} (hfr : fr < 8) : ∀ k, k ≤ 8 → (lwF A fr k ≤ fr ∧ fr ≤ hgF A fr k ∧ hgF A fr k < 8) ∧ (∀ h, h < k → ¬ A (29 + h) = 0 → lwF A fr k ≤ h ∧ h ≤ hgF A fr k) ∧ (lwF A fr k = fr ∨ ¬ A (29 + lwF A fr k) = 0) ∧ (hgF A fr k = fr ∨ ¬ A (29 + hgF A fr k) = 0) := by
  intro k
  induction k with
  | zero => intro _; exact ⟨⟨Nat.le_refl _, Nat.le_refl _, hfr⟩, fun h x => absurd x (by omega), Or.inl rfl, Or.inl rfl⟩
  | succ k ih =>
    intro hk
    obtain ⟨a, b, c, e⟩ := ih (by omega)
    rw [lwF, hgF]
    by_cases q : A (29 + k) = 0
    · rw [if_pos q, if_pos q]
      refine ⟨a, fun h x y => ?_, c, e⟩
      by_cases z : h = k
      · rw [z] at y; exact absurd q y
      · exact b h (by omega) y
    · rw [if_neg q, if_neg q]
      refine ⟨by omega, fun h x y => ?_, ?_, ?_⟩
      · by_cases z : h = k
        · omega
        · have := b h (by omega) y; omega
      · by_cases z : lwF A fr k ≤ k
        · rw [Nat.min_eq_left z]; exact c
        · rw [Nat.min_eq_right (by omega)]; exact Or.inr q
      · by_cases z : k ≤ hgF A fr k
        · rw [Nat.max_eq_left z]; exact e
        · rw [Nat.max_eq_right (by omega)]; exact Or.inr q
theorem spn_8 (A : Nat → Int) {fr : Nat} (hfr : fr < 8) : spn A fr (lwF A fr 8) (hgF A fr 8) := by
  obtain ⟨a, b, c, e⟩ := spn_k A hfr 8 (by omega)
  exact ⟨a.1, a.2.1, a.2.2, b, c, e⟩
set_option maxHeartbeats 4000000 in
set_option maxRecDepth 100000 in
theorem lx_plan0 {d fr : Nat} (hd : 3 ≤ d) (hfr : fr < 8) (σ : gS) {A : Nat → Int} (hdu : ∀ k, k < 8 → 0 ≤ A (29 + k) ∧ A (29 + k) ≤ 31) (hd8 : dueR σ A) : ∀ (n : Nat) (k : Nat), k ≤ 8 → 8 - (k : Int) < (n : Int) → sE g_tt mX0_plan d (fun r σ' => r = some (.int (iZ (oT (mLy A (lfN A) fr 128)))) ∧ chg crtA σ σ' ∧ bstR σ' (mLy A (lfN A) fr 128)) 8 [some (.ref 337), some (.ref 8), some (.int (iZ (fr : Int))), some (.int (iZ ((lwF A fr k : Nat) : Int))), some (.int (iZ ((hgF A fr k : Nat) : Int))), some (.int (iZ (k : Int))), none, none] [] σ := by
  intro n
  induction n with
  | zero =>
    intro k hk hn
    exact absurd hn (by omega)
  | succ n ih =>
    intro k hk hn
    have sk := (spn_k A hfr k hk).1
    have dk : k < 8 → 0 ≤ A (29 + k) ∧ A (29 + k) ≤ 31 := hdu k
    refine q_iload dX0_plan_8 rfl ?_
    refine z_bipush dX0_plan_10 (by decide +kernel) ?_
    refine z_icmp_ge (tgt := 45) dX0_plan_12 (by decide) (by unfold inR at *; omega) (by unfold inR at *; omega) (fun c_1 => ?_) (fun c_1 => ?_)
    · refine q_aload_n dX0_plan_45 rfl rfl ?_
      refine z_iconst dX0_plan_46 ?_
      refine sp0 (kf := 2) dX0_plan_47 flX0_19 (show kd 337 = 0 from rfl) (by decide) ?_
      refine q_aload_n dX0_plan_50 rfl rfl ?_
      refine z_iconst dX0_plan_51 ?_
      refine sp0 (kf := 1) dX0_plan_52 flX0_15 (show kd 337 = 0 from rfl) (by decide) ?_
      refine q_iload dX0_plan_55 rfl ?_
      refine q_iload_n dX0_plan_57 rfl rfl ?_
      refine z_isub dX0_plan_58 ?_
      refine q_istore dX0_plan_59 (by decide) ?_
      show sE g_tt _ _ _ 61 [some (.ref 337), some (.ref 8), some (.int (iZ (fr : Int))), some (.int (iZ ((lwF A fr k : Nat) : Int))), some (.int (iZ ((hgF A fr k : Nat) : Int))), some (.int (iZ (((hgF A fr k : Nat) : Int) - ((lwF A fr k : Nat) : Int)))), none, none] [] (sI (sI σ 337 2 (-1)) 337 1 0)
      refine z_iconst dX0_plan_61 ?_
      refine q_istore dX0_plan_62 (by decide) ?_
      show sE g_tt _ _ _ 64 [some (.ref 337), some (.ref 8), some (.int (iZ (fr : Int))), some (.int (iZ ((lwF A fr k : Nat) : Int))), some (.int (iZ ((hgF A fr k : Nat) : Int))), some (.int (iZ (((hgF A fr k : Nat) : Int) - ((lwF A fr k : Nat) : Int)))), some (.int (iZ 0)), none] [] (sI (sI σ 337 2 (-1)) 337 1 0)
      show sE g_tt _ _ _ 64 [some (.ref 337), some (.ref 8), some (.int (iZ (fr : Int))), some (.int (iZ ((lwF A fr k : Nat) : Int))), some (.int (iZ ((hgF A fr k : Nat) : Int))), some (.int (iZ (((hgF A fr k : Nat) : Int) - ((lwF A fr k : Nat) : Int)))), some (.int (iZ 0)), none] [] (sI (sI σ 337 2 (-1)) 337 1 0)
      have c2 : chg crtA σ (sI (sI σ 337 2 (-1)) 337 1 0) := chg_tr (chg_mono (chg_sI σ 337 2 (-1)) (fun a q => Or.inl q)) (chg_mono (chg_sI _ 337 1 0) (fun a q => Or.inl q))
      obtain rfl : k = 8 := by omega
      have sp := spn_8 A hfr
      have e5 : ((hgF A fr 8 : Nat) : Int) - ((lwF A fr 8 : Nat) : Int) = ((hgF A fr 8 - lwF A fr 8 : Nat) : Int) := by have := sp.1; have := sp.2.1; omega
      rw [e5]
      refine sE_imp ?_ (lx_plan hd hfr (sI (sI σ 337 2 (-1)) 337 1 0) hdu (dueR_cA hd8 c2) sp (2 ^ (hgF A fr 8 - lwF A fr 8) + 1) 0 (sI (sI σ 337 2 (-1)) 337 1 0) none (Nat.zero_le _) (chg_rf _ _) ⟨up2_at (up2 σ.1 337 2 (-1)) 337 1 0, (up2_k (a := 337) (k := 1) (j := 2) (up2 σ.1 337 2 (-1)) 0 (by decide)).trans (up2_at σ.1 337 2 (-1)), lrow_nil _⟩ (by omega))
      rintro v s ⟨a, b, e⟩
      exact ⟨a, chg_tr c2 b, e⟩
    · refine q_aload_n dX0_plan_15 rfl rfl ?_
      refine q_iload dX0_plan_16 rfl ?_
      refine s_iald (n := 8) (x := A (29 + k) - 1) dX0_plan_18 (show kd 8 = 100 + 8 from rfl) (by omega) (by omega) (by decide) (hd8 k (by omega)) ?_
      refine z_iconst dX0_plan_19 ?_
      refine z_icmp_eq (tgt := 39) dX0_plan_20 (by decide) (by unfold inR at *; omega) (by unfold inR at *; omega) (fun c_2 => ?_) (fun c_2 => ?_)
      · refine z_iinc dX0_plan_39 rfl (by decide) ?_
        show sE g_tt _ _ _ 42 [some (.ref 337), some (.ref 8), some (.int (iZ (fr : Int))), some (.int (iZ ((lwF A fr k : Nat) : Int))), some (.int (iZ ((hgF A fr k : Nat) : Int))), some (.int (iZ ((k : Int) + 1))), none, none] [] σ
        refine q_goto (tgt := 8) dX0_plan_42 (by decide) ?_
        have k9 := ih (k + 1) (by omega) (by omega)
        have e1 : lwF A fr (k + 1) = lwF A fr k := by rw [lwF, if_pos (by omega)]
        have e2 : hgF A fr (k + 1) = hgF A fr k := by rw [hgF, if_pos (by omega)]
        rw [e1, e2] at k9
        exact k9
      · refine q_iload_n dX0_plan_23 rfl rfl ?_
        refine q_iload dX0_plan_24 rfl ?_
        refine z_mmin dX0_plan_26 mlX0_28 (by omega) (Nat.le_of_ble_eq_true rfl) (by unfold inR at *; omega) (by unfold inR at *; omega) ?_
        refine q_istore_n dX0_plan_29 rfl (by decide) ?_
        show sE g_tt _ _ _ 30 [some (.ref 337), some (.ref 8), some (.int (iZ (fr : Int))), some (.int (iZ (min ((lwF A fr k : Nat) : Int) (k : Int)))), some (.int (iZ ((hgF A fr k : Nat) : Int))), some (.int (iZ (k : Int))), none, none] [] σ
        refine q_iload dX0_plan_30 rfl ?_
        refine q_iload dX0_plan_32 rfl ?_
        refine z_mmax dX0_plan_34 mlX0_34 (by omega) (Nat.le_of_ble_eq_true rfl) (by unfold inR at *; omega) (by unfold inR at *; omega) ?_
        refine q_istore dX0_plan_37 (by decide) ?_
        show sE g_tt _ _ _ 39 [some (.ref 337), some (.ref 8), some (.int (iZ (fr : Int))), some (.int (iZ (min ((lwF A fr k : Nat) : Int) (k : Int)))), some (.int (iZ (max ((hgF A fr k : Nat) : Int) (k : Int)))), some (.int (iZ (k : Int))), none, none] [] σ
        refine z_iinc dX0_plan_39 rfl (by decide) ?_
        show sE g_tt _ _ _ 42 [some (.ref 337), some (.ref 8), some (.int (iZ (fr : Int))), some (.int (iZ (min ((lwF A fr k : Nat) : Int) (k : Int)))), some (.int (iZ (max ((hgF A fr k : Nat) : Int) (k : Int)))), some (.int (iZ ((k : Int) + 1))), none, none] [] σ
        refine q_goto (tgt := 8) dX0_plan_42 (by decide) ?_
        have k9 := ih (k + 1) (by omega) (by omega)
        have e1 : ((lwF A fr (k + 1) : Nat) : Int) = min ((lwF A fr k : Nat) : Int) (k : Int) := by rw [lwF, if_neg (by omega)]; omega
        have e2 : ((hgF A fr (k + 1) : Nat) : Int) = max ((hgF A fr k : Nat) : Int) (k : Int) := by rw [hgF, if_neg (by omega)]; omega
        rw [e1, e2] at k9
        exact k9
set_option maxHeartbeats 4000000 in
set_option maxRecDepth 100000 in
theorem x_plan {d fr : Nat} (hd : 3 ≤ d) (hfr : fr < 8) (σ : gS) {A : Nat → Int} (hdu : ∀ k, k < 8 → 0 ≤ A (29 + k) ∧ A (29 + k) ≤ 31) (hd8 : dueR σ A) : sC mX0_plan d [.ref 337, .ref 8, .int (iZ (fr : Int))] σ (fun r σ' => r = some (.int (iZ (oT (mLy A (lfN A) fr 128)))) ∧ chg crtA σ σ' ∧ bstR σ' (mLy A (lfN A) fr 128)) := by
  refine sC_of rfl (Nat.le_of_ble_eq_true rfl) ?_
  show sE g_tt _ _ _ 0 [some (.ref 337), some (.ref 8), some (.int (iZ (fr : Int))), none, none, none, none, none] [] σ
  refine q_iload_n dX0_plan_0 rfl rfl ?_
  refine q_istore_n dX0_plan_1 rfl (by decide) ?_
  show sE g_tt _ _ _ 2 [some (.ref 337), some (.ref 8), some (.int (iZ (fr : Int))), some (.int (iZ (fr : Int))), none, none, none, none] [] σ
  refine q_iload_n dX0_plan_2 rfl rfl ?_
  refine q_istore dX0_plan_3 (by decide) ?_
  show sE g_tt _ _ _ 5 [some (.ref 337), some (.ref 8), some (.int (iZ (fr : Int))), some (.int (iZ (fr : Int))), some (.int (iZ (fr : Int))), none, none, none] [] σ
  refine z_iconst dX0_plan_5 ?_
  refine q_istore dX0_plan_6 (by decide) ?_
  show sE g_tt _ _ _ 8 [some (.ref 337), some (.ref 8), some (.int (iZ (fr : Int))), some (.int (iZ (fr : Int))), some (.int (iZ (fr : Int))), some (.int (iZ 0)), none, none] [] σ
  exact lx_plan0 hd hfr σ hdu hd8 9 0 (by omega) (by omega)
set_option maxHeartbeats 4000000 in
set_option maxRecDepth 100000 in
theorem x_cart {d fr : Nat} (hd : 5 ≤ d) (hfr : fr < 8) (σ : gS) {W V : wF} {A I : Nat → Int} {c nt : Int} (hc : c ≤ 88000) (hn4 : nt ≤ 4) (ok : okR c nt A) (oi : okR c (I 1) I) (C : clR σ W V A I) : sC mX6_cart d [.ref 0, .int (iZ (fr : Int))] σ (fun r σ' => r = some (.int (iZ (oT (mLy A (lfN A) fr 128)))) ∧ chg scrQ σ σ') := by
  have hdu := ok.2.2.2.2.2.1
  refine sC_of rfl (Nat.le_of_ble_eq_true rfl) ?_
  show sE g_tt _ _ _ 0 [some (.ref 0), some (.int (iZ (fr : Int)))] [] σ
  refine q_iload_n dX6_cart_0 rfl rfl ?_
  refine s_callS (As := [.int (iZ (fr : Int))]) (S := []) dX6_cart_1 okX6_isHouse mlX6_68 rfl (by omega) rfl (Nat.le_of_ble_eq_true rfl) (c_isHouse (d := d - 1) (z := (fr : Int)) (by unfold inR at *; omega) σ) (fun v_ σ_ hq => ?_)
  obtain ⟨rfl, e9⟩ := hq
  have e9 := e9.symm
  subst e9
  show sE g_tt _ _ _ 4 [some (.ref 0), some (.int (iZ (fr : Int)))] [.int (iZ (if 0 ≤ (fr : Int) ∧ (fr : Int) < 8 then 1 else 0))] σ
  refine z_if_eq (tgt := 25) dX6_cart_4 (by decide) inR_01 (fun c_1 => ?_) (fun c_1 => ?_)
  · have c_1 := if01_0 c_1
    exfalso
    omega
  · have c_1 := if01_1 c_1
    refine q_aload_n dX6_cart_7 rfl rfl ?_
    refine sg6 (kf := 9) (v := .ref 337) dX6_cart_8 flX6_63 (show kd 0 = 6 from rfl) (by decide) rfl ?_
    refine q_aload_n dX6_cart_11 rfl rfl ?_
    refine sg6 (kf := 0) (v := .ref 1) dX6_cart_12 flX6_10 (show kd 0 = 6 from rfl) (by decide) rfl ?_
    refine sg5 (kf := 3) (v := .ref 8) dX6_cart_15 flX6_278 (show kd 1 = 5 from rfl) (by decide) rfl ?_
    refine q_iload_n dX6_cart_18 rfl rfl ?_
    refine s_callV (ci := 0) (a := 337) (As := [.ref 8, .int (iZ (fr : Int))]) (S := []) dX6_cart_19 okX0_plan mlX6_281 rfl (by omega) rfl (Nat.le_of_ble_eq_true rfl) (show kd 337 = 0 from rfl) (by decide) rfl (x_plan (d := d - 1) (by omega) hfr σ hdu C.1.2.2.1) (fun v_ σ_ hq => ?_)
    obtain ⟨rfl, hc1, b1⟩ := hq
    rename gS => σ1
    have s1 : chg scrQ σ σ1 := chg_mono hc1 (fun a q => by unfold crtA at q; unfold scrQ; omega)
    show sE g_tt _ _ _ 22 [some (.ref 0), some (.int (iZ (fr : Int)))] [.int (iZ (oT (mLy A (lfN A) fr 128)))] σ1
    refine q_goto (tgt := 26) dX6_cart_22 (by decide) ?_
    exact s_iretZ dX6_cart_26 rfl ⟨rfl, s1⟩
set_option maxHeartbeats 4000000 in
set_option maxRecDepth 100000 in
theorem x_cart0 {d : Nat} (hd : 1 ≤ d) {h : Int} (hh : inR h) (hno : ¬ (0 ≤ h ∧ h < 8)) (σ : gS) : sC mX6_cart d [.ref 0, .int (iZ h)] σ (fun r σ' => r = some (.int (iZ (-1))) ∧ σ' = σ) := by
  refine sC_of rfl (Nat.le_of_ble_eq_true rfl) ?_
  show sE g_tt _ _ _ 0 [some (.ref 0), some (.int (iZ h))] [] σ
  refine q_iload_n dX6_cart_0 rfl rfl ?_
  refine s_callS (As := [.int (iZ h)]) (S := []) dX6_cart_1 okX6_isHouse mlX6_68 rfl (by omega) rfl (Nat.le_of_ble_eq_true rfl) (c_isHouse (d := d - 1) (z := h) (by unfold inR at *; omega) σ) (fun v_ σ_ hq => ?_)
  obtain ⟨rfl, e9⟩ := hq
  have e9 := e9.symm
  subst e9
  show sE g_tt _ _ _ 4 [some (.ref 0), some (.int (iZ h))] [.int (iZ (if 0 ≤ h ∧ h < 8 then 1 else 0))] σ
  refine z_if_eq (tgt := 25) dX6_cart_4 (by decide) inR_01 (fun c_1 => ?_) (fun c_1 => ?_)
  · have c_1 := if01_0 c_1
    refine z_iconst dX6_cart_25 ?_
    exact s_iretZ dX6_cart_26 rfl ⟨rfl, rfl⟩
  · have c_1 := if01_1 c_1
    exfalso
    omega
set_option maxHeartbeats 4000000 in
set_option maxRecDepth 100000 in
theorem x_round {d fr : Nat} (hd : 5 ≤ d) (hfr : fr < 8) {i : Int} (hi : inR i) (σ : gS) {W V : wF} {A I : Nat → Int} {c nt : Int} (hc : c ≤ 88000) (hn4 : nt ≤ 4) (ok : okR c nt A) (oi : okR c (I 1) I) (C : clR σ W V A I) : sC mX6_round d [.ref 0, .int (iZ (fr : Int)), .int (iZ i)] σ (fun r σ' => r = some (.int (iZ (if (0 ≤ i ∧ i < ((lfN A : Nat) : Int)) ∧ ¬ oT (mLy A (lfN A) fr 128) = -1 then lget (oL (mLy A (lfN A) fr 128)) i.toNat else -2))) ∧ chg scrQ σ σ') := by
  have hdu := ok.2.2.2.2.2.1
  have om := oT_ok (okO_mLy A hfr (left := lfN A) (fun z => lfN_1 hfr (by have := hdu fr hfr; omega)) 128)
  have l9 := lfN_8 A
  have ln : ¬ oT (mLy A (lfN A) fr 128) = -1 → (oL (mLy A (lfN A) fr 128)).length = lfN A := fun z => om.2.2.2.2 (fun y => z (om.2.2.1.2 y))
  have ll : (oL (mLy A (lfN A) fr 128)).length ≤ 8 := by
    by_cases z : oT (mLy A (lfN A) fr 128) = -1
    · rw [om.2.2.1.1 z]; decide
    · rw [ln z]; exact l9
  refine sC_of rfl (Nat.le_of_ble_eq_true rfl) ?_
  show sE g_tt _ _ _ 0 [some (.ref 0), some (.int (iZ (fr : Int))), some (.int (iZ i))] [] σ
  refine q_iload_n dX6_round_0 rfl rfl ?_
  refine s_callS (As := [.int (iZ (fr : Int))]) (S := []) dX6_round_1 okX6_isHouse mlX6_68 rfl (by omega) rfl (Nat.le_of_ble_eq_true rfl) (c_isHouse (d := d - 1) (z := (fr : Int)) (by unfold inR at *; omega) σ) (fun v_ σ_ hq => ?_)
  obtain ⟨rfl, e9⟩ := hq
  have e9 := e9.symm
  subst e9
  show sE g_tt _ _ _ 4 [some (.ref 0), some (.int (iZ (fr : Int))), some (.int (iZ i))] [.int (iZ (if 0 ≤ (fr : Int) ∧ (fr : Int) < 8 then 1 else 0))] σ
  refine z_if_eq (tgt := 26) dX6_round_4 (by decide) inR_01 (fun c_1 => ?_) (fun c_1 => ?_)
  · have c_1 := if01_0 c_1
    exfalso
    omega
  · have c_1 := if01_1 c_1
    refine q_aload_n dX6_round_7 rfl rfl ?_
    refine sg6 (kf := 9) (v := .ref 337) dX6_round_8 flX6_63 (show kd 0 = 6 from rfl) (by decide) rfl ?_
    refine q_aload_n dX6_round_11 rfl rfl ?_
    refine sg6 (kf := 0) (v := .ref 1) dX6_round_12 flX6_10 (show kd 0 = 6 from rfl) (by decide) rfl ?_
    refine sg5 (kf := 3) (v := .ref 8) dX6_round_15 flX6_278 (show kd 1 = 5 from rfl) (by decide) rfl ?_
    refine q_iload_n dX6_round_18 rfl rfl ?_
    refine s_callV (ci := 0) (a := 337) (As := [.ref 8, .int (iZ (fr : Int))]) (S := []) dX6_round_19 okX0_plan mlX6_281 rfl (by omega) rfl (Nat.le_of_ble_eq_true rfl) (show kd 337 = 0 from rfl) (by decide) rfl (x_plan (d := d - 1) (by omega) hfr σ hdu C.1.2.2.1) (fun v_ σ_ hq => ?_)
    obtain ⟨rfl, hc1, b1⟩ := hq
    rename gS => σ1
    have s1 : chg scrQ σ σ1 := chg_mono hc1 (fun a q => by unfold crtA at q; unfold scrQ; omega)
    show sE g_tt _ _ _ 22 [some (.ref 0), some (.int (iZ (fr : Int))), some (.int (iZ i))] [.int (iZ (oT (mLy A (lfN A) fr 128)))] σ1
    refine z_iconst dX6_round_22 ?_
    refine z_icmp_ne (tgt := 29) dX6_round_23 (by decide) (by unfold inR; omega) (by unfold inR at *; omega) (fun c_2 => ?_) (fun c_2 => ?_)
    · refine q_iload_n dX6_round_29 rfl rfl ?_
      refine z_if_lt (tgt := 56) dX6_round_30 (by decide) (by unfold inR at *; omega) (fun c_3 => ?_) (fun c_3 => ?_)
      · refine z_bipush dX6_round_56 (by decide +kernel) ?_
        exact s_iretZ dX6_round_58 rfl ⟨by first | (rw [if_pos (by omega)]; done) | (rw [if_neg (by omega)]; done), s1⟩
      · refine q_iload_n dX6_round_33 rfl rfl ?_
        refine q_aload_n dX6_round_34 rfl rfl ?_
        refine sg6 (kf := 9) (v := .ref 337) dX6_round_35 flX6_63 (show kd 0 = 6 from rfl) (by decide) rfl ?_
        refine sg0 (kf := 1) (v := .int (iZ (((oL (mLy A (lfN A) fr 128)).length : Nat) : Int))) dX6_round_38 flX6_285 (show kd 337 = 0 from rfl) (by decide) (by show some (Value.int (iZ (σ1.1 337 1))) = _; rw [b1.1]) ?_
        refine z_icmp_ge (tgt := 56) dX6_round_41 (by decide) (by unfold inR at *; omega) (by unfold inR at *; omega) (fun c_4 => ?_) (fun c_4 => ?_)
        · refine z_bipush dX6_round_56 (by decide +kernel) ?_
          exact s_iretZ dX6_round_58 rfl ⟨by first | (rw [if_pos (by omega)]; done) | (rw [if_neg (by omega)]; done), s1⟩
        · refine q_aload_n dX6_round_44 rfl rfl ?_
          refine sg6 (kf := 9) (v := .ref 337) dX6_round_45 flX6_63 (show kd 0 = 6 from rfl) (by decide) rfl ?_
          refine sg0 (kf := 0) (v := .ref 338) dX6_round_48 flX6_288 (show kd 337 = 0 from rfl) (by decide) rfl ?_
          refine q_iload_n dX6_round_51 rfl rfl ?_
          refine s_iald (n := 8) (x := lget (oL (mLy A (lfN A) fr 128)) i.toNat) dX6_round_52 (show kd 338 = 100 + 8 from rfl) (by omega) (by omega) (by decide) (lget_row b1.2.2 (by omega)) ?_
          refine q_goto (tgt := 58) dX6_round_53 (by decide) ?_
          exact s_iretZ dX6_round_58 rfl ⟨by first | (rw [if_pos (by omega)]; done) | (rw [if_neg (by omega)]; done), s1⟩
    · refine z_bipush dX6_round_26 (by decide +kernel) ?_
      exact s_iretZ dX6_round_28 rfl ⟨by first | (rw [if_pos (by omega)]; done) | (rw [if_neg (by omega)]; done), s1⟩
set_option maxHeartbeats 4000000 in
set_option maxRecDepth 100000 in
theorem x_round0 {d : Nat} (hd : 1 ≤ d) {h i : Int} (hh : inR h) (hno : ¬ (0 ≤ h ∧ h < 8)) (σ : gS) : sC mX6_round d [.ref 0, .int (iZ h), .int (iZ i)] σ (fun r σ' => r = some (.int (iZ (-2))) ∧ σ' = σ) := by
  refine sC_of rfl (Nat.le_of_ble_eq_true rfl) ?_
  show sE g_tt _ _ _ 0 [some (.ref 0), some (.int (iZ h)), some (.int (iZ i))] [] σ
  refine q_iload_n dX6_round_0 rfl rfl ?_
  refine s_callS (As := [.int (iZ h)]) (S := []) dX6_round_1 okX6_isHouse mlX6_68 rfl (by omega) rfl (Nat.le_of_ble_eq_true rfl) (c_isHouse (d := d - 1) (z := h) (by unfold inR at *; omega) σ) (fun v_ σ_ hq => ?_)
  obtain ⟨rfl, e9⟩ := hq
  have e9 := e9.symm
  subst e9
  show sE g_tt _ _ _ 4 [some (.ref 0), some (.int (iZ h)), some (.int (iZ i))] [.int (iZ (if 0 ≤ h ∧ h < 8 then 1 else 0))] σ
  refine z_if_eq (tgt := 26) dX6_round_4 (by decide) inR_01 (fun c_1 => ?_) (fun c_1 => ?_)
  · have c_1 := if01_0 c_1
    refine z_bipush dX6_round_26 (by decide +kernel) ?_
    exact s_iretZ dX6_round_28 rfl ⟨rfl, rfl⟩
  · have c_1 := if01_1 c_1
    exfalso
    omega
