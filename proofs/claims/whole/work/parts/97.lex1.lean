/-! ===== the class's tape: scan ===== -/
theorem i2c_256 : ∀ n : Nat, n < 256 → ((iZ (n : Int)).toUInt32 % 65536).toInt32 = iZ (n : Int) := by decide +kernel
theorem z_i2cN {Y : gY} {M : gM} {d : Nat} {b : gB} {Q : Option Value → gH → Prop} {pc : Nat} {L : List (Option Value)} {S : List Value} {h : gH} {x : Int} (hd : decode M.2.1 pc = .ok (.i2c, 1)) (h0 : 0 ≤ x ∧ x < 256) (k : gE Y M d b Q (pc + 1) L (.int (iZ x) :: S) h) : gE Y M d b Q pc L (.int (iZ x) :: S) h := by
  refine q_i2c hd ?_
  obtain ⟨n, rfl⟩ : ∃ n : Nat, x = (n : Int) := ⟨x.toNat, by omega⟩
  rw [i2c_256 n (by omega)]
  exact k
def lexP (a : Nat) : Prop := a = 328 ∨ a = 330 ∨ a = 331 ∨ a = 332
/-- the tape under way: k tokens are there, it stands at p -/
def lxR (σ σ1 : gS) (k p : Nat) (tk st nu : Nat → Int) : Prop := chg lexP σ σ1 ∧ σ1.1 328 1 = σ.1 328 1 ∧ σ1.1 328 5 = (k : Int) ∧ σ1.1 328 6 = (p : Int) ∧ ∀ i, i < k → σ1.2.1 330 i = tk i ∧ σ1.2.1 331 i = st i ∧ σ1.2.1 332 i = nu i
theorem lx_b {σ σ1 : gS} {k p : Nat} {tk st nu : Nat → Int} (h : lxR σ σ1 k p tk st nu) : σ1.2.1 329 = σ.2.1 329 := (h.1.1 329 (by unfold lexP; omega)).2.1
theorem lx_at {σ σ1 : gS} {k p : Nat} {tk st nu : Nat → Int} (h : lxR σ σ1 k p tk st nu) (q : Nat) : lxR σ (sI σ1 328 6 (q : Int)) k q tk st nu :=
  ⟨chg_tr h.1 (chg_mono (chg_sI σ1 328 6 _) (fun a e => Or.inl e)), (up2_k (a := 328) (k := 6) (j := 1) σ1.1 (q : Int) (by decide)).trans h.2.1, (up2_k (a := 328) (k := 6) (j := 5) σ1.1 (q : Int) (by decide)).trans h.2.2.1, up2_at σ1.1 328 6 (q : Int), h.2.2.2.2⟩
abbrev adS (σ : gS) (k : Nat) (t s u : Int) : gS := sI (sR (sR (sR σ 330 k t) 331 k s) 332 k u) 328 5 ((k : Int) + 1)
theorem lx_add {σ σ1 : gS} {k p : Nat} {tk st nu : Nat → Int} (h : lxR σ σ1 k p tk st nu) {t s u : Int} (h1 : tk k = t) (h2 : st k = s) (h3 : nu k = u) : lxR σ (adS σ1 k t s u) (k + 1) p tk st nu := by
  refine ⟨chg_tr h.1 (chg_tr (chg_mono (chg_sR σ1 330 k t) (fun a e => Or.inr (Or.inl e))) (chg_tr (chg_mono (chg_sR _ 331 k s) (fun a e => Or.inr (Or.inr (Or.inl e)))) (chg_tr (chg_mono (chg_sR _ 332 k u) (fun a e => Or.inr (Or.inr (Or.inr e)))) (chg_mono (chg_sI _ 328 5 _) (fun a e => Or.inl e))))), (up2_k (a := 328) (k := 5) (j := 1) σ1.1 ((k : Int) + 1) (by decide)).trans h.2.1, (up2_at σ1.1 328 5 ((k : Int) + 1)).trans (by omega), (up2_k (a := 328) (k := 5) (j := 6) σ1.1 ((k : Int) + 1) (by decide)).trans h.2.2.2.1, fun i hi => ?_⟩
  have e0 : (adS σ1 k t s u).2.1 330 = va_up (σ1.2.1 330) k t := up2_eq σ1.2.1 330 k t
  have e1 : (adS σ1 k t s u).2.1 331 = va_up (σ1.2.1 331) k s := up2_eq (up2 σ1.2.1 330 k t) 331 k s
  have e2 : (adS σ1 k t s u).2.1 332 = va_up (σ1.2.1 332) k u := up2_eq (up2 (up2 σ1.2.1 330 k t) 331 k s) 332 k u
  rw [e0, e1, e2]
  by_cases q : i = k
  · rw [q, va_up_self, va_up_self, va_up_self]; exact ⟨h1.symm, h2.symm, h3.symm⟩
  · rw [va_up_ne _ _ q, va_up_ne _ _ q, va_up_ne _ _ q]; exact h.2.2.2.2 i (by omega)
set_option maxHeartbeats 4000000 in
set_option maxRecDepth 100000 in
theorem x_isLetter {d : Nat} {c : Int} (hc : inR c) (σ : gS) : sC mX3_isLetter d [.int (iZ c)] σ (fun r σ' => r = some (.int (iZ (if isLt c then 1 else 0))) ∧ σ' = σ) := by
  refine sC_of rfl (Nat.le_of_ble_eq_true rfl) ?_
  show sE g_tt _ _ _ 0 [some (.int (iZ c))] [] σ
  refine q_iload_n dX3_isLetter_0 rfl rfl ?_
  refine z_bipush dX3_isLetter_1 (by decide +kernel) ?_
  refine z_icmp_lt (tgt := 12) dX3_isLetter_3 (by decide) (by unfold inR at *; omega) (by unfold inR at *; omega) (fun c_1 => ?_) (fun c_1 => ?_)
  · refine q_iload_n dX3_isLetter_12 rfl rfl ?_
    refine z_bipush dX3_isLetter_13 (by decide +kernel) ?_
    refine z_icmp_lt (tgt := 28) dX3_isLetter_15 (by decide) (by unfold inR at *; omega) (by unfold inR at *; omega) (fun c_2 => ?_) (fun c_2 => ?_)
    · refine z_iconst dX3_isLetter_28 ?_
      exact s_zret dX3_isLetter_29 rfl (by omega) ⟨by first | (rw [if_pos (by omega)]; done) | (rw [if_neg (by omega)]; done), rfl⟩
    · refine q_iload_n dX3_isLetter_18 rfl rfl ?_
      refine z_bipush dX3_isLetter_19 (by decide +kernel) ?_
      refine z_icmp_gt (tgt := 28) dX3_isLetter_21 (by decide) (by unfold inR at *; omega) (by unfold inR at *; omega) (fun c_3 => ?_) (fun c_3 => ?_)
      · refine z_iconst dX3_isLetter_28 ?_
        exact s_zret dX3_isLetter_29 rfl (by omega) ⟨by first | (rw [if_pos (by omega)]; done) | (rw [if_neg (by omega)]; done), rfl⟩
      · refine z_iconst dX3_isLetter_24 ?_
        refine q_goto (tgt := 29) dX3_isLetter_25 (by decide) ?_
        exact s_zret dX3_isLetter_29 rfl (by omega) ⟨by first | (rw [if_pos (by omega)]; done) | (rw [if_neg (by omega)]; done), rfl⟩
  · refine q_iload_n dX3_isLetter_6 rfl rfl ?_
    refine z_bipush dX3_isLetter_7 (by decide +kernel) ?_
    refine z_icmp_le (tgt := 24) dX3_isLetter_9 (by decide) (by unfold inR at *; omega) (by unfold inR at *; omega) (fun c_4 => ?_) (fun c_4 => ?_)
    · refine z_iconst dX3_isLetter_24 ?_
      refine q_goto (tgt := 29) dX3_isLetter_25 (by decide) ?_
      exact s_zret dX3_isLetter_29 rfl (by omega) ⟨by first | (rw [if_pos (by omega)]; done) | (rw [if_neg (by omega)]; done), rfl⟩
    · refine q_iload_n dX3_isLetter_12 rfl rfl ?_
      refine z_bipush dX3_isLetter_13 (by decide +kernel) ?_
      refine z_icmp_lt (tgt := 28) dX3_isLetter_15 (by decide) (by unfold inR at *; omega) (by unfold inR at *; omega) (fun c_5 => ?_) (fun c_5 => ?_)
      · refine z_iconst dX3_isLetter_28 ?_
        exact s_zret dX3_isLetter_29 rfl (by omega) ⟨by first | (rw [if_pos (by omega)]; done) | (rw [if_neg (by omega)]; done), rfl⟩
      · refine q_iload_n dX3_isLetter_18 rfl rfl ?_
        refine z_bipush dX3_isLetter_19 (by decide +kernel) ?_
        refine z_icmp_gt (tgt := 28) dX3_isLetter_21 (by decide) (by unfold inR at *; omega) (by unfold inR at *; omega) (fun c_6 => ?_) (fun c_6 => ?_)
        · refine z_iconst dX3_isLetter_28 ?_
          exact s_zret dX3_isLetter_29 rfl (by omega) ⟨by first | (rw [if_pos (by omega)]; done) | (rw [if_neg (by omega)]; done), rfl⟩
        · refine z_iconst dX3_isLetter_24 ?_
          refine q_goto (tgt := 29) dX3_isLetter_25 (by decide) ?_
          exact s_zret dX3_isLetter_29 rfl (by omega) ⟨by first | (rw [if_pos (by omega)]; done) | (rw [if_neg (by omega)]; done), rfl⟩
set_option maxHeartbeats 4000000 in
set_option maxRecDepth 100000 in
theorem x_isDigit {d : Nat} {c : Int} (hc : inR c) (σ : gS) : sC mX3_isDigit d [.int (iZ c)] σ (fun r σ' => r = some (.int (iZ (if isDg c then 1 else 0))) ∧ σ' = σ) := by
  refine sC_of rfl (Nat.le_of_ble_eq_true rfl) ?_
  show sE g_tt _ _ _ 0 [some (.int (iZ c))] [] σ
  refine q_iload_n dX3_isDigit_0 rfl rfl ?_
  refine z_bipush dX3_isDigit_1 (by decide +kernel) ?_
  refine z_icmp_lt (tgt := 16) dX3_isDigit_3 (by decide) (by unfold inR at *; omega) (by unfold inR at *; omega) (fun c_1 => ?_) (fun c_1 => ?_)
  · refine z_iconst dX3_isDigit_16 ?_
    exact s_zret dX3_isDigit_17 rfl (by omega) ⟨by first | (rw [if_pos (by omega)]; done) | (rw [if_neg (by omega)]; done), rfl⟩
  · refine q_iload_n dX3_isDigit_6 rfl rfl ?_
    refine z_bipush dX3_isDigit_7 (by decide +kernel) ?_
    refine z_icmp_gt (tgt := 16) dX3_isDigit_9 (by decide) (by unfold inR at *; omega) (by unfold inR at *; omega) (fun c_2 => ?_) (fun c_2 => ?_)
    · refine z_iconst dX3_isDigit_16 ?_
      exact s_zret dX3_isDigit_17 rfl (by omega) ⟨by first | (rw [if_pos (by omega)]; done) | (rw [if_neg (by omega)]; done), rfl⟩
    · refine z_iconst dX3_isDigit_12 ?_
      refine q_goto (tgt := 17) dX3_isDigit_13 (by decide) ?_
      exact s_zret dX3_isDigit_17 rfl (by omega) ⟨by first | (rw [if_pos (by omega)]; done) | (rw [if_neg (by omega)]; done), rfl⟩
set_option maxHeartbeats 4000000 in
set_option maxRecDepth 100000 in
theorem x_add3 {d k : Nat} (hk : k < 301) {t s u : Int} (σ : gS) (h5 : σ.1 328 5 = (k : Int)) : sC mX3_add d [.ref 328, .int (iZ t), .int (iZ s), .int (iZ u)] σ (fun r σ' => r = none ∧ σ' = adS σ k t s u) := by
  refine sC_of rfl (Nat.le_of_ble_eq_true rfl) ?_
  show sE g_tt _ _ _ 0 [some (.ref 328), some (.int (iZ t)), some (.int (iZ s)), some (.int (iZ u))] [] σ
  refine q_aload_n dX3_add_0 rfl rfl ?_
  refine sg3 (kf := 5) (v := .int (iZ (k : Int))) dX3_add_1 flX3_28 (show kd 328 = 3 from rfl) (by decide) (by show some (Value.int (iZ ((σ).1 328 5))) = _; rw [show (σ).1 328 5 = (k : Int) from h5]) ?_
  refine q_aload_n dX3_add_4 rfl rfl ?_
  refine sg3 (kf := 2) (v := .ref 330) dX3_add_5 flX3_19 (show kd 328 = 3 from rfl) (by decide) rfl ?_
  refine s_alen (n := 301) dX3_add_8 (show kd 330 = 100 + 301 from rfl) (Or.inl ⟨rfl, rfl⟩) (by decide) ?_
  refine z_icmp_ge (tgt := 52) dX3_add_9 (by decide) (by unfold inR at *; omega) (by unfold inR at *; omega) (fun c_1 => ?_) (fun c_1 => ?_)
  · exfalso
    omega
  · refine q_aload_n dX3_add_12 rfl rfl ?_
    refine sg3 (kf := 2) (v := .ref 330) dX3_add_13 flX3_19 (show kd 328 = 3 from rfl) (by decide) rfl ?_
    refine q_aload_n dX3_add_16 rfl rfl ?_
    refine sg3 (kf := 5) (v := .int (iZ (k : Int))) dX3_add_17 flX3_28 (show kd 328 = 3 from rfl) (by decide) (by show some (Value.int (iZ ((σ).1 328 5))) = _; rw [show (σ).1 328 5 = (k : Int) from h5]) ?_
    refine q_iload_n dX3_add_20 rfl rfl ?_
    refine s_iast (n := 301) dX3_add_21 (show kd 330 = 100 + 301 from rfl) (by omega) (by omega) (by decide) ?_
    refine q_aload_n dX3_add_22 rfl rfl ?_
    refine sg3 (kf := 3) (v := .ref 331) dX3_add_23 flX3_22 (show kd 328 = 3 from rfl) (by decide) rfl ?_
    refine q_aload_n dX3_add_26 rfl rfl ?_
    refine sg3 (kf := 5) (v := .int (iZ (k : Int))) dX3_add_27 flX3_28 (show kd 328 = 3 from rfl) (by decide) (by show some (Value.int (iZ ((sR σ 330 k t).1 328 5))) = _; rw [show (sR σ 330 k t).1 328 5 = (k : Int) from h5]) ?_
    refine q_iload_n dX3_add_30 rfl rfl ?_
    refine s_iast (n := 301) dX3_add_31 (show kd 331 = 100 + 301 from rfl) (by omega) (by omega) (by decide) ?_
    refine q_aload_n dX3_add_32 rfl rfl ?_
    refine sg3 (kf := 4) (v := .ref 332) dX3_add_33 flX3_25 (show kd 328 = 3 from rfl) (by decide) rfl ?_
    refine q_aload_n dX3_add_36 rfl rfl ?_
    refine sg3 (kf := 5) (v := .int (iZ (k : Int))) dX3_add_37 flX3_28 (show kd 328 = 3 from rfl) (by decide) (by show some (Value.int (iZ ((sR (sR σ 330 k t) 331 k s).1 328 5))) = _; rw [show (sR (sR σ 330 k t) 331 k s).1 328 5 = (k : Int) from h5]) ?_
    refine q_iload_n dX3_add_40 rfl rfl ?_
    refine s_iast (n := 301) dX3_add_41 (show kd 332 = 100 + 301 from rfl) (by omega) (by omega) (by decide) ?_
    refine q_aload_n dX3_add_42 rfl rfl ?_
    refine q_dup dX3_add_43 rfl ?_
    refine sg3 (kf := 5) (v := .int (iZ (k : Int))) dX3_add_44 flX3_28 (show kd 328 = 3 from rfl) (by decide) (by show some (Value.int (iZ ((sR (sR (sR σ 330 k t) 331 k s) 332 k u).1 328 5))) = _; rw [show (sR (sR (sR σ 330 k t) 331 k s) 332 k u).1 328 5 = (k : Int) from h5]) ?_
    refine z_iconst dX3_add_47 ?_
    refine z_iadd dX3_add_48 ?_
    refine sp3 (kf := 5) dX3_add_49 flX3_28 (show kd 328 = 3 from rfl) (by decide) ?_
    exact s_vret dX3_add_52 rfl ⟨rfl, rfl⟩
set_option maxHeartbeats 4000000 in
set_option maxRecDepth 100000 in
theorem lx_word1 {d k s e : Nat} (hd : 1 ≤ d) (σ : gS) {b : Nat → Int} {n : Nat} (hn : σ.1 328 1 = (n : Int)) (hn3 : n ≤ 300) (hb : σ.2.1 329 = b) (hb8 : ∀ i, i < n → 0 ≤ b i ∧ b i < 256) {tk st nu : Nat → Int} {Q : Option Value → gS → Prop} (kc : ∀ σ1 : gS, lxR σ σ1 k e tk st nu → sE g_tt mX3_scanWord d Q 44 [some (.ref 328), some (.int (iZ (s : Int))), none, none, none, none] [] σ1) : ∀ (g : Nat) (p : Nat) (σ1 : gS), p ≤ n → lxR σ σ1 k p tk st nu → lEnd b n (n - p) p = e → (n : Int) - (p : Int) < (g : Int) → sE g_tt mX3_scanWord d Q 5 [some (.ref 328), some (.int (iZ (s : Int))), none, none, none, none] [] σ1 := by
  intro g
  induction g with
  | zero =>
    intro p σ1 hp lx he hg
    exact absurd hg (by omega)
  | succ g ih =>
    intro p σ1 hp lx he hg
    refine q_aload_n dX3_scanWord_5 rfl rfl ?_
    refine sg3 (kf := 6) (v := .int (iZ (p : Int))) dX3_scanWord_6 flX3_31 (show kd 328 = 3 from rfl) (by decide) (by show some (Value.int (iZ (σ1.1 328 6))) = _; rw [show σ1.1 328 6 = (p : Int) from lx.2.2.2.1]) ?_
    refine q_aload_n dX3_scanWord_9 rfl rfl ?_
    refine sg3 (kf := 1) (v := .int (iZ (n : Int))) dX3_scanWord_10 flX3_15 (show kd 328 = 3 from rfl) (by decide) (by show some (Value.int (iZ (σ1.1 328 1))) = _; rw [show σ1.1 328 1 = (n : Int) from lx.2.1.trans hn]) ?_
    refine z_icmp_ge (tgt := 44) dX3_scanWord_13 (by decide) (by unfold inR at *; omega) (by unfold inR at *; omega) (fun c_1 => ?_) (fun c_1 => ?_)
    · have e9 : p = e := by rw [← he]; cases hm : n - p with | zero => rfl | succ m => rw [lEnd, if_neg (fun z => by first | omega | (exact absurd z.2 (by assumption)))]
      subst e9
      exact kc σ1 lx
    · refine q_aload_n dX3_scanWord_16 rfl rfl ?_
      refine sg3 (kf := 0) (v := .ref 329) dX3_scanWord_17 flX3_9 (show kd 328 = 3 from rfl) (by decide) rfl ?_
      refine q_aload_n dX3_scanWord_20 rfl rfl ?_
      refine sg3 (kf := 6) (v := .int (iZ (p : Int))) dX3_scanWord_21 flX3_31 (show kd 328 = 3 from rfl) (by decide) (by show some (Value.int (iZ (σ1.1 328 6))) = _; rw [show σ1.1 328 6 = (p : Int) from lx.2.2.2.1]) ?_
      refine s_iald (n := 300) (x := b p) dX3_scanWord_24 (show kd 329 = 100 + 300 from rfl) (by omega) (by omega) (by decide) (by rw [lx_b lx, hb]; first | rfl | skip) ?_
      refine s_callS (As := [.int (iZ (b p))]) (S := []) dX3_scanWord_25 okX3_isLetter mlX3_34 rfl (by omega) rfl (Nat.le_of_ble_eq_true rfl) (x_isLetter (d := d - 1) (c := b p) (by have q9 := hb8 p (by omega); unfold inR; omega) σ1) (fun v_ σ_ hq => ?_)
      obtain ⟨rfl, e9⟩ := hq
      have e9 := e9.symm
      subst e9
      show sE g_tt _ _ _ 28 [some (.ref 328), some (.int (iZ (s : Int))), none, none, none, none] [.int (iZ (if isLt (b p) then 1 else 0))] σ1
      refine z_if_eq (tgt := 44) dX3_scanWord_28 (by decide) inR_01 (fun c_2 => ?_) (fun c_2 => ?_)
      · have c_2 := if01_0 c_2
        have e9 : p = e := by rw [← he]; cases hm : n - p with | zero => rfl | succ m => rw [lEnd, if_neg (fun z => by first | omega | (exact absurd z.2 (by assumption)))]
        subst e9
        exact kc σ1 lx
      · have c_2 := if01_1 c_2
        refine q_aload_n dX3_scanWord_31 rfl rfl ?_
        refine q_dup dX3_scanWord_32 rfl ?_
        refine sg3 (kf := 6) (v := .int (iZ (p : Int))) dX3_scanWord_33 flX3_31 (show kd 328 = 3 from rfl) (by decide) (by show some (Value.int (iZ (σ1.1 328 6))) = _; rw [show σ1.1 328 6 = (p : Int) from lx.2.2.2.1]) ?_
        refine z_iconst dX3_scanWord_36 ?_
        refine z_iadd dX3_scanWord_37 ?_
        refine sp3 (kf := 6) dX3_scanWord_38 flX3_31 (show kd 328 = 3 from rfl) (by decide) ?_
        refine q_goto (tgt := 5) dX3_scanWord_41 (by decide) ?_
        have k9 := ih (p + 1) _ (by omega) (lx_at lx (p + 1)) (by rw [← he, show n - p = (n - (p + 1)) + 1 by omega, lEnd, if_pos ⟨by omega, by assumption⟩]) (by omega)
        rw [show ((p + 1 : Nat) : Int) = (p : Int) + 1 by omega] at k9
        exact k9
set_option maxHeartbeats 4000000 in
set_option maxRecDepth 100000 in
theorem lx_spelt {d k s e bg : Nat} (hd : 4 ≤ d) (hse : s ≤ e) (hbg : bg + (e - s) ≤ 126) (σ : gS) {b : Nat → Int} {n : Nat} (hn : σ.1 328 1 = (n : Int)) (hn3 : n ≤ 300) (hb : σ.2.1 329 = b) (hb8 : ∀ i, i < n → 0 ≤ b i ∧ b i < 256) {tk st nu : Nat → Int} (hen : e ≤ n) (σ1 : gS) (lx : lxR σ σ1 k e tk st nu) : ∀ (n : Nat) (i : Nat), i ≤ e - s → (e : Int) - (s : Int) - (i : Int) < (n : Int) → sE g_tt mX3_isSpelt d (fun r σ' => r = some (.int (iZ (spl b s bg (e - s - i) i))) ∧ σ' = σ1) 2 [some (.ref 328), some (.int (iZ (s : Int))), some (.int (iZ (bg : Int))), some (.int (iZ (i : Int)))] [] σ1 := by
  intro n
  induction n with
  | zero =>
    intro i hi hn
    exact absurd hn (by omega)
  | succ n ih =>
    intro i hi hn
    refine q_iload_n dX3_isSpelt_2 rfl rfl ?_
    refine q_iload_n dX3_isSpelt_3 rfl rfl ?_
    refine z_iadd dX3_isSpelt_4 ?_
    refine q_aload_n dX3_isSpelt_5 rfl rfl ?_
    refine sg3 (kf := 6) (v := .int (iZ (e : Int))) dX3_isSpelt_6 flX3_31 (show kd 328 = 3 from rfl) (by decide) (by show some (Value.int (iZ (σ1.1 328 6))) = _; rw [show σ1.1 328 6 = (e : Int) from lx.2.2.2.1]) ?_
    refine z_icmp_ge (tgt := 50) dX3_isSpelt_9 (by decide) (by unfold inR at *; omega) (by unfold inR at *; omega) (fun c_1 => ?_) (fun c_1 => ?_)
    · refine z_iconst dX3_isSpelt_50 ?_
      exact s_zret dX3_isSpelt_51 rfl (by omega) ⟨by rw [show e - s - i = 0 by omega, spl], rfl⟩
    · refine q_iload_n dX3_isSpelt_12 rfl rfl ?_
      refine q_iload_n dX3_isSpelt_13 rfl rfl ?_
      refine z_iadd dX3_isSpelt_14 ?_
      refine q_ldcS0 rfl dX3_isSpelt_15 ?_
      show sE g_tt _ _ _ 17 [some (.ref 328), some (.int (iZ (s : Int))), some (.int (iZ (bg : Int))), some (.int (iZ (i : Int)))] [.ref (1000000 + 0), .int (iZ ((bg : Int) + (i : Int)))] σ1
      refine s_callStr (j := 0) (As := []) (S := [.int (iZ ((bg : Int) + (i : Int)))]) dX3_isSpelt_17 okJ0_length_8abf5 mlX3_56 rfl (by omega) rfl (Nat.le_of_ble_eq_true rfl) (by decide) rfl (j_length (d := d - 1) (by omega) (by decide) σ1) (fun v_ σ_ hq => ?_)
      obtain ⟨rfl, e9⟩ := hq
      have e9 := e9.symm
      subst e9
      show sE g_tt _ _ _ 20 [some (.ref 328), some (.int (iZ (s : Int))), some (.int (iZ (bg : Int))), some (.int (iZ (i : Int)))] [.int (iZ 126), .int (iZ ((bg : Int) + (i : Int)))] σ1
      refine z_icmp_ge (tgt := 50) dX3_isSpelt_20 (by decide) (by unfold inR at *; omega) (by unfold inR at *; omega) (fun c_2 => ?_) (fun c_2 => ?_)
      · exfalso
        omega
      · refine q_aload_n dX3_isSpelt_23 rfl rfl ?_
        refine sg3 (kf := 0) (v := .ref 329) dX3_isSpelt_24 flX3_9 (show kd 328 = 3 from rfl) (by decide) rfl ?_
        refine q_iload_n dX3_isSpelt_27 rfl rfl ?_
        refine q_iload_n dX3_isSpelt_28 rfl rfl ?_
        refine z_iadd dX3_isSpelt_29 ?_
        refine s_iald (n := 300) (x := b (((s : Int) + (i : Int)).toNat)) dX3_isSpelt_30 (show kd 329 = 100 + 300 from rfl) (by omega) (by omega) (by decide) (by rw [lx_b lx, hb]; first | rfl | skip) ?_
        refine z_top (y := b (s + i)) (by congr 1) ?_
        refine q_ldcS0 rfl dX3_isSpelt_31 ?_
        show sE g_tt _ _ _ 33 [some (.ref 328), some (.int (iZ (s : Int))), some (.int (iZ (bg : Int))), some (.int (iZ (i : Int)))] [.ref (1000000 + 0), .int (iZ (b (s + i)))] σ1
        refine q_iload_n dX3_isSpelt_33 rfl rfl ?_
        refine q_iload_n dX3_isSpelt_34 rfl rfl ?_
        refine z_iadd dX3_isSpelt_35 ?_
        refine z_top (y := ((bg + i : Nat) : Int)) (by omega) ?_
        refine s_callStr (j := 0) (As := [.int (iZ ((bg + i : Nat) : Int))]) (S := [.int (iZ (b (s + i)))]) dX3_isSpelt_36 okJ0_charAt_5068e mlX3_61 rfl (by omega) rfl (Nat.le_of_ble_eq_true rfl) (by decide) rfl (j_charAt (d := d - 1) (j := 0) (k := bg + i) (by omega) (by decide) (by show bg + i < 126; omega) σ1) (fun v_ σ_ hq => ?_)
        obtain ⟨rfl, e9⟩ := hq
        have e9 := e9.symm
        subst e9
        show sE g_tt _ _ _ 39 [some (.ref 328), some (.int (iZ (s : Int))), some (.int (iZ (bg : Int))), some (.int (iZ (i : Int)))] [.int (iZ (stB 0 (bg + i))), .int (iZ (b (s + i)))] σ1
        refine z_icmp_eq (tgt := 44) dX3_isSpelt_39 (by decide) (by have q9 := hb8 (s + i) (by omega); unfold inR; omega) (by have q9 := (stB_0 (bg + i) (by omega)).2; unfold inR; omega) (fun c_3 => ?_) (fun c_3 => ?_)
        · refine z_iinc dX3_isSpelt_44 rfl (by decide) ?_
          show sE g_tt _ _ _ 47 [some (.ref 328), some (.int (iZ (s : Int))), some (.int (iZ (bg : Int))), some (.int (iZ ((i : Int) + 1)))] [] σ1
          refine q_goto (tgt := 2) dX3_isSpelt_47 (by decide) ?_
          rw [show e - s - i = (e - s - (i + 1)) + 1 by omega, spl, if_pos (by assumption)]
          exact ih (i + 1) (by omega) (by omega)
        · refine z_iconst dX3_isSpelt_42 ?_
          exact s_zret dX3_isSpelt_43 rfl (by omega) ⟨by rw [show e - s - i = (e - s - (i + 1)) + 1 by omega, spl, if_neg (by assumption)], rfl⟩
set_option maxHeartbeats 4000000 in
set_option maxRecDepth 100000 in
theorem x_spelt {d k s e bg : Nat} (hd : 4 ≤ d) (hse : s ≤ e) (hbg : bg + (e - s) ≤ 126) (σ : gS) {b : Nat → Int} {n : Nat} (hn : σ.1 328 1 = (n : Int)) (hn3 : n ≤ 300) (hb : σ.2.1 329 = b) (hb8 : ∀ i, i < n → 0 ≤ b i ∧ b i < 256) {tk st nu : Nat → Int} (hen : e ≤ n) (σ1 : gS) (lx : lxR σ σ1 k e tk st nu) : sC mX3_isSpelt d [.ref 328, .int (iZ (s : Int)), .int (iZ (bg : Int))] σ1 (fun r σ' => r = some (.int (iZ (spl b s bg (e - s) 0))) ∧ σ' = σ1) := by
  refine sC_of rfl (Nat.le_of_ble_eq_true rfl) ?_
  show sE g_tt _ _ _ 0 [some (.ref 328), some (.int (iZ (s : Int))), some (.int (iZ (bg : Int))), none] [] σ1
  refine z_iconst dX3_isSpelt_0 ?_
  refine q_istore_n dX3_isSpelt_1 rfl (by decide) ?_
  show sE g_tt _ _ _ 2 [some (.ref 328), some (.int (iZ (s : Int))), some (.int (iZ (bg : Int))), some (.int (iZ 0))] [] σ1
  exact lx_spelt hd hse hbg σ hn hn3 hb hb8 hen σ1 lx (e - s + 1) 0 (by omega) (by omega)
set_option maxHeartbeats 4000000 in
set_option maxRecDepth 100000 in
theorem lx_word2 {d k s e : Nat} (hd : 5 ≤ d) (hk : k < 301) (hse : s ≤ e) (σ : gS) {b : Nat → Int} {n : Nat} (hn : σ.1 328 1 = (n : Int)) (hn3 : n ≤ 300) (hb : σ.2.1 329 = b) (hb8 : ∀ i, i < n → 0 ≤ b i ∧ b i < 256) {tk st nu : Nat → Int} (hen : e ≤ n) (hT : tk k = fW b s (e - s) 25) (hS : st k = (s : Int)) (hN : nu k = 0) (σ1 : gS) (lx : lxR σ σ1 k e tk st nu) : ∀ (g : Nat) (i : Nat), i ≤ 126 → 126 - (i : Int) < (g : Int) → sE g_tt mX3_scanWord d (fun r σ' => r = none ∧ lxR σ σ' (k + 1) e tk st nu) 55 [some (.ref 328), some (.int (iZ (s : Int))), some (.int (iZ (fW b s (e - s) (wdF i)))), some (.int (iZ ((wdF i : Nat) : Int))), some (.int (iZ ((bgF i : Nat) : Int))), some (.int (iZ (i : Int)))] [] σ1 := by
  intro g
  induction g with
  | zero =>
    intro i hi hg
    exact absurd hg (by omega)
  | succ g ih =>
    intro i hi hg
    have wr : i < 126 → (stB 0 i = 32 → bgF i = bgn (wdF i) ∧ i = bgn (wdF i) + wln (wdF i)) ∧ bgF i ≤ i ∧ wdF i ≤ 24 := wdF_ok
    have w25 : wdF i ≤ 25 := by
      by_cases z : i < 126
      · have := (wr z).2.2; omega
      · rw [show i = 126 by omega, wdF_126]; omega
    have fr := fW_ran b s (e - s) (wdF i) w25
    have sr : i < 126 → 0 ≤ stB 0 i ∧ stB 0 i < 128 := fun z => (stB_0 i z).2
    refine q_iload dX3_scanWord_55 rfl ?_
    refine q_ldcS0 rfl dX3_scanWord_57 ?_
    show sE g_tt _ _ _ 59 [some (.ref 328), some (.int (iZ (s : Int))), some (.int (iZ (fW b s (e - s) (wdF i)))), some (.int (iZ ((wdF i : Nat) : Int))), some (.int (iZ ((bgF i : Nat) : Int))), some (.int (iZ (i : Int)))] [.ref (1000000 + 0), .int (iZ (i : Int))] σ1
    refine s_callStr (j := 0) (As := []) (S := [.int (iZ (i : Int))]) dX3_scanWord_59 okJ0_length_8abf5 mlX3_56 rfl (by omega) rfl (Nat.le_of_ble_eq_true rfl) (by decide) rfl (j_length (d := d - 1) (by omega) (by decide) σ1) (fun v_ σ_ hq => ?_)
    obtain ⟨rfl, e9⟩ := hq
    have e9 := e9.symm
    subst e9
    show sE g_tt _ _ _ 62 [some (.ref 328), some (.int (iZ (s : Int))), some (.int (iZ (fW b s (e - s) (wdF i)))), some (.int (iZ ((wdF i : Nat) : Int))), some (.int (iZ ((bgF i : Nat) : Int))), some (.int (iZ (i : Int)))] [.int (iZ 126), .int (iZ (i : Int))] σ1
    refine z_icmp_ge (tgt := 124) dX3_scanWord_62 (by decide) (by unfold inR at *; omega) (by unfold inR at *; omega) (fun c_1 => ?_) (fun c_1 => ?_)
    · have eT : fW b s (e - s) (wdF i) = fW b s (e - s) 25 := by rw [show i = 126 by omega, wdF_126]
      rw [eT]
      refine q_aload_n dX3_scanWord_124 rfl rfl ?_
      refine q_iload_n dX3_scanWord_125 rfl rfl ?_
      refine q_iload_n dX3_scanWord_126 rfl rfl ?_
      refine z_iconst dX3_scanWord_127 ?_
      refine s_callV (ci := 3) (a := 328) (As := [.int (iZ (fW b s (e - s) 25)), .int (iZ (s : Int)), .int (iZ 0)]) (S := []) dX3_scanWord_128 okX3_add mlX3_50 rfl (by omega) rfl (Nat.le_of_ble_eq_true rfl) (show kd 328 = 3 from rfl) (by decide) rfl (x_add3 (d := d - 1) (k := k) (by omega) (t := fW b s (e - s) 25) (s := (s : Int)) (u := 0) σ1 lx.2.2.1) (fun v_ σ_ hq => ?_)
      obtain ⟨rfl, e9⟩ := hq
      subst e9
      show sE g_tt _ _ _ 131 [some (.ref 328), some (.int (iZ (s : Int))), some (.int (iZ (fW b s (e - s) 25))), some (.int (iZ ((wdF i : Nat) : Int))), some (.int (iZ ((bgF i : Nat) : Int))), some (.int (iZ (i : Int)))] [] (adS σ1 k (fW b s (e - s) 25) (s : Int) 0)
      exact s_vret dX3_scanWord_131 rfl ⟨rfl, lx_add lx hT hS hN⟩
    · refine q_iload_n dX3_scanWord_65 rfl rfl ?_
      refine z_bipush dX3_scanWord_66 (by decide +kernel) ?_
      refine z_icmp_ne (tgt := 124) dX3_scanWord_68 (by decide) (by unfold inR; omega) (by unfold inR at *; omega) (fun c_2 => ?_) (fun c_2 => ?_)
      · have eT : fW b s (e - s) (wdF i) = fW b s (e - s) 25 := by have q9 := fW_end b s (e - s) (by assumption) (25 - wdF i); rw [show wdF i + (25 - wdF i) = 25 by omega] at q9; exact q9.symm
        rw [eT]
        refine q_aload_n dX3_scanWord_124 rfl rfl ?_
        refine q_iload_n dX3_scanWord_125 rfl rfl ?_
        refine q_iload_n dX3_scanWord_126 rfl rfl ?_
        refine z_iconst dX3_scanWord_127 ?_
        refine s_callV (ci := 3) (a := 328) (As := [.int (iZ (fW b s (e - s) 25)), .int (iZ (s : Int)), .int (iZ 0)]) (S := []) dX3_scanWord_128 okX3_add mlX3_50 rfl (by omega) rfl (Nat.le_of_ble_eq_true rfl) (show kd 328 = 3 from rfl) (by decide) rfl (x_add3 (d := d - 1) (k := k) (by omega) (t := fW b s (e - s) 25) (s := (s : Int)) (u := 0) σ1 lx.2.2.1) (fun v_ σ_ hq => ?_)
        obtain ⟨rfl, e9⟩ := hq
        subst e9
        show sE g_tt _ _ _ 131 [some (.ref 328), some (.int (iZ (s : Int))), some (.int (iZ (fW b s (e - s) 25))), some (.int (iZ ((wdF i : Nat) : Int))), some (.int (iZ ((bgF i : Nat) : Int))), some (.int (iZ (i : Int)))] [] (adS σ1 k (fW b s (e - s) 25) (s : Int) 0)
        exact s_vret dX3_scanWord_131 rfl ⟨rfl, lx_add lx hT hS hN⟩
      · refine q_ldcS0 rfl dX3_scanWord_71 ?_
        show sE g_tt _ _ _ 73 [some (.ref 328), some (.int (iZ (s : Int))), some (.int (iZ (fW b s (e - s) (wdF i)))), some (.int (iZ ((wdF i : Nat) : Int))), some (.int (iZ ((bgF i : Nat) : Int))), some (.int (iZ (i : Int)))] [.ref (1000000 + 0)] σ1
        refine q_iload dX3_scanWord_73 rfl ?_
        refine s_callStr (j := 0) (As := [.int (iZ (i : Int))]) (S := []) dX3_scanWord_75 okJ0_charAt_5068e mlX3_61 rfl (by omega) rfl (Nat.le_of_ble_eq_true rfl) (by decide) rfl (j_charAt (d := d - 1) (j := 0) (k := i) (by omega) (by decide) (by show i < 126; omega) σ1) (fun v_ σ_ hq => ?_)
        obtain ⟨rfl, e9⟩ := hq
        have e9 := e9.symm
        subst e9
        have wo := wr (by omega)
        have sr9 := sr (by omega)
        show sE g_tt _ _ _ 78 [some (.ref 328), some (.int (iZ (s : Int))), some (.int (iZ (fW b s (e - s) (wdF i)))), some (.int (iZ ((wdF i : Nat) : Int))), some (.int (iZ ((bgF i : Nat) : Int))), some (.int (iZ (i : Int)))] [.int (iZ (stB 0 i))] σ1
        refine z_bipush dX3_scanWord_78 (by decide +kernel) ?_
        refine z_icmp_ne (tgt := 118) dX3_scanWord_80 (by decide) (by unfold inR; omega) (by unfold inR at *; omega) (fun c_3 => ?_) (fun c_3 => ?_)
        · refine z_iinc dX3_scanWord_118 rfl (by decide) ?_
          show sE g_tt _ _ _ 121 [some (.ref 328), some (.int (iZ (s : Int))), some (.int (iZ (fW b s (e - s) (wdF i)))), some (.int (iZ ((wdF i : Nat) : Int))), some (.int (iZ ((bgF i : Nat) : Int))), some (.int (iZ ((i : Int) + 1)))] [] σ1
          refine q_goto (tgt := 55) dX3_scanWord_121 (by decide) ?_
          have k9 := ih (i + 1) (by omega) (by omega)
          rw [show wdF (i + 1) = wdF i by rw [wdF, if_neg (by assumption)], show bgF (i + 1) = bgF i by rw [bgF, if_neg (by assumption)], show ((i + 1 : Nat) : Int) = (i : Int) + 1 by omega] at k9
          exact k9
        · refine q_iload dX3_scanWord_83 rfl ?_
          refine q_iload dX3_scanWord_85 rfl ?_
          refine z_isub dX3_scanWord_87 ?_
          refine q_aload_n dX3_scanWord_88 rfl rfl ?_
          refine sg3 (kf := 6) (v := .int (iZ (e : Int))) dX3_scanWord_89 flX3_31 (show kd 328 = 3 from rfl) (by decide) (by show some (Value.int (iZ (σ1.1 328 6))) = _; rw [show σ1.1 328 6 = (e : Int) from lx.2.2.2.1]) ?_
          refine q_iload_n dX3_scanWord_92 rfl rfl ?_
          refine z_isub dX3_scanWord_93 ?_
          refine z_icmp_ne (tgt := 109) dX3_scanWord_94 (by decide) (by unfold inR at *; omega) (by unfold inR at *; omega) (fun c_4 => ?_) (fun c_4 => ?_)
          · refine z_iinc dX3_scanWord_109 rfl (by decide) ?_
            show sE g_tt _ _ _ 112 [some (.ref 328), some (.int (iZ (s : Int))), some (.int (iZ (fW b s (e - s) (wdF i)))), some (.int (iZ (((wdF i : Nat) : Int) + 1))), some (.int (iZ ((bgF i : Nat) : Int))), some (.int (iZ (i : Int)))] [] σ1
            refine q_iload dX3_scanWord_112 rfl ?_
            refine z_iconst dX3_scanWord_114 ?_
            refine z_iadd dX3_scanWord_115 ?_
            refine q_istore dX3_scanWord_116 (by decide) ?_
            show sE g_tt _ _ _ 118 [some (.ref 328), some (.int (iZ (s : Int))), some (.int (iZ (fW b s (e - s) (wdF i)))), some (.int (iZ (((wdF i : Nat) : Int) + 1))), some (.int (iZ ((i : Int) + 1))), some (.int (iZ (i : Int)))] [] σ1
            refine z_iinc dX3_scanWord_118 rfl (by decide) ?_
            show sE g_tt _ _ _ 121 [some (.ref 328), some (.int (iZ (s : Int))), some (.int (iZ (fW b s (e - s) (wdF i)))), some (.int (iZ (((wdF i : Nat) : Int) + 1))), some (.int (iZ ((i : Int) + 1))), some (.int (iZ ((i : Int) + 1)))] [] σ1
            refine q_goto (tgt := 55) dX3_scanWord_121 (by decide) ?_
            have w2 := wo.1 (by assumption)
            have e1 : fW b s (e - s) (wdF i + 1) = fW b s (e - s) (wdF i) := by rw [fW, if_neg (fun z => by have z2 := z.2.1; have z3 := z.2.2; (try rw [← (wo.1 (by assumption)).1] at z3); omega)]
            have k9 := ih (i + 1) (by omega) (by omega)
            rw [show wdF (i + 1) = wdF i + 1 by rw [wdF, if_pos (by assumption)], show bgF (i + 1) = i + 1 by rw [bgF, if_pos (by assumption)], e1, show ((wdF i + 1 : Nat) : Int) = ((wdF i : Nat) : Int) + 1 by omega, show ((i + 1 : Nat) : Int) = (i : Int) + 1 by omega] at k9
            exact k9
          · refine q_aload_n dX3_scanWord_97 rfl rfl ?_
            refine q_iload_n dX3_scanWord_98 rfl rfl ?_
            refine q_iload dX3_scanWord_99 rfl ?_
            refine s_callV (ci := 3) (a := 328) (As := [.int (iZ (s : Int)), .int (iZ ((bgF i : Nat) : Int))]) (S := []) dX3_scanWord_101 okX3_isSpelt mlX3_65 rfl (by omega) rfl (Nat.le_of_ble_eq_true rfl) (show kd 328 = 3 from rfl) (by decide) rfl (x_spelt (d := d - 1) (s := s) (e := e) (bg := bgF i) (by omega) hse (by omega) σ hn hn3 hb hb8 hen σ1 lx) (fun v_ σ_ hq => ?_)
            obtain ⟨rfl, e9⟩ := hq
            have e9 := e9.symm
            subst e9
            have s01 := spl_01 b s (bgF i) (e - s) 0
            show sE g_tt _ _ _ 104 [some (.ref 328), some (.int (iZ (s : Int))), some (.int (iZ (fW b s (e - s) (wdF i)))), some (.int (iZ ((wdF i : Nat) : Int))), some (.int (iZ ((bgF i : Nat) : Int))), some (.int (iZ (i : Int)))] [.int (iZ (spl b s (bgF i) (e - s) 0))] σ1
            refine z_if_eq (tgt := 109) dX3_scanWord_104 (by decide) (by unfold inR; omega) (fun c_5 => ?_) (fun c_5 => ?_)
            · refine z_iinc dX3_scanWord_109 rfl (by decide) ?_
              show sE g_tt _ _ _ 112 [some (.ref 328), some (.int (iZ (s : Int))), some (.int (iZ (fW b s (e - s) (wdF i)))), some (.int (iZ (((wdF i : Nat) : Int) + 1))), some (.int (iZ ((bgF i : Nat) : Int))), some (.int (iZ (i : Int)))] [] σ1
              refine q_iload dX3_scanWord_112 rfl ?_
              refine z_iconst dX3_scanWord_114 ?_
              refine z_iadd dX3_scanWord_115 ?_
              refine q_istore dX3_scanWord_116 (by decide) ?_
              show sE g_tt _ _ _ 118 [some (.ref 328), some (.int (iZ (s : Int))), some (.int (iZ (fW b s (e - s) (wdF i)))), some (.int (iZ (((wdF i : Nat) : Int) + 1))), some (.int (iZ ((i : Int) + 1))), some (.int (iZ (i : Int)))] [] σ1
              refine z_iinc dX3_scanWord_118 rfl (by decide) ?_
              show sE g_tt _ _ _ 121 [some (.ref 328), some (.int (iZ (s : Int))), some (.int (iZ (fW b s (e - s) (wdF i)))), some (.int (iZ (((wdF i : Nat) : Int) + 1))), some (.int (iZ ((i : Int) + 1))), some (.int (iZ ((i : Int) + 1)))] [] σ1
              refine q_goto (tgt := 55) dX3_scanWord_121 (by decide) ?_
              have w2 := wo.1 (by assumption)
              have e1 : fW b s (e - s) (wdF i + 1) = fW b s (e - s) (wdF i) := by rw [fW, if_neg (fun z => by have z2 := z.2.1; have z3 := z.2.2; (try rw [← (wo.1 (by assumption)).1] at z3); omega)]
              have k9 := ih (i + 1) (by omega) (by omega)
              rw [show wdF (i + 1) = wdF i + 1 by rw [wdF, if_pos (by assumption)], show bgF (i + 1) = i + 1 by rw [bgF, if_pos (by assumption)], e1, show ((wdF i + 1 : Nat) : Int) = ((wdF i : Nat) : Int) + 1 by omega, show ((i + 1 : Nat) : Int) = (i : Int) + 1 by omega] at k9
              exact k9
            · refine q_iload_n dX3_scanWord_107 rfl rfl ?_
              refine q_istore_n dX3_scanWord_108 rfl (by decide) ?_
              show sE g_tt _ _ _ 109 [some (.ref 328), some (.int (iZ (s : Int))), some (.int (iZ ((wdF i : Nat) : Int))), some (.int (iZ ((wdF i : Nat) : Int))), some (.int (iZ ((bgF i : Nat) : Int))), some (.int (iZ (i : Int)))] [] σ1
              refine z_iinc dX3_scanWord_109 rfl (by decide) ?_
              show sE g_tt _ _ _ 112 [some (.ref 328), some (.int (iZ (s : Int))), some (.int (iZ ((wdF i : Nat) : Int))), some (.int (iZ (((wdF i : Nat) : Int) + 1))), some (.int (iZ ((bgF i : Nat) : Int))), some (.int (iZ (i : Int)))] [] σ1
              refine q_iload dX3_scanWord_112 rfl ?_
              refine z_iconst dX3_scanWord_114 ?_
              refine z_iadd dX3_scanWord_115 ?_
              refine q_istore dX3_scanWord_116 (by decide) ?_
              show sE g_tt _ _ _ 118 [some (.ref 328), some (.int (iZ (s : Int))), some (.int (iZ ((wdF i : Nat) : Int))), some (.int (iZ (((wdF i : Nat) : Int) + 1))), some (.int (iZ ((i : Int) + 1))), some (.int (iZ (i : Int)))] [] σ1
              refine z_iinc dX3_scanWord_118 rfl (by decide) ?_
              show sE g_tt _ _ _ 121 [some (.ref 328), some (.int (iZ (s : Int))), some (.int (iZ ((wdF i : Nat) : Int))), some (.int (iZ (((wdF i : Nat) : Int) + 1))), some (.int (iZ ((i : Int) + 1))), some (.int (iZ ((i : Int) + 1)))] [] σ1
              refine q_goto (tgt := 55) dX3_scanWord_121 (by decide) ?_
              have w2 := wo.1 (by assumption)
              have e1 : fW b s (e - s) (wdF i + 1) = ((wdF i : Nat) : Int) := by rw [fW, if_pos ⟨by omega, by omega, by rw [← (wo.1 (by assumption)).1]; omega⟩]
              have k9 := ih (i + 1) (by omega) (by omega)
              rw [show wdF (i + 1) = wdF i + 1 by rw [wdF, if_pos (by assumption)], show bgF (i + 1) = i + 1 by rw [bgF, if_pos (by assumption)], e1, show ((wdF i + 1 : Nat) : Int) = ((wdF i : Nat) : Int) + 1 by omega, show ((i + 1 : Nat) : Int) = (i : Int) + 1 by omega] at k9
              exact k9
set_option maxHeartbeats 4000000 in
set_option maxRecDepth 100000 in
theorem x_scanWord {d k s : Nat} (hd : 5 ≤ d) (hk : k < 301) (σ : gS) {b : Nat → Int} {n : Nat} (hn : σ.1 328 1 = (n : Int)) (hn3 : n ≤ 300) (hb : σ.2.1 329 = b) (hb8 : ∀ i, i < n → 0 ≤ b i ∧ b i < 256) {tk st nu : Nat → Int} (hsn : s ≤ n) (hT : tk k = fW b s ((lEnd b n (n - s) s) - s) 25) (hS : st k = (s : Int)) (hN : nu k = 0) (lx0 : lxR σ σ k s tk st nu) : sC mX3_scanWord d [.ref 328] σ (fun r σ' => r = none ∧ lxR σ σ' (k + 1) (lEnd b n (n - s) s) tk st nu) := by
  refine sC_of rfl (Nat.le_of_ble_eq_true rfl) ?_
  show sE g_tt _ _ _ 0 [some (.ref 328), none, none, none, none, none] [] σ
  refine q_aload_n dX3_scanWord_0 rfl rfl ?_
  refine sg3 (kf := 6) (v := .int (iZ (s : Int))) dX3_scanWord_1 flX3_31 (show kd 328 = 3 from rfl) (by decide) (by show some (Value.int (iZ (σ.1 328 6))) = _; rw [show σ.1 328 6 = (s : Int) from lx0.2.2.2.1]) ?_
  refine q_istore_n dX3_scanWord_4 rfl (by decide) ?_
  show sE g_tt _ _ _ 5 [some (.ref 328), some (.int (iZ (s : Int))), none, none, none, none] [] σ
  refine lx_word1 (by omega) σ hn hn3 hb hb8 ?_ (n + 1) s σ (by omega) lx0 rfl (by omega)
  intro σ1 lx
  refine z_bipush dX3_scanWord_44 (by decide +kernel) ?_
  refine q_istore_n dX3_scanWord_46 rfl (by decide) ?_
  show sE g_tt _ _ _ 47 [some (.ref 328), some (.int (iZ (s : Int))), some (.int (iZ 40)), none, none, none] [] σ1
  refine z_iconst dX3_scanWord_47 ?_
  refine q_istore_n dX3_scanWord_48 rfl (by decide) ?_
  show sE g_tt _ _ _ 49 [some (.ref 328), some (.int (iZ (s : Int))), some (.int (iZ 40)), some (.int (iZ 0)), none, none] [] σ1
  refine z_iconst dX3_scanWord_49 ?_
  refine q_istore dX3_scanWord_50 (by decide) ?_
  show sE g_tt _ _ _ 52 [some (.ref 328), some (.int (iZ (s : Int))), some (.int (iZ 40)), some (.int (iZ 0)), some (.int (iZ 0)), none] [] σ1
  refine z_iconst dX3_scanWord_52 ?_
  refine q_istore dX3_scanWord_53 (by decide) ?_
  show sE g_tt _ _ _ 55 [some (.ref 328), some (.int (iZ (s : Int))), some (.int (iZ 40)), some (.int (iZ 0)), some (.int (iZ 0)), some (.int (iZ 0))] [] σ1
  exact lx_word2 hd hk (lEnd_ran b n _ s (by omega)).1 σ hn hn3 hb hb8 (lEnd_ran b n _ s (by omega)).2 hT hS hN σ1 lx 127 0 (by omega) (by omega)
