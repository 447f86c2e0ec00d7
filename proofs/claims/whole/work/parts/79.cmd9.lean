/-! ===== who went off ===== -/
/-- how many have gone off -/
def wn (A : Nat → Int) : Int := cCn A (-1) (A 0).toNat
theorem cCn_eqv {A B : Nat → Int} (z : Int) : ∀ n, (∀ p, p < n → B (19 + p) = A (19 + p)) → cCn B z n = cCn A z n := by
  intro n
  induction n with
  | zero => intro _; rfl
  | succ n ih => intro h; rw [cCn, cCn, ih (fun p hp => h p (by omega)), h n (by omega)]
theorem wn_eqv {A B : Nat → Int} (h5 : A 0 ≤ 5) (h0 : B 0 = A 0) (h : ∀ p, p < 5 → B (19 + p) = A (19 + p)) : wn B = wn A := by
  unfold wn
  rw [h0]
  exact cCn_eqv _ _ (fun p hp => h p (by omega))
theorem mStep_24 (h p : Nat) (X : (Nat → Int) × (Nat → Int)) : (mStep h p X).2 24 = X.2 24 + (if mMv h = -1 then 1 else 0) := by
  simp only [mStep]
  rw [va_up_self]
theorem mPE_o (W : wF) (D F : Nat → Int) {i : Nat} (h5 : i ≠ 5) (h9 : i ≠ 9) : (mPE W D F).1 i = (mS W D F).2.1 i := by
  unfold mPE
  simp only
  rw [va_up_ne _ _ h5, va_up_ne _ _ h9]
theorem mTh_24 (A F X : Nat → Int) (h th : Nat) {m : Nat} (hx : ∀ p, p < m → X (19 + p) = if th.testBit p = true then mMv h else A (19 + p)) (ht : ∀ p, p < m → th.testBit p = true → A (19 + p) ≠ -1) : ∀ n, n ≤ m → (mTh A F h th n).2 24 = F 24 + (cCn X (-1) n - cCn A (-1) n) := by
  intro n
  induction n with
  | zero => intro _; show F 24 = F 24 + (0 - 0); omega
  | succ n ih =>
    intro hn
    have e := ih (by omega)
    have x := hx n (by omega)
    rw [mTh, cCn, cCn]
    by_cases q : th.testBit n = true
    · rw [if_pos q] at x
      rw [if_pos q, x, if_neg (ht n (by omega) q)]
      rw [mStep_24, e]
      split <;> omega
    · rw [if_neg q] at x
      rw [if_neg q, x, e]
      omega
theorem mThank_24 {c nt : Int} {A : Nat → Int} (g : gd c nt A) (F : Nat → Int) {h : Nat} (hh : h < 8) : (mThank A F h).2 24 = F 24 + (wn (mThank A F h).1 - wn A) := by
  have a0 := g.2.2.2.2.1
  have g0 := g.1
  have e0 : (mThank A F h).1 0 = A 0 := mThank_lo A F hh a0.1 a0.2 (by decide) (by decide) (by decide)
  have k : ∀ p, mKd A h (19 + p) = A (19 + p) := fun p => mKd_ne A hh (by omega) (by omega)
  have q := mTh_24 (mKd A h) (va_up F 26 (((F 26).toNat ||| 2 ^ h : Nat) : Int)) (mThank A F h).1 h (mPeo (mKd A h) h (A 0).toNat) (m := (A 0).toNat) (fun p hp => ?_) (fun p hp hb => ?_) (A 0).toNat (Nat.le_refl _)
  · unfold wn
    rw [e0]
    rw [cCn_eqv (A := A) (B := mKd A h) (-1) _ (fun p _ => k p), va_up_ne _ _ (by decide)] at q
    exact q
  · rw [mThank_at A F hh a0.1 a0.2 (by omega), k, mPeo_bit, k]
    by_cases z : A (19 + p) = (h : Int)
    · rw [if_pos ⟨by omega, z⟩, if_pos (by simp only [decide_eq_true_eq]; exact ⟨hp, z⟩)]
    · rw [if_neg (fun y => z y.2), if_neg (fun y => z (by simp only [decide_eq_true_eq] at y; exact y.2))]
  · rw [mPeo_bit, k] at hb
    simp only [decide_eq_true_eq] at hb
    rw [k, hb.2]
    omega
theorem sett_24 {T : Nat → Int} {W : wF} {nt : Int} (hW : wOK T 100000 nt W) : ∀ (f : Nat) (A F : Nat → Int), gd 100000 nt A → (sett W f A F).2.2 24 = F 24 + (wn (sett W f A F).2.1 - wn A) := by
  intro f
  induction f with
  | zero => intro A F g; show F 24 = F 24 + (wn A - wn A); omega
  | succ f ih =>
    intro A F g
    simp only [sett]
    split
    · show F 24 = F 24 + (wn A - wn A); omega
    · rename_i hr
      obtain ⟨j, hj, ej, hw⟩ := (rdI_spec (W := W) (A := A)).resolve_left hr
      rw [ej, Int.toNat_natCast]
      have w9 := wOK_0 hW A g j hj
      have i := ih (mThank A F j).1 (mThank A F j).2 (gd_thank g F hj (by omega))
      have t := mThank_24 g F hj
      show (sett W f (mThank A F j).1 (mThank A F j).2).2.2 24 = F 24 + (wn (sett W f (mThank A F j).1 (mThank A F j).2).2.1 - wn A)
      omega
theorem mPass_24 {T : Nat → Int} {W V : wF} {nt : Int} (hW : wOK T 100000 nt W) (hV : vOK T 100000 nt V) {A : Nat → Int} (g : gd 90000 nt A) (F : Nat → Int) : (mPass W V A F).2 24 = F 24 + (wn (mPass W V A F).1 - wn A) := by
  have gC := gd_mPC g
  have hj := mPH_lt g
  have oC : ∀ k, k < 5 ∨ 19 ≤ k → mPC A k = A k := fun k hk => by unfold mPC; rw [va_up_ne _ _ (by omega), va_up_ne _ _ (by omega), va_up_ne _ _ (by omega)]
  have oD : ∀ k, k < 11 ∨ 19 ≤ k → mPD V (mPC A) (mPH A) k = mPC A k := fun k hk => by
    unfold mPD; split
    · rw [va_up_ne _ _ (by omega)]
    · rfl
  have gD := gd_mPD hV gC (by decide) hj
  have q := sett_24 hW fuS (mPD V (mPC A) (mPH A)) (va_up (va_up F 26 0) 25 0) (gd_mono gD (by decide))
  rw [va_up_ne _ _ (by decide), va_up_ne _ _ (by decide)] at q
  have e1 : wn (mPD V (mPC A) (mPH A)) = wn A := wn_eqv g.1.2 (by rw [oD 0 (by omega), oC 0 (by omega)]) (fun p hp => by rw [oD _ (by omega), oC _ (by omega)])
  have gS := (mS_ok (F := F) (Int.le_refl _) hW (gd_mono gD (by decide))).1
  have e2 : wn (mPass W V A F).1 = wn (mS W (mPD V (mPC A) (mPH A)) F).2.1 := wn_eqv gS.1.2 (mPE_o W _ F (by decide) (by decide)) (fun p hp => mPE_o W _ F (by omega) (by omega))
  rw [e2, ← e1]
  exact q
theorem wn_keep {A : Nat → Int} {c nt : Int} (ok : okR c nt A) : wn (mKeep A) = wn A := by
  have h3 := ok.2.2.2.1
  exact wn_eqv ok.1.1.2 (mKeep_o A h3.1 h3.2 (by omega)) (fun p hp => mKeep_o A h3.1 h3.2 (by omega))
theorem mNi_24 {T : Nat → Int} {W V : wF} {c nt : Int} (hW : wOK T 100000 nt W) (hV : vOK T 100000 nt V) (hc : c ≤ 88000) : ∀ (n : Nat) (A F : Nat → Int), okR c nt A → (mNi W V n A F).2.2 24 = F 24 + (wn (mNi W V n A F).2.1 - wn A) := by
  intro n
  induction n with
  | zero => intro A F ok; show F 24 = F 24 + (wn A - wn A); omega
  | succ n ih =>
    intro A F ok
    have h3 := ok.2.2.2.1
    have a5 := ok.1.2.2.2.2.2.1
    rw [mNi]
    by_cases q : A 5 = 9999
    · rw [if_pos q]; show F 24 = F 24 + (wn A - wn A); omega
    · rw [if_neg q]
      have ok1 := okR_keep ok
      rw [ih _ _ (okR_pass hW hV ok1 hc (by rw [mKeep_o A h3.1 h3.2 (by omega)]; omega) F), mPass_24 hW hV (gd_mono ok1.1 (by omega)) F, wn_keep ok]
      omega
theorem mNi_0 {T : Nat → Int} {W V : wF} {c nt : Int} (hW : wOK T 100000 nt W) (hV : vOK T 100000 nt V) (hc : c ≤ 88000) : ∀ (n : Nat) (A F : Nat → Int), okR c nt A → (mNi W V n A F).2.1 0 = A 0 := by
  intro n
  induction n with
  | zero => intro A F ok; rfl
  | succ n ih =>
    intro A F ok
    have h3 := ok.2.2.2.1
    have a5 := ok.1.2.2.2.2.2.1
    rw [mNi]
    by_cases q : A 5 = 9999
    · rw [if_pos q]
    · rw [if_neg q]
      have ok1 := okR_keep ok
      rw [ih _ _ (okR_pass hW hV ok1 hc (by rw [mKeep_o A h3.1 h3.2 (by omega)]; omega) F), mPass_o hW hV (gd_mono ok1.1 (by omega)) F (by omega), mKeep_o A h3.1 h3.2 (by omega)]
theorem eq_nx {M : gM} {d s : Nat} {x y : Int} {u v : Value} (e : x = y) {σ : gS} {Q : Option Value → gS → Prop} (k : sC M d [.ref s, u, .int (iZ x), v] σ Q) : sC M d [.ref s, u, .int (iZ y), v] σ Q := e ▸ k
set_option maxHeartbeats 4000000 in
set_option maxRecDepth 100000 in
theorem x_night {d : Nat} (hd : 8 ≤ d) {n : Int} (hn : inR n) (F : Nat → Int) (hF : F 23 = 1) (σ : gS) {W V : wF} {A I : Nat → Int} {c nt : Int} (hc : c ≤ 88000) (hn4 : nt ≤ 4) (ok : okR c nt A) (oi : okR c (I 1) I) (C : clR σ W V A I) {T : Nat → Int} (hW : wOK T 100000 nt W) (hV : vOK T 100000 nt V) : sC mX6_night d [.ref 0, .int (iZ n)] σ (fun r σ' => r = some (.int (iZ (if 1 ≤ n ∧ n ≤ 60 ∧ A 5 + n ≤ 9999 then (mNi W V n.toNat A (va_up F 24 0)).2.2 24 else -1))) ∧ chg cmdP σ σ' ∧ clR σ' W V (if 1 ≤ n ∧ n ≤ 60 ∧ A 5 + n ≤ 9999 then (mNi W V n.toNat A (va_up F 24 0)).2.1 else A) I) := by
  have g := ok_gd hc hn4 ok
  have g0 := g.1
  have n1 := ok.2.2.1
  have a2 := ok_2 ok
  have g10 := g.2.2.2.2.1
  have gL : gd 100000 4 A := gd_mono g (by decide)
  have rk := rA_ok (w0_of C) gL a2.1 a2.2
  have a5 := g.2.2.2.2.2.1
  refine sC_of rfl (Nat.le_of_ble_eq_true rfl) ?_
  show sE g_tt _ _ _ 0 [some (.ref 0), some (.int (iZ n)), none] [] σ
  refine q_iload_n dX6_night_0 rfl rfl ?_
  refine z_iconst dX6_night_1 ?_
  refine z_icmp_lt (tgt := 29) dX6_night_2 (by decide) (by unfold inR at *; omega) (by unfold inR at *; omega) (fun c_1 => ?_) (fun c_1 => ?_)
  · refine z_iconst dX6_night_29 ?_
    exact s_iretZ dX6_night_30 rfl ⟨by rw [if_neg (by omega)], chg_rf _ _, by rw [if_neg (by omega)]; exact C⟩
  · refine q_iload_n dX6_night_5 rfl rfl ?_
    refine z_bipush dX6_night_6 (by decide +kernel) ?_
    refine z_icmp_gt (tgt := 29) dX6_night_8 (by decide) (by unfold inR at *; omega) (by unfold inR at *; omega) (fun c_2 => ?_) (fun c_2 => ?_)
    · refine z_iconst dX6_night_29 ?_
      exact s_iretZ dX6_night_30 rfl ⟨by rw [if_neg (by omega)], chg_rf _ _, by rw [if_neg (by omega)]; exact C⟩
    · refine q_aload_n dX6_night_11 rfl rfl ?_
      refine sg6 (kf := 0) (v := .ref 1) dX6_night_12 flX6_10 (show kd 0 = 6 from rfl) (by decide) rfl ?_
      refine sg5 (kf := 0) (v := .ref 2) dX6_night_15 flX6_72 (show kd 1 = 5 from rfl) (by decide) rfl ?_
      refine sg2 (kf := 6) (v := .int (iZ (A 5))) dX6_night_18 flX6_144 (show kd 2 = 2 from rfl) (by decide) (by show some (Value.int (iZ (σ.1 2 6))) = _; rw [show σ.1 2 6 = A 5 from C.1.1.2.2.1.2.2.2.2.1]) ?_
      refine q_iload_n dX6_night_21 rfl rfl ?_
      refine z_iadd dX6_night_22 ?_
      refine z_sipush dX6_night_23 (by decide +kernel) ?_
      refine z_icmp_le (tgt := 31) dX6_night_26 (by decide) (by unfold inR at *; omega) (by unfold inR at *; omega) (fun c_3 => ?_) (fun c_3 => ?_)
      · refine q_aload_n dX6_night_31 rfl rfl ?_
        refine sg6 (kf := 0) (v := .ref 1) dX6_night_32 flX6_10 (show kd 0 = 6 from rfl) (by decide) rfl ?_
        refine sg5 (kf := 0) (v := .ref 2) dX6_night_35 flX6_72 (show kd 1 = 5 from rfl) (by decide) rfl ?_
        refine s_callV (ci := 2) (a := 2) (As := []) (S := []) dX6_night_38 okX2_inStreet mlX6_147 rfl (by omega) rfl (Nat.le_of_ble_eq_true rfl) (show kd 2 = 2 from rfl) (by decide) rfl (t_inStreet (d := d - 1) (s := 2) (by omega) rfl σ g C.1.1) (fun v_ σ_ hq => ?_)
        obtain ⟨rfl, e9⟩ := hq
        have e9 := e9.symm
        subst e9
        show sE g_tt _ _ _ 41 [some (.ref 0), some (.int (iZ n)), none] [.int (iZ (A 0 - cCn A (-1) (A 0).toNat))] σ
        refine q_istore_n dX6_night_41 rfl (by decide) ?_
        show sE g_tt _ _ _ 42 [some (.ref 0), some (.int (iZ n)), some (.int (iZ (A 0 - cCn A (-1) (A 0).toNat)))] [] σ
        refine q_aload_n dX6_night_42 rfl rfl ?_
        refine z_bipush dX6_night_43 (by decide +kernel) ?_
        refine q_iload_n dX6_night_45 rfl rfl ?_
        refine z_iconst dX6_night_46 ?_
        refine s_callV (ci := 6) (a := 0) (As := [.int (iZ 7), .int (iZ n), .int (iZ 0)]) (S := []) dX6_night_47 okX6_perform mlX6_150 rfl (by omega) rfl (Nat.le_of_ble_eq_true rfl) (show kd 0 = 6 from rfl) (by decide) rfl (eq_nx (show ((n.toNat : Nat) : Int) = n by omega) (x_nights (d := d - 1) (N := n.toNat) (by omega) (by omega) (v3 := 0) (va_up F 24 0) (by rw [va_up_ne _ _ (by decide)]; exact hF) σ hc hn4 ok oi C hW hV)) (fun v_ σ_ hq => ?_)
        obtain ⟨rfl, s1, C1⟩ := hq
        rename gS => σ1
        have ok1 := okR_nights hW hV hc n.toNat A (va_up F 24 0) ok
        show sE g_tt _ _ _ 50 [some (.ref 0), some (.int (iZ n)), some (.int (iZ (A 0 - cCn A (-1) (A 0).toNat)))] [.int (iZ ((mNi W V n.toNat A (va_up F 24 0)).1))] σ1
        refine q_pop dX6_night_50 rfl ?_
        refine q_iload_n dX6_night_51 rfl rfl ?_
        refine q_aload_n dX6_night_52 rfl rfl ?_
        refine sg6 (kf := 0) (v := .ref 1) dX6_night_53 flX6_10 (show kd 0 = 6 from rfl) (by decide) rfl ?_
        refine sg5 (kf := 0) (v := .ref 2) dX6_night_56 flX6_72 (show kd 1 = 5 from rfl) (by decide) rfl ?_
        refine s_callV (ci := 2) (a := 2) (As := []) (S := [.int (iZ (A 0 - cCn A (-1) (A 0).toNat))]) dX6_night_59 okX2_inStreet mlX6_147 rfl (by omega) rfl (Nat.le_of_ble_eq_true rfl) (show kd 2 = 2 from rfl) (by decide) rfl (t_inStreet (d := d - 1) (s := 2) (by omega) rfl σ1 (ok_gd hc hn4 ok1) C1.1.1) (fun v_ σ_ hq => ?_)
        obtain ⟨rfl, e9⟩ := hq
        have e9 := e9.symm
        subst e9
        show sE g_tt _ _ _ 62 [some (.ref 0), some (.int (iZ n)), some (.int (iZ (A 0 - cCn A (-1) (A 0).toNat)))] [.int (iZ ((mNi W V n.toNat A (va_up F 24 0)).2.1 0 - cCn (mNi W V n.toNat A (va_up F 24 0)).2.1 (-1) ((mNi W V n.toNat A (va_up F 24 0)).2.1 0).toNat)), .int (iZ (A 0 - cCn A (-1) (A 0).toNat))] σ1
        refine z_isub dX6_night_62 ?_
        exact s_iretZ dX6_night_63 rfl ⟨by rw [if_pos (by omega), mNi_24 hW hV hc _ _ _ ok, va_up_self]; have e0 := mNi_0 hW hV hc n.toNat A (va_up F 24 0) ok; unfold wn; congr 3; omega, s1, by rw [if_pos (by omega)]; exact C1⟩
      · refine z_iconst dX6_night_29 ?_
        exact s_iretZ dX6_night_30 rfl ⟨by rw [if_neg (by omega)], chg_rf _ _, by rw [if_neg (by omega)]; exact C⟩
