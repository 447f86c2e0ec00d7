/-! ===== a street of the class and a row of the model ===== -/
def bkR (e v : Int) : Prop := ∃ n p h : Int, (0 ≤ n ∧ n ≤ 9999) ∧ (0 ≤ p ∧ p < 5) ∧ (-1 ≤ h ∧ h ≤ 7) ∧ e = (n * 8 + p) * 16 + h + 1 ∧ v = (n * 5 + p) * 9 + h + 1
/-- the street is as the row says; its book too, if it is on -/
def trR (on : Int) (K H E f A : Nat → Int) : Prop :=
  (∀ h, h < 8 → K h = A (11 + h)) ∧ (∀ p : Nat, (p : Int) < A 0 → H p = A (19 + p)) ∧ (f 2 = A 0 ∧ f 3 = A 8 ∧ f 4 = A 7 ∧ f 5 = A 9 ∧ f 6 = A 5 ∧ f 7 = A 6) ∧ (0 ≤ f 9 ∧ f 9 ≤ 30) ∧ (¬ on = 0 → f 9 = A 10 ∧ ∀ i : Nat, (i : Int) < A 10 → bkR (E i) (A (1553 + i)))
theorem trR_off {on : Int} {K H E f A : Nat → Int} (h : trR on K H E f A) : trR 0 K H E f A := ⟨h.1, h.2.1, h.2.2.1, h.2.2.2.1, fun q => absurd rfl q⟩
theorem trR_mv {on : Int} {K H E f A : Nat → Int} (h : trR on K H E f A) (v : Int) : trR on K H E (va_up f 11 v) A := h
theorem trR_home {on : Int} {K H E f A : Nat → Int} (h : trR on K H E f A) {p : Nat} (hp : p < 5) (v : Int) : trR on K (va_up H p v) E f (va_up A (19 + p) v) := by
  have e : ∀ i, i ≠ 19 + p → va_up A (19 + p) v i = A i := fun i q => va_up_ne _ _ q
  refine ⟨fun j hj => ?_, fun q hq => ?_, ?_, h.2.2.2.1, fun q => ?_⟩
  · rw [e _ (by omega)]; exact h.1 j hj
  · rw [e 0 (by omega)] at hq
    by_cases c : q = p
    · subst c; rw [va_up_self, va_up_self]
    · rw [va_up_ne _ _ c, e _ (by omega)]; exact h.2.1 q hq
  · rw [e 0 (by omega), e 8 (by omega), e 7 (by omega), e 9 (by omega), e 5 (by omega), e 6 (by omega)]; exact h.2.2.1
  · rw [e 10 (by omega)]
    exact ⟨(h.2.2.2.2 q).1, fun i hi => by rw [e _ (by omega)]; exact (h.2.2.2.2 q).2 i hi⟩
theorem trR_kind {on : Int} {K H E f A : Nat → Int} (h : trR on K H E f A) {j : Nat} (hj : j < 8) (v : Int) : trR on (va_up K j v) H E f (va_up A (11 + j) v) := by
  have e : ∀ i, i ≠ 11 + j → va_up A (11 + j) v i = A i := fun i q => va_up_ne _ _ q
  refine ⟨fun i hi => ?_, fun q hq => ?_, ?_, h.2.2.2.1, fun q => ?_⟩
  · by_cases c : i = j
    · subst c; rw [va_up_self, va_up_self]
    · rw [va_up_ne _ _ c, e _ (by omega)]; exact h.1 i hi
  · rw [e 0 (by omega)] at hq
    rw [e _ (by omega)]; exact h.2.1 q hq
  · rw [e 0 (by omega), e 8 (by omega), e 7 (by omega), e 9 (by omega), e 5 (by omega), e 6 (by omega)]; exact h.2.2.1
  · rw [e 10 (by omega)]
    exact ⟨(h.2.2.2.2 q).1, fun i hi => by rw [e _ (by omega)]; exact (h.2.2.2.2 q).2 i hi⟩
/-- a field of the street, a place of the row -/
theorem trR_fld {on : Int} {K H E f A : Nat → Int} (h : trR on K H E f A) {k i : Nat} (hk : (k = 3 ∧ i = 8) ∨ (k = 4 ∧ i = 7) ∨ (k = 5 ∧ i = 9) ∨ (k = 6 ∧ i = 5) ∨ (k = 7 ∧ i = 6)) (v : Int) : trR on K H E (va_up f k v) (va_up A i v) := by
  have e : ∀ j, j ≠ i → va_up A i v j = A j := fun j q => va_up_ne _ _ q
  refine ⟨fun j hj => ?_, fun q hq => ?_, ?_, ?_, fun q => ?_⟩
  · rw [e _ (by omega)]; exact h.1 j hj
  · rw [e 0 (by omega)] at hq
    rw [e _ (by omega)]; exact h.2.1 q hq
  · have a := h.2.2.1
    rcases hk with ⟨rfl, rfl⟩ | ⟨rfl, rfl⟩ | ⟨rfl, rfl⟩ | ⟨rfl, rfl⟩ | ⟨rfl, rfl⟩
    · exact ⟨a.1, rfl, a.2.2⟩
    · exact ⟨a.1, a.2.1, rfl, a.2.2.2⟩
    · exact ⟨a.1, a.2.1, a.2.2.1, rfl, a.2.2.2.2⟩
    · exact ⟨a.1, a.2.1, a.2.2.1, a.2.2.2.1, rfl, a.2.2.2.2.2⟩
    · exact ⟨a.1, a.2.1, a.2.2.1, a.2.2.2.1, a.2.2.2.2.1, rfl⟩
  · rw [va_up_ne _ _ (by omega)]; exact h.2.2.2.1
  · rw [e 10 (by omega), va_up_ne _ _ (by omega)]
    exact ⟨(h.2.2.2.2 q).1, fun i hi => by rw [e _ (by omega)]; exact (h.2.2.2.2 q).2 i hi⟩
theorem mWr_bk (B : Nat → Int) (p hs : Int) (h0 : 0 ≤ B 10) (i : Nat) : mWr B p hs (1553 + i) = if (i : Int) = B 10 then (B 5 * 5 + p) * 9 + hs + 1 else B (1553 + i) := by
  unfold mWr
  rw [va_up_ne _ _ (by omega)]
  by_cases e : (i : Int) = B 10
  · rw [if_pos e, show (1553 + B 10).toNat = 1553 + i by omega, va_up_self]
  · rw [if_neg e, va_up_ne _ _ (by omega)]
theorem cWrF_9 (f : Nat → Int) : cWrF f 9 = if 30 ≤ f 9 then 30 else f 9 + 1 := by
  unfold cWrF; split <;> exact va_up_self _ _ _
theorem cWrF_ne (f : Nat → Int) {k : Nat} (hk : k ≠ 9) : cWrF f k = f k := by
  unfold cWrF; split
  · rw [va_up_ne _ _ hk, va_up_ne _ _ hk]
  · rw [va_up_ne _ _ hk]
theorem trR_write0 {K H E f A : Nat → Int} (h : trR 0 K H E f A) (E' : Nat → Int) : trR 0 K H E' (cWrF f) A := by
  refine ⟨h.1, h.2.1, ?_, ?_, fun q => absurd rfl q⟩
  · rw [cWrF_ne _ (by decide), cWrF_ne _ (by decide), cWrF_ne _ (by decide), cWrF_ne _ (by decide), cWrF_ne _ (by decide), cWrF_ne _ (by decide)]; exact h.2.2.1
  · have := h.2.2.2.1; rw [cWrF_9]; split <;> omega
theorem trR_write {on : Int} {K H E f A : Nat → Int} (h : trR on K H E f A) (ho : ¬ on = 0) (h05 : A 0 ≤ 5) (h5 : 0 ≤ A 5 ∧ A 5 ≤ 9999) (h10 : 0 ≤ A 10 ∧ A 10 ≤ 30) {p hs : Int} (hp : 0 ≤ p ∧ p < 5) (hh : -1 ≤ hs ∧ hs ≤ 7) : trR on K H (cWrE E f p hs) (cWrF f) (mWrite A p hs) := by
  have lo : ∀ i, i < 1553 → i ≠ 10 → mWrite A p hs i = A i := fun i a b => mWrite_lo A p hs h10.1 a b
  have a := h.2.2.1
  have b := h.2.2.2.2 ho
  have bn : bkR ((f 6 * 8 + p) * 16 + hs + 1) ((A 5 * 5 + p) * 9 + hs + 1) := ⟨A 5, p, hs, h5, hp, hh, by rw [a.2.2.2.2.1], rfl⟩
  refine ⟨fun j hj => ?_, fun q hq => ?_, ?_, ?_, fun _ => ⟨?_, fun i hi => ?_⟩⟩
  · rw [lo _ (by omega) (by omega)]; exact h.1 j hj
  · rw [lo 0 (by omega) (by omega)] at hq
    rw [lo _ (by omega) (by omega)]; exact h.2.1 q hq
  · rw [cWrF_ne _ (by decide), cWrF_ne _ (by decide), cWrF_ne _ (by decide), cWrF_ne _ (by decide), cWrF_ne _ (by decide), cWrF_ne _ (by decide), lo 0 (by decide) (by decide), lo 8 (by decide) (by decide), lo 7 (by decide) (by decide), lo 9 (by decide) (by decide), lo 5 (by decide) (by decide), lo 6 (by decide) (by decide)]; exact a
  · have := h.2.2.2.1; rw [cWrF_9]; split <;> omega
  · rw [cWrF_9, mWrite_10 A p hs h10.1 h10.2, b.1]
    by_cases c : A 10 = 30
    · rw [if_pos (by omega), if_pos c]
    · rw [if_neg (by omega), if_neg c]
  · rw [mWrite_10 A p hs h10.1 h10.2] at hi
    unfold mWrite cWrE
    rw [b.1]
    by_cases c : A 10 = 30
    · rw [if_pos c] at hi
      have e10 : va_up (mSh A 30) 10 (mSh A 30 10 - 1) 10 = 29 := by rw [va_up_self, mSh_lo A 30 (by decide), c]; rfl
      have e5 : va_up (mSh A 30) 10 (mSh A 30 10 - 1) 5 = A 5 := by rw [va_up_ne _ _ (by decide), mSh_lo A 30 (by decide)]
      rw [if_pos c, if_pos (by omega), mWr_bk _ _ _ (by rw [e10]; decide), e10, e5]
      by_cases q : (i : Int) = 29
      · rw [if_pos q, show i = 29 by omega, va_up_self]; exact bn
      · rw [if_neg q, va_up_ne _ _ (by omega), va_up_ne _ _ (by omega)]
        have e1 : va_cpy E E 1 0 29 i = E (i + 1) := by
          unfold va_cpy
          rw [if_pos (by omega), show 1 + (i - 0) = i + 1 by omega]
        have e2 : mSh A 30 (1553 + i) = A (1553 + (i + 1)) := by
          unfold mSh
          rw [if_pos (by omega)]
          rfl
        rw [e1, e2]
        exact b.2 (i + 1) (by omega)
    · rw [if_neg c] at hi
      rw [if_neg c, if_neg (by omega), mWr_bk _ _ _ h10.1]
      by_cases q : (i : Int) = A 10
      · rw [if_pos q, show (A 10).toNat = i by omega, va_up_self]; exact bn
      · rw [if_neg q, va_up_ne _ _ (by omega)]
        exact b.2 i (by omega)
theorem trR_hand {on : Int} {K H E f A : Nat → Int} (h : trR on K H E f A) (z : Int) : trR on (if 0 ≤ z ∧ z < 8 then va_up K z.toNat (K z.toNat + 1) else K) H E (if 0 ≤ z ∧ z < 8 then f else va_up f 3 (f 3 + 1)) (mHand A z) := by
  unfold mHand
  by_cases c : 0 ≤ z ∧ z < 8
  · rw [if_pos c, if_pos c, if_pos c, show (11 + z).toNat = 11 + z.toNat by omega]
    rw [← h.1 z.toNat (by omega)]
    exact trR_kind h (j := z.toNat) (by omega) (K z.toNat + 1)
  · rw [if_neg c, if_neg c, if_neg c]
    rw [← h.2.2.1.2.1]
    exact trR_fld h (k := 3) (i := 8) (by omega) (f 3 + 1)
set_option maxHeartbeats 4000000 in
set_option maxRecDepth 100000 in
theorem lp_handOn {d s h th n : Nat} (hd : 2 ≤ d) (hh : h < 8) (hs : kd s = 2) (σ : gS) (N : Nat → Int) (A1 F1 : Nat → Int) (h5 : 0 ≤ A1 5 ∧ A1 5 ≤ 9999) (h10 : 0 ≤ A1 10 ∧ A1 10 ≤ 30) (hn : A1 0 = (n : Int)) (hn5 : n ≤ 5) (hr : ∀ p : Nat, p < n → inR (A1 (19 + p))) (hth : ∀ p : Nat, p < n → (th.testBit p = true ↔ A1 (19 + p) = (h : Int))) : ∀ (g : Nat) (p : Nat) (K H E f : Nat → Int), p ≤ n → trR (F1 23) K H E f (mTh A1 F1 h th p).1 → f 11 = (mTh A1 F1 h th p).2 25 → (n : Int) - (p : Int) < (g : Int) → sE g_tt mX2_handOn d (fun r σ' => r = none ∧ ∃ K' H' E' f', σ' = st σ s K' H' E' (va_up N h (N h + 1)) f' ∧ trR (F1 23) K' H' E' f' (mTh A1 F1 h th n).1 ∧ f' 11 = (mTh A1 F1 h th n).2 25) 42 [some (.ref s), some (.int (iZ (h : Int))), some (.int (iZ (mMv h))), some (.int (iZ (p : Int)))] [] (st σ s K H E N f) := by
  intro g
  induction g with
  | zero =>
    intro p K H E f hp tr hm hg
    exact absurd hg (by omega)
  | succ g ih =>
    intro p K H E f hp tr hm hg
    have e0 : (mTh A1 F1 h th p).1 0 = A1 0 := mTh_lo A1 F1 h th h10.1 h10.2 (by decide) (by decide) p
    have f2 : f 2 = (n : Int) := by rw [tr.2.2.1.1, e0, hn]
    rcases Nat.lt_or_ge p n with hpn | hpn
    · have eH : H p = A1 (19 + p) := by
        rw [tr.2.1 p (by rw [e0, hn]; omega), mTh_mid A1 F1 h th h10.1 h10.2 (by omega) (by omega) p, if_neg (by omega)]
      have hHr : inR (H p) := by rw [eH]; exact hr p hpn
      by_cases hb : th.testBit p = true
      · have eh : H p = (h : Int) := by rw [eH]; exact (hth p hpn).1 hb
        refine q_iload_n dX2_handOn_42 rfl rfl ?_
        refine q_aload_n dX2_handOn_43 rfl rfl ?_
        refine tg (kf := 2) (x := f 2) dX2_handOn_44 flX2_18 hs (by decide) rfl ?_
        refine z_icmp_ge (tgt := 94) dX2_handOn_47 (by decide) (by unfold inR at *; omega) (by unfold inR at *; omega) (fun c_1 => ?_) (fun c_1 => ?_)
        · exfalso
          omega
        · refine q_iload_n dX2_handOn_50 rfl rfl ?_
          refine z_iconst dX2_handOn_51 ?_
          refine z_icmp_ge (tgt := 94) dX2_handOn_52 (by decide) (by unfold inR at *; omega) (by unfold inR at *; omega) (fun c_2 => ?_) (fun c_2 => ?_)
          · exfalso
            omega
          · refine q_aload_n dX2_handOn_55 rfl rfl ?_
            refine sg2 (kf := 1) (v := .ref (s + 2)) dX2_handOn_56 flX2_15 hs (by decide) rfl ?_
            refine q_iload_n dX2_handOn_59 rfl rfl ?_
            refine tl2 (x := H p) dX2_handOn_60 hs (by omega) (by omega) rfl ?_
            refine q_iload_n dX2_handOn_61 rfl rfl ?_
            refine z_icmp_ne (tgt := 88) dX2_handOn_62 (by decide) (by unfold inR at *; omega) (by unfold inR at *; omega) (fun c_3 => ?_) (fun c_3 => ?_)
            · exfalso
              omega
            · refine q_aload_n dX2_handOn_65 rfl rfl ?_
              refine sg2 (kf := 1) (v := .ref (s + 2)) dX2_handOn_66 flX2_15 hs (by decide) rfl ?_
              refine q_iload_n dX2_handOn_69 rfl rfl ?_
              refine q_iload_n dX2_handOn_70 rfl rfl ?_
              refine ts2 dX2_handOn_71 hs (by omega) (by omega) ?_
              refine q_aload_n dX2_handOn_72 rfl rfl ?_
              refine q_iload_n dX2_handOn_73 rfl rfl ?_
              refine q_iload_n dX2_handOn_74 rfl rfl ?_
              refine s_callV (ci := 2) (a := s) (As := [.int (iZ (p : Int)), .int (iZ (mMv h))]) (S := []) dX2_handOn_75 okX2_writeDown mlX2_65 rfl (by omega) rfl (Nat.le_of_ble_eq_true rfl) hs (by decide) rfl (c_writeDown (d := d - 1) (by omega) hs σ K (va_up H p (mMv h)) E N f (p := (p : Int)) (h := mMv h) tr.2.2.2.1.1 tr.2.2.2.1.2) (fun v_ σ_ hq => ?_)
              obtain ⟨rfl, e9⟩ := hq
              have e9 := e9.symm
              subst e9
              show sE g_tt _ _ _ 78 [some (.ref s), some (.int (iZ (h : Int))), some (.int (iZ (mMv h))), some (.int (iZ (p : Int)))] [] (st σ s K (va_up H p (mMv h)) (cWrE E f (p : Int) (mMv h)) N (cWrF f))
              refine q_aload_n dX2_handOn_78 rfl rfl ?_
              refine q_dup dX2_handOn_79 rfl ?_
              refine tg (kf := 11) (x := (cWrF f) 11) dX2_handOn_80 flX2_46 hs (by decide) rfl ?_
              refine z_iconst dX2_handOn_83 ?_
              refine z_iadd dX2_handOn_84 ?_
              refine tp (kf := 11) dX2_handOn_85 flX2_46 hs (by decide) ?_
              refine z_iinc dX2_handOn_88 rfl (by decide) ?_
              show sE g_tt _ _ _ 91 [some (.ref s), some (.int (iZ (h : Int))), some (.int (iZ (mMv h))), some (.int (iZ ((p : Int) + 1)))] [] (st σ s K (va_up H p (mMv h)) (cWrE E f (p : Int) (mMv h)) N (va_up (cWrF f) 11 (((cWrF f) 11) + 1)))
              refine q_goto (tgt := 42) dX2_handOn_91 (by decide) ?_
              refine ih (p + 1) K (va_up H p (mMv h)) (cWrE E f (p : Int) (mMv h)) (va_up (cWrF f) 11 (cWrF f 11 + 1)) (by omega) ?_ ?_ (by omega)
              · rw [mTh, if_pos hb]
                refine trR_mv ?_ _
                show trR (F1 23) _ _ _ _ (if (mTh A1 F1 h th p).2 23 = 0 then _ else _)
                rw [mTh_F A1 F1 h th (by decide) (by decide) p]
                by_cases c : F1 23 = 0
                · rw [if_pos c, c]
                  have t9 := trR_home tr (p := p) (by omega) (mMv h)
                  rw [c] at t9
                  exact trR_write0 t9 _
                · rw [if_neg c]
                  have a5 : (mTh A1 F1 h th p).1 5 = A1 5 := mTh_lo A1 F1 h th h10.1 h10.2 (by decide) (by decide) p
                  have a10 := mTh_10 A1 F1 h th h10.1 h10.2 p
                  exact trR_write (trR_home tr (p := p) (by omega) (mMv h)) c (by rw [va_up_ne _ _ (by omega), e0, hn]; omega) (by rw [va_up_ne _ _ (by omega), a5]; exact h5) (by rw [va_up_ne _ _ (by omega)]; exact a10) (by omega) (by unfold mMv; split <;> omega)
              · rw [va_up_self, cWrF_ne _ (by decide), hm, mTh, if_pos hb]
                show _ = va_up (va_up (mTh A1 F1 h th p).2 25 ((mTh A1 F1 h th p).2 25 + 1)) 24 ((mTh A1 F1 h th p).2 24 + (if mMv h = -1 then 1 else 0)) 25
                rw [va_up_ne _ _ (by decide), va_up_self]
      · have eh : ¬ H p = (h : Int) := by rw [eH]; exact fun q => hb ((hth p hpn).2 q)
        refine q_iload_n dX2_handOn_42 rfl rfl ?_
        refine q_aload_n dX2_handOn_43 rfl rfl ?_
        refine tg (kf := 2) (x := f 2) dX2_handOn_44 flX2_18 hs (by decide) rfl ?_
        refine z_icmp_ge (tgt := 94) dX2_handOn_47 (by decide) (by unfold inR at *; omega) (by unfold inR at *; omega) (fun c_1 => ?_) (fun c_1 => ?_)
        · exfalso
          omega
        · refine q_iload_n dX2_handOn_50 rfl rfl ?_
          refine z_iconst dX2_handOn_51 ?_
          refine z_icmp_ge (tgt := 94) dX2_handOn_52 (by decide) (by unfold inR at *; omega) (by unfold inR at *; omega) (fun c_2 => ?_) (fun c_2 => ?_)
          · exfalso
            omega
          · refine q_aload_n dX2_handOn_55 rfl rfl ?_
            refine sg2 (kf := 1) (v := .ref (s + 2)) dX2_handOn_56 flX2_15 hs (by decide) rfl ?_
            refine q_iload_n dX2_handOn_59 rfl rfl ?_
            refine tl2 (x := H p) dX2_handOn_60 hs (by omega) (by omega) rfl ?_
            refine q_iload_n dX2_handOn_61 rfl rfl ?_
            refine z_icmp_ne (tgt := 88) dX2_handOn_62 (by decide) (by unfold inR at *; omega) (by unfold inR at *; omega) (fun c_3 => ?_) (fun c_3 => ?_)
            · refine z_iinc dX2_handOn_88 rfl (by decide) ?_
              show sE g_tt _ _ _ 91 [some (.ref s), some (.int (iZ (h : Int))), some (.int (iZ (mMv h))), some (.int (iZ ((p : Int) + 1)))] [] (st σ s K H E N f)
              refine q_goto (tgt := 42) dX2_handOn_91 (by decide) ?_
              refine ih (p + 1) K H E f (by omega) ?_ ?_ (by omega)
              · rw [mTh, if_neg hb]; exact tr
              · rw [mTh, if_neg hb]; exact hm
            · exfalso
              omega
    · refine q_iload_n dX2_handOn_42 rfl rfl ?_
      refine q_aload_n dX2_handOn_43 rfl rfl ?_
      refine tg (kf := 2) (x := f 2) dX2_handOn_44 flX2_18 hs (by decide) rfl ?_
      refine z_icmp_ge (tgt := 94) dX2_handOn_47 (by decide) (by unfold inR at *; omega) (by unfold inR at *; omega) (fun c_1 => ?_) (fun c_1 => ?_)
      · refine q_aload_n dX2_handOn_94 rfl rfl ?_
        refine sg2 (kf := 10) (v := .ref (s + 4)) dX2_handOn_95 flX2_43 hs (by decide) rfl ?_
        refine q_iload_n dX2_handOn_98 rfl rfl ?_
        refine q_dup2 dX2_handOn_99 rfl rfl ?_
        refine tl4 (x := N h) dX2_handOn_100 hs (by omega) (by omega) rfl ?_
        refine z_iconst dX2_handOn_101 ?_
        refine z_iadd dX2_handOn_102 ?_
        refine ts4 dX2_handOn_103 hs (by omega) (by omega) ?_
        exact s_vret dX2_handOn_104 rfl ⟨rfl, K, H, E, f, rfl, by rw [show n = p by omega]; exact tr, by rw [show n = p by omega]; exact hm⟩
      · refine q_iload_n dX2_handOn_50 rfl rfl ?_
        refine z_iconst dX2_handOn_51 ?_
        refine z_icmp_ge (tgt := 94) dX2_handOn_52 (by decide) (by unfold inR at *; omega) (by unfold inR at *; omega) (fun c_2 => ?_) (fun c_2 => ?_)
        · refine q_aload_n dX2_handOn_94 rfl rfl ?_
          refine sg2 (kf := 10) (v := .ref (s + 4)) dX2_handOn_95 flX2_43 hs (by decide) rfl ?_
          refine q_iload_n dX2_handOn_98 rfl rfl ?_
          refine q_dup2 dX2_handOn_99 rfl rfl ?_
          refine tl4 (x := N h) dX2_handOn_100 hs (by omega) (by omega) rfl ?_
          refine z_iconst dX2_handOn_101 ?_
          refine z_iadd dX2_handOn_102 ?_
          refine ts4 dX2_handOn_103 hs (by omega) (by omega) ?_
          exact s_vret dX2_handOn_104 rfl ⟨rfl, K, H, E, f, rfl, by rw [show n = p by omega]; exact tr, by rw [show n = p by omega]; exact hm⟩
        · exfalso
          omega
set_option maxHeartbeats 4000000 in
set_option maxRecDepth 100000 in
theorem c_handOn {d s h : Nat} (hd : 2 ≤ d) (hh : h < 8) (hs : kd s = 2) (σ : gS) (K H E N f : Nat → Int) (A F : Nat → Int) {c nt : Int} (g : gd c nt A) (tr : trR (F 23) K H E f A) (hm : f 11 = F 25) : sC mX2_handOn d [.ref s, .int (iZ (h : Int))] (st σ s K H E N f) (fun r σ' => r = none ∧ ∃ K' H' E' f', σ' = st σ s K' H' E' (va_up N h (N h + 1)) f' ∧ trR (F 23) K' H' E' f' (mThank A F h).1 ∧ f' 11 = (mThank A F h).2 25) := by
  refine sC_of rfl (Nat.le_of_ble_eq_true rfl) ?_
  show sE g_tt _ _ _ 0 [some (.ref s), some (.int (iZ (h : Int))), none, none] [] (st σ s K H E N f)
  refine q_aload_n dX2_handOn_0 rfl rfl ?_
  refine sg2 (kf := 0) (v := .ref (s + 1)) dX2_handOn_1 flX2_9 hs (by decide) rfl ?_
  refine q_iload_n dX2_handOn_4 rfl rfl ?_
  refine q_dup2 dX2_handOn_5 rfl rfl ?_
  refine tl1 (x := K h) dX2_handOn_6 hs (by omega) (by omega) rfl ?_
  refine z_iconst dX2_handOn_7 ?_
  refine z_isub dX2_handOn_8 ?_
  refine ts1 dX2_handOn_9 hs (by omega) (by omega) ?_
  refine q_aload_n dX2_handOn_10 rfl rfl ?_
  refine q_iload_n dX2_handOn_11 rfl rfl ?_
  refine z_iconst dX2_handOn_12 ?_
  refine z_isub dX2_handOn_13 ?_
  refine s_callV (ci := 2) (a := s) (As := [.int (iZ ((h : Int) - 1))]) (S := []) dX2_handOn_14 okX2_giveOne mlX2_61 rfl (by omega) rfl (Nat.le_of_ble_eq_true rfl) hs (by decide) rfl (c_giveOne (d := d - 1) (by omega) hs σ (va_up K h ((K h) - 2)) H E N f (z := (h : Int) - 1) (by unfold inR; omega)) (fun v_ σ_ hq => ?_)
  obtain ⟨rfl, e9⟩ := hq
  have e9 := e9.symm
  subst e9
  have t1 : trR (F 23) (va_up K h (K h - 2)) H E f (va_up A (11 + h) (A (11 + h) - 2)) := by rw [← tr.1 h hh]; exact trR_kind tr hh (K h - 2)
  have t2 := trR_hand t1 ((h : Int) - 1)
  show sE g_tt _ _ _ 17 [some (.ref s), some (.int (iZ (h : Int))), none, none] [] (st σ s (if 0 ≤ (h : Int) - 1 ∧ (h : Int) - 1 < 8 then va_up (va_up K h ((K h) - 2)) ((h : Int) - 1).toNat ((va_up K h ((K h) - 2)) ((h : Int) - 1).toNat + 1) else va_up K h ((K h) - 2)) H E N (if 0 ≤ (h : Int) - 1 ∧ (h : Int) - 1 < 8 then f else va_up f 3 (f 3 + 1)))
  refine q_aload_n dX2_handOn_17 rfl rfl ?_
  refine q_iload_n dX2_handOn_18 rfl rfl ?_
  refine z_iconst dX2_handOn_19 ?_
  refine z_iadd dX2_handOn_20 ?_
  refine s_callV (ci := 2) (a := s) (As := [.int (iZ ((h : Int) + 1))]) (S := []) dX2_handOn_21 okX2_giveOne mlX2_61 rfl (by omega) rfl (Nat.le_of_ble_eq_true rfl) hs (by decide) rfl (c_giveOne (d := d - 1) (by omega) hs σ (if 0 ≤ (h : Int) - 1 ∧ (h : Int) - 1 < 8 then va_up (va_up K h ((K h) - 2)) ((h : Int) - 1).toNat ((va_up K h ((K h) - 2)) ((h : Int) - 1).toNat + 1) else va_up K h ((K h) - 2)) H E N (if 0 ≤ (h : Int) - 1 ∧ (h : Int) - 1 < 8 then f else va_up f 3 (f 3 + 1)) (z := (h : Int) + 1) (by unfold inR; omega)) (fun v_ σ_ hq => ?_)
  obtain ⟨rfl, e9⟩ := hq
  have e9 := e9.symm
  subst e9
  have t3 := trR_hand t2 ((h : Int) + 1)
  show sE g_tt _ _ _ 24 [some (.ref s), some (.int (iZ (h : Int))), none, none] [] (st σ s (if 0 ≤ (h : Int) + 1 ∧ (h : Int) + 1 < 8 then va_up (if 0 ≤ (h : Int) - 1 ∧ (h : Int) - 1 < 8 then va_up (va_up K h ((K h) - 2)) ((h : Int) - 1).toNat ((va_up K h ((K h) - 2)) ((h : Int) - 1).toNat + 1) else va_up K h ((K h) - 2)) ((h : Int) + 1).toNat ((if 0 ≤ (h : Int) - 1 ∧ (h : Int) - 1 < 8 then va_up (va_up K h ((K h) - 2)) ((h : Int) - 1).toNat ((va_up K h ((K h) - 2)) ((h : Int) - 1).toNat + 1) else va_up K h ((K h) - 2)) ((h : Int) + 1).toNat + 1) else (if 0 ≤ (h : Int) - 1 ∧ (h : Int) - 1 < 8 then va_up (va_up K h ((K h) - 2)) ((h : Int) - 1).toNat ((va_up K h ((K h) - 2)) ((h : Int) - 1).toNat + 1) else va_up K h ((K h) - 2))) H E N (if 0 ≤ (h : Int) + 1 ∧ (h : Int) + 1 < 8 then (if 0 ≤ (h : Int) - 1 ∧ (h : Int) - 1 < 8 then f else va_up f 3 (f 3 + 1)) else va_up (if 0 ≤ (h : Int) - 1 ∧ (h : Int) - 1 < 8 then f else va_up f 3 (f 3 + 1)) 3 ((if 0 ≤ (h : Int) - 1 ∧ (h : Int) - 1 < 8 then f else va_up f 3 (f 3 + 1)) 3 + 1)))
  refine q_iload_n dX2_handOn_24 rfl rfl ?_
  refine z_iconst dX2_handOn_25 ?_
  refine z_iadd dX2_handOn_26 ?_
  refine z_bipush dX2_handOn_27 (by decide +kernel) ?_
  refine z_icmp_ge (tgt := 38) dX2_handOn_29 (by decide) (by unfold inR at *; omega) (by unfold inR at *; omega) (fun c_1 => ?_) (fun c_1 => ?_)
  · refine z_iconst dX2_handOn_38 ?_
    refine z_top (y := mMv h) (by unfold mMv; rw [if_neg (by omega)]) ?_
    refine q_istore_n dX2_handOn_39 rfl (by decide) ?_
    show sE g_tt _ _ _ 40 [some (.ref s), some (.int (iZ (h : Int))), some (.int (iZ (mMv h))), none] [] (st σ s (if 0 ≤ (h : Int) + 1 ∧ (h : Int) + 1 < 8 then va_up (if 0 ≤ (h : Int) - 1 ∧ (h : Int) - 1 < 8 then va_up (va_up K h ((K h) - 2)) ((h : Int) - 1).toNat ((va_up K h ((K h) - 2)) ((h : Int) - 1).toNat + 1) else va_up K h ((K h) - 2)) ((h : Int) + 1).toNat ((if 0 ≤ (h : Int) - 1 ∧ (h : Int) - 1 < 8 then va_up (va_up K h ((K h) - 2)) ((h : Int) - 1).toNat ((va_up K h ((K h) - 2)) ((h : Int) - 1).toNat + 1) else va_up K h ((K h) - 2)) ((h : Int) + 1).toNat + 1) else (if 0 ≤ (h : Int) - 1 ∧ (h : Int) - 1 < 8 then va_up (va_up K h ((K h) - 2)) ((h : Int) - 1).toNat ((va_up K h ((K h) - 2)) ((h : Int) - 1).toNat + 1) else va_up K h ((K h) - 2))) H E N (if 0 ≤ (h : Int) + 1 ∧ (h : Int) + 1 < 8 then (if 0 ≤ (h : Int) - 1 ∧ (h : Int) - 1 < 8 then f else va_up f 3 (f 3 + 1)) else va_up (if 0 ≤ (h : Int) - 1 ∧ (h : Int) - 1 < 8 then f else va_up f 3 (f 3 + 1)) 3 ((if 0 ≤ (h : Int) - 1 ∧ (h : Int) - 1 < 8 then f else va_up f 3 (f 3 + 1)) 3 + 1)))
    refine z_iconst dX2_handOn_40 ?_
    refine q_istore_n dX2_handOn_41 rfl (by decide) ?_
    show sE g_tt _ _ _ 42 [some (.ref s), some (.int (iZ (h : Int))), some (.int (iZ (mMv h))), some (.int (iZ 0))] [] (st σ s (if 0 ≤ (h : Int) + 1 ∧ (h : Int) + 1 < 8 then va_up (if 0 ≤ (h : Int) - 1 ∧ (h : Int) - 1 < 8 then va_up (va_up K h ((K h) - 2)) ((h : Int) - 1).toNat ((va_up K h ((K h) - 2)) ((h : Int) - 1).toNat + 1) else va_up K h ((K h) - 2)) ((h : Int) + 1).toNat ((if 0 ≤ (h : Int) - 1 ∧ (h : Int) - 1 < 8 then va_up (va_up K h ((K h) - 2)) ((h : Int) - 1).toNat ((va_up K h ((K h) - 2)) ((h : Int) - 1).toNat + 1) else va_up K h ((K h) - 2)) ((h : Int) + 1).toNat + 1) else (if 0 ≤ (h : Int) - 1 ∧ (h : Int) - 1 < 8 then va_up (va_up K h ((K h) - 2)) ((h : Int) - 1).toNat ((va_up K h ((K h) - 2)) ((h : Int) - 1).toNat + 1) else va_up K h ((K h) - 2))) H E N (if 0 ≤ (h : Int) + 1 ∧ (h : Int) + 1 < 8 then (if 0 ≤ (h : Int) - 1 ∧ (h : Int) - 1 < 8 then f else va_up f 3 (f 3 + 1)) else va_up (if 0 ≤ (h : Int) - 1 ∧ (h : Int) - 1 < 8 then f else va_up f 3 (f 3 + 1)) 3 ((if 0 ≤ (h : Int) - 1 ∧ (h : Int) - 1 < 8 then f else va_up f 3 (f 3 + 1)) 3 + 1)))
    obtain ⟨n, hn⟩ : ∃ n : Nat, A 0 = (n : Int) := ⟨(A 0).toNat, by have := g.1; omega⟩
    have e0 : (mKd A h) 0 = A 0 := mKd_ne A hh (by decide) (by decide)
    have e5 : (mKd A h) 5 = A 5 := mKd_ne A hh (by decide) (by decide)
    have e10 : (mKd A h) 10 = A 10 := mKd_ne A hh (by decide) (by decide)
    have f11 : (if 0 ≤ (h : Int) + 1 ∧ (h : Int) + 1 < 8 then (if 0 ≤ (h : Int) - 1 ∧ (h : Int) - 1 < 8 then f else va_up f 3 (f 3 + 1)) else va_up (if 0 ≤ (h : Int) - 1 ∧ (h : Int) - 1 < 8 then f else va_up f 3 (f 3 + 1)) 3 ((if 0 ≤ (h : Int) - 1 ∧ (h : Int) - 1 < 8 then f else va_up f 3 (f 3 + 1)) 3 + 1)) 11 = f 11 := by repeat' (first | rfl | split)
    refine sE_imp (fun v σ9 q => ?_) (lp_handOn (th := mPeo (mKd A h) h (A 0).toNat) (n := n) hd hh hs σ N (mKd A h) (va_up F 26 (((F 26).toNat ||| 2 ^ h : Nat) : Int)) (by rw [e5]; exact g.2.2.2.2.2.1) (by rw [e10]; exact g.2.2.2.2.1) (by rw [e0]; exact hn) (by have := g.1; omega) (fun p hp => by rw [mKd_ne A hh (by omega) (by omega)]; exact gdh g p (by have := g.1; omega)) (fun p hp => by rw [mPeo_bit]; simp; omega) 6 0 _ _ _ _ (by omega) t3 (by rw [f11]; exact hm) (by have := g.1; omega))
    have e9 : mThank A F h = mTh (mKd A h) (va_up F 26 (((F 26).toNat ||| 2 ^ h : Nat) : Int)) h (mPeo (mKd A h) h (A 0).toNat) n := by unfold mThank; rw [show (A 0).toNat = n by omega]
    rw [e9]
    exact q
  · refine q_iload_n dX2_handOn_32 rfl rfl ?_
    refine z_iconst dX2_handOn_33 ?_
    refine z_iadd dX2_handOn_34 ?_
    refine z_top (y := mMv h) (by unfold mMv; rw [if_pos (by omega)]) ?_
    refine q_goto (tgt := 39) dX2_handOn_35 (by decide) ?_
    refine q_istore_n dX2_handOn_39 rfl (by decide) ?_
    show sE g_tt _ _ _ 40 [some (.ref s), some (.int (iZ (h : Int))), some (.int (iZ (mMv h))), none] [] (st σ s (if 0 ≤ (h : Int) + 1 ∧ (h : Int) + 1 < 8 then va_up (if 0 ≤ (h : Int) - 1 ∧ (h : Int) - 1 < 8 then va_up (va_up K h ((K h) - 2)) ((h : Int) - 1).toNat ((va_up K h ((K h) - 2)) ((h : Int) - 1).toNat + 1) else va_up K h ((K h) - 2)) ((h : Int) + 1).toNat ((if 0 ≤ (h : Int) - 1 ∧ (h : Int) - 1 < 8 then va_up (va_up K h ((K h) - 2)) ((h : Int) - 1).toNat ((va_up K h ((K h) - 2)) ((h : Int) - 1).toNat + 1) else va_up K h ((K h) - 2)) ((h : Int) + 1).toNat + 1) else (if 0 ≤ (h : Int) - 1 ∧ (h : Int) - 1 < 8 then va_up (va_up K h ((K h) - 2)) ((h : Int) - 1).toNat ((va_up K h ((K h) - 2)) ((h : Int) - 1).toNat + 1) else va_up K h ((K h) - 2))) H E N (if 0 ≤ (h : Int) + 1 ∧ (h : Int) + 1 < 8 then (if 0 ≤ (h : Int) - 1 ∧ (h : Int) - 1 < 8 then f else va_up f 3 (f 3 + 1)) else va_up (if 0 ≤ (h : Int) - 1 ∧ (h : Int) - 1 < 8 then f else va_up f 3 (f 3 + 1)) 3 ((if 0 ≤ (h : Int) - 1 ∧ (h : Int) - 1 < 8 then f else va_up f 3 (f 3 + 1)) 3 + 1)))
    refine z_iconst dX2_handOn_40 ?_
    refine q_istore_n dX2_handOn_41 rfl (by decide) ?_
    show sE g_tt _ _ _ 42 [some (.ref s), some (.int (iZ (h : Int))), some (.int (iZ (mMv h))), some (.int (iZ 0))] [] (st σ s (if 0 ≤ (h : Int) + 1 ∧ (h : Int) + 1 < 8 then va_up (if 0 ≤ (h : Int) - 1 ∧ (h : Int) - 1 < 8 then va_up (va_up K h ((K h) - 2)) ((h : Int) - 1).toNat ((va_up K h ((K h) - 2)) ((h : Int) - 1).toNat + 1) else va_up K h ((K h) - 2)) ((h : Int) + 1).toNat ((if 0 ≤ (h : Int) - 1 ∧ (h : Int) - 1 < 8 then va_up (va_up K h ((K h) - 2)) ((h : Int) - 1).toNat ((va_up K h ((K h) - 2)) ((h : Int) - 1).toNat + 1) else va_up K h ((K h) - 2)) ((h : Int) + 1).toNat + 1) else (if 0 ≤ (h : Int) - 1 ∧ (h : Int) - 1 < 8 then va_up (va_up K h ((K h) - 2)) ((h : Int) - 1).toNat ((va_up K h ((K h) - 2)) ((h : Int) - 1).toNat + 1) else va_up K h ((K h) - 2))) H E N (if 0 ≤ (h : Int) + 1 ∧ (h : Int) + 1 < 8 then (if 0 ≤ (h : Int) - 1 ∧ (h : Int) - 1 < 8 then f else va_up f 3 (f 3 + 1)) else va_up (if 0 ≤ (h : Int) - 1 ∧ (h : Int) - 1 < 8 then f else va_up f 3 (f 3 + 1)) 3 ((if 0 ≤ (h : Int) - 1 ∧ (h : Int) - 1 < 8 then f else va_up f 3 (f 3 + 1)) 3 + 1)))
    obtain ⟨n, hn⟩ : ∃ n : Nat, A 0 = (n : Int) := ⟨(A 0).toNat, by have := g.1; omega⟩
    have e0 : (mKd A h) 0 = A 0 := mKd_ne A hh (by decide) (by decide)
    have e5 : (mKd A h) 5 = A 5 := mKd_ne A hh (by decide) (by decide)
    have e10 : (mKd A h) 10 = A 10 := mKd_ne A hh (by decide) (by decide)
    have f11 : (if 0 ≤ (h : Int) + 1 ∧ (h : Int) + 1 < 8 then (if 0 ≤ (h : Int) - 1 ∧ (h : Int) - 1 < 8 then f else va_up f 3 (f 3 + 1)) else va_up (if 0 ≤ (h : Int) - 1 ∧ (h : Int) - 1 < 8 then f else va_up f 3 (f 3 + 1)) 3 ((if 0 ≤ (h : Int) - 1 ∧ (h : Int) - 1 < 8 then f else va_up f 3 (f 3 + 1)) 3 + 1)) 11 = f 11 := by repeat' (first | rfl | split)
    refine sE_imp (fun v σ9 q => ?_) (lp_handOn (th := mPeo (mKd A h) h (A 0).toNat) (n := n) hd hh hs σ N (mKd A h) (va_up F 26 (((F 26).toNat ||| 2 ^ h : Nat) : Int)) (by rw [e5]; exact g.2.2.2.2.2.1) (by rw [e10]; exact g.2.2.2.2.1) (by rw [e0]; exact hn) (by have := g.1; omega) (fun p hp => by rw [mKd_ne A hh (by omega) (by omega)]; exact gdh g p (by have := g.1; omega)) (fun p hp => by rw [mPeo_bit]; simp; omega) 6 0 _ _ _ _ (by omega) t3 (by rw [f11]; exact hm) (by have := g.1; omega))
    have e9 : mThank A F h = mTh (mKd A h) (va_up F 26 (((F 26).toNat ||| 2 ^ h : Nat) : Int)) h (mPeo (mKd A h) h (A 0).toNat) n := by unfold mThank; rw [show (A 0).toNat = n by omega]
    rw [e9]
    exact q
