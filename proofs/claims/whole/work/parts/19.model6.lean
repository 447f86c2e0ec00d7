/-- a state with the rows of a sum (values, truths) by name -/
def ev (σ : gS) (J R : Nat → Int) : gS := (σ.1, va_up σ.2.1 392 R, va_up σ.2.2.1 391 J, σ.2.2.2)
theorem ev_id (σ : gS) : ev σ (σ.2.2.1 391) (σ.2.1 392) = σ := by
  have e1 : va_up σ.2.2.1 391 (σ.2.2.1 391) = σ.2.2.1 := by
    funext x; by_cases h : x = 391
    · subst h; exact va_up_self _ _ _
    · exact va_up_ne _ _ h
  have e2 : va_up σ.2.1 392 (σ.2.1 392) = σ.2.1 := by
    funext x; by_cases h : x = 392
    · subst h; exact va_up_self _ _ _
    · exact va_up_ne _ _ h
  unfold ev
  rw [e1, e2]
theorem ev_J (σ : gS) (J R : Nat → Int) (k : Nat) (z : Int) : sJ (ev σ J R) 391 k z = ev σ (va_up J k z) R := by
  unfold sJ ev up2
  simp only [va_up_self, bx_uu]
theorem ev_R (σ : gS) (J R : Nat → Int) (k : Nat) (z : Int) : sR (ev σ J R) 392 k z = ev σ J (va_up R k z) := by
  unfold sR ev up2
  simp only [va_up_self, bx_uu]
section ER
variable {Y : gY} {M : gM} {d : Nat} {Q : Option Value → gS → Prop} {pc : Nat} {L : List (Option Value)} {S : List Value} {σ : gS} {A F J R : Nat → Int}
theorem e_lst {z x : Int} {k : Nat} (hd : decode M.2.1 pc = .ok (.lastore, 1)) (h0 : 0 ≤ z) (h1 : z < 330) (hk : z.toNat = k) (kk : sE Y M d Q (pc + 1) L S (ms (ev σ (va_up J k x) R) A F)) : sE Y M d Q pc L (.long (lZ x) :: .int (iZ z) :: .ref 391 :: S) (ms (ev σ J R) A F) :=
  mo_lst (n := 330) hd rfl (by decide) h0 h1 (by decide) (by rw [ev_J, hk]; exact kk)
theorem e_zst {z x : Int} {k : Nat} (hd : decode M.2.1 pc = .ok (.bastore, 1)) (h0 : 0 ≤ z) (h1 : z < 330) (hk : z.toNat = k) (hx : x = 0 ∨ x = 1) (kk : sE Y M d Q (pc + 1) L S (ms (ev σ J (va_up R k x)) A F)) : sE Y M d Q pc L (.int (iZ x) :: .int (iZ z) :: .ref 392 :: S) (ms (ev σ J R) A F) :=
  mo_zst (n := 330) hd rfl (by decide) h0 h1 (by decide) hx (by rw [ev_R, hk]; exact kk)
end ER
abbrev mX : Type := (Nat → Int) × (Nat → Int) × Nat × Nat
def mHk (A : Nat → Int) (h : Int) : Int := if 0 ≤ h ∧ h < 8 then A (11 + h).toNat else 0
/-- one instruction of a sum: op, value; X: values, truths, how many of each -/
def mEs (A nm : Nat → Int) (o v : Int) (X : mX) : mX :=
  if o ≤ 1 then (va_up X.1 X.2.2.1 (if o = 0 then v else nm v.toNat), X.2.1, X.2.2.1 + 1, X.2.2.2)
  else if o = 3 then (if X.2.1 (X.2.2.2 - 1) = 0 then va_up X.1 (X.2.2.1 - 2) (X.1 (X.2.2.1 - 1)) else X.1, X.2.1, X.2.2.1 - 1, X.2.2.2 - 1)
  else if o = 5 then (va_up X.1 (X.2.2.1 - 1) (-(X.1 (X.2.2.1 - 1))), X.2.1, X.2.2.1, X.2.2.2)
  else if o = 2 then (va_up X.1 (X.2.2.1 - 1) (mHk A (X.1 (X.2.2.1 - 1))), X.2.1, X.2.2.1, X.2.2.2)
  else if o < 10 then (if o = 4 then (if mTwo 7 (X.1 (X.2.2.1 - 2)) (X.1 (X.2.2.1 - 1)) < 0 then va_up (va_up X.1 (X.2.2.1 - 2) (mTwo 7 (X.1 (X.2.2.1 - 2)) (X.1 (X.2.2.1 - 1)))) (X.2.2.1 - 2) 0 else va_up X.1 (X.2.2.1 - 2) (mTwo 7 (X.1 (X.2.2.1 - 2)) (X.1 (X.2.2.1 - 1)))) else va_up X.1 (X.2.2.1 - 2) (mTwo o (X.1 (X.2.2.1 - 2)) (X.1 (X.2.2.1 - 1))), X.2.1, X.2.2.1 - 1, X.2.2.2)
  else if o < 20 then (X.1, va_up X.2.1 X.2.2.2 (mAskB o (X.1 (X.2.2.1 - 2)) (X.1 (X.2.2.1 - 1))), X.2.2.1 - 2, X.2.2.2 + 1)
  else if o = 20 then (X.1, va_up X.2.1 (X.2.2.2 - 1) (if X.2.1 (X.2.2.2 - 1) = 0 then 1 else 0), X.2.2.1, X.2.2.2)
  else (X.1, va_up X.2.1 (X.2.2.2 - 2) (mJoin o (X.2.1 (X.2.2.2 - 2)) (X.2.1 (X.2.2.2 - 1))), X.2.2.1, X.2.2.2 - 1)
def mil (x : Int) : Prop := -1000000 ≤ x ∧ x ≤ 1000000
/-- one instruction can be done -/
def mOk (nm : Nat → Int) (o v : Int) (X : mX) : Prop :=
  inR o ∧ 0 ≤ o ∧ X.2.2.1 ≤ 330 ∧ X.2.2.2 ≤ 330 ∧ (o ≤ 1 → X.2.2.1 < 330 ∧ inR v ∧ (¬ o = 0 → 0 ≤ v ∧ v < 8 ∧ inR (nm v.toNat))) ∧ (o = 3 → 2 ≤ X.2.2.1 ∧ 1 ≤ X.2.2.2 ∧ inR (X.2.1 (X.2.2.2 - 1))) ∧ (o = 5 ∨ o = 2 → 1 ≤ X.2.2.1 ∧ mil (X.1 (X.2.2.1 - 1))) ∧ (4 ≤ o ∧ o < 20 ∧ ¬ o = 5 → 2 ≤ X.2.2.1 ∧ mil (X.1 (X.2.2.1 - 2)) ∧ mil (X.1 (X.2.2.1 - 1))) ∧ (10 ≤ o ∧ o < 20 → X.2.2.2 < 330) ∧ (20 ≤ o → 1 ≤ X.2.2.2 ∧ inR (X.2.1 (X.2.2.2 - 1))) ∧ (20 < o → 2 ≤ X.2.2.2 ∧ inR (X.2.1 (X.2.2.2 - 2)))
/-- the instructions from i on, k of them; T: the texts' row, c: where the text's code begins -/
def mRun (A nm T : Nat → Int) (c : Nat) : Nat → Nat → mX → mX
  | 0, _, X => X
  | k + 1, i, X => mRun A nm T c k (i + 1) (mEs A nm (T (c + 2 * i)) (T (c + 2 * i + 1)) X)
def mSafe (A nm T : Nat → Int) (c : Nat) : Nat → Nat → mX → Prop
  | 0, _, _ => True
  | k + 1, i, X => mOk nm (T (c + 2 * i)) (T (c + 2 * i + 1)) X ∧ mSafe A nm T c k (i + 1) (mEs A nm (T (c + 2 * i)) (T (c + 2 * i + 1)) X)
theorem mTwo_mil (o x y : Int) : mil (mTwo o x y) := by
  unfold mTwo
  repeat' split
  all_goals first | exact mClip_ran _ | exact ⟨by decide, by decide⟩
theorem mTwo_inL (o x y : Int) : inL (mTwo o x y) := by
  have := mTwo_mil o x y
  unfold mil at this
  unfold inL
  omega
theorem mAsk01 (o x y : Int) : mAskB o x y = 0 ∨ mAskB o x y = 1 := by
  unfold mAskB
  repeat' split
  all_goals simp
theorem mJoin01 (o x y : Int) : mJoin o x y = 0 ∨ mJoin o x y = 1 := by
  unfold mJoin
  repeat' split
  all_goals simp
set_option maxHeartbeats 4000000 in
set_option maxRecDepth 100000 in
theorem lp_summedUp {d c x je : Nat} (hd : 2 ≤ d) (σ : gS) (A F : Nat → Int) (l1 l2 : Option Value) (hx : x + 2 < 2724) (hje : σ.2.1 387 (x + 2) = (je : Int)) (hcj : c + 2 * je ≤ 2724) (hkA : ∀ h : Int, 0 ≤ h ∧ h < 8 → inR (A (11 + h).toNat)) : ∀ (f i : Nat) (J R : Nat → Int) (n t : Nat) (l8 l9 : Option Value), i ≤ je → mSafe A (σ.2.1 390) (σ.2.1 387) c (je - i) i (J, R, n, t) → (je : Int) - i < (f : Int) → sE g_tt mX7_summedUp d (fun r σ' => r = some (.long (lZ ((mRun A (σ.2.1 390) (σ.2.1 387) c (je - i) i (J, R, n, t)).1 0))) ∧ ∃ J' R', σ' = ms (ev σ J' R') A F) 38 [some (.ref 384), l1, l2, some (.int (iZ (x : Int))), some (.int (iZ (c : Int))), some (.int (iZ (n : Int))), some (.int (iZ (t : Int))), some (.int (iZ (i : Int))), l8, l9] [] (ms (ev σ J R) A F) := by
  intro f
  induction f with
  | zero =>
    intro i J R n t l8 l9 hi hsf hn
    exact absurd hn (by omega)
  | succ f ih =>
    intro i J R n t l8 l9 hi hsf hn
    obtain ⟨o, ho⟩ : ∃ o, σ.2.1 387 (c + 2 * i) = o := ⟨_, rfl⟩
    obtain ⟨v, hv⟩ : ∃ v, σ.2.1 387 (c + 2 * i + 1) = v := ⟨_, rfl⟩
    refine q_iload dX7_summedUp_38 rfl ?_
    refine q_aload_n dX7_summedUp_40 rfl rfl ?_
    refine sg7 (kf := 2) (v := .ref 387) dX7_summedUp_41 flX7_16 (show kd 384 = 7 from rfl) (by decide) rfl ?_
    refine q_iload_n dX7_summedUp_44 rfl rfl ?_
    refine z_iconst dX7_summedUp_45 ?_
    refine z_iadd dX7_summedUp_46 ?_
    refine s_iald (n := 2724) (x := (je : Int)) dX7_summedUp_47 (show kd 387 = 100 + 2724 from rfl) (by omega) (by omega) (by decide) (by show σ.2.1 387 _ = _; rw [← hje] <;> (congr 1 <;> omega)) ?_
    refine z_icmp_ge (tgt := 419) dX7_summedUp_48 (by decide) (by unfold inR; omega) (by unfold inR; omega) (fun c_1 => ?_) (fun c_1 => ?_)
    · refine q_aload_n dX7_summedUp_419 rfl rfl ?_
      refine sg7 (kf := 21) (v := .ref 391) dX7_summedUp_420 flX7_35 (show kd 384 = 7 from rfl) (by decide) rfl ?_
      refine z_iconst dX7_summedUp_423 ?_
      refine s_lald (n := 330) (x := J 0) dX7_summedUp_424 (show kd 391 = 100000 + 330 from rfl) (by omega) (by omega) (by decide) (by show J (0 : Int).toNat = _; rw [show (0 : Int).toNat = 0 by omega]) ?_
      exact s_lret dX7_summedUp_425 rfl ⟨by rw [show je - i = 0 by omega]; rfl, J, R, rfl⟩
    · obtain ⟨q, hq⟩ : ∃ q, je - i = q + 1 := ⟨je - i - 1, by omega⟩
      rw [hq] at hsf
      obtain ⟨hok, hsf⟩ := hsf
      rw [ho, hv] at hok
      simp only [mOk, inR, mil] at hok
      obtain ⟨hoR, ho0, hn330, ht330, k1, k3, k5, k9, k19, k20, k21⟩ := hok
      refine q_aload_n dX7_summedUp_51 rfl rfl ?_
      refine sg7 (kf := 2) (v := .ref 387) dX7_summedUp_52 flX7_16 (show kd 384 = 7 from rfl) (by decide) rfl ?_
      refine q_iload dX7_summedUp_55 rfl ?_
      refine z_iconst dX7_summedUp_57 ?_
      refine q_iload dX7_summedUp_58 rfl ?_
      refine z_imul dX7_summedUp_60 ?_
      refine z_iadd dX7_summedUp_61 ?_
      refine s_iald (n := 2724) (x := o) dX7_summedUp_62 (show kd 387 = 100 + 2724 from rfl) (by omega) (by omega) (by decide) (by show σ.2.1 387 _ = _; rw [← ho] <;> (congr 1 <;> omega)) ?_
      refine q_istore dX7_summedUp_63 (by decide) ?_
      show sE g_tt _ _ _ 65 [some (.ref 384), l1, l2, some (.int (iZ (x : Int))), some (.int (iZ (c : Int))), some (.int (iZ (n : Int))), some (.int (iZ (t : Int))), some (.int (iZ (i : Int))), some (.int (iZ o)), l9] [] (ms (ev σ J R) A F)
      refine q_aload_n dX7_summedUp_65 rfl rfl ?_
      refine sg7 (kf := 2) (v := .ref 387) dX7_summedUp_66 flX7_16 (show kd 384 = 7 from rfl) (by decide) rfl ?_
      refine q_iload dX7_summedUp_69 rfl ?_
      refine z_iconst dX7_summedUp_71 ?_
      refine q_iload dX7_summedUp_72 rfl ?_
      refine z_imul dX7_summedUp_74 ?_
      refine z_iadd dX7_summedUp_75 ?_
      refine z_iconst dX7_summedUp_76 ?_
      refine z_iadd dX7_summedUp_77 ?_
      refine s_iald (n := 2724) (x := v) dX7_summedUp_78 (show kd 387 = 100 + 2724 from rfl) (by omega) (by omega) (by decide) (by show σ.2.1 387 _ = _; rw [← hv] <;> (congr 1 <;> omega)) ?_
      refine q_istore dX7_summedUp_79 (by decide) ?_
      show sE g_tt _ _ _ 81 [some (.ref 384), l1, l2, some (.int (iZ (x : Int))), some (.int (iZ (c : Int))), some (.int (iZ (n : Int))), some (.int (iZ (t : Int))), some (.int (iZ (i : Int))), some (.int (iZ o)), some (.int (iZ v))] [] (ms (ev σ J R) A F)
      refine q_iload dX7_summedUp_81 rfl ?_
      refine z_iconst dX7_summedUp_83 ?_
      refine z_icmp_gt (tgt := 119) dX7_summedUp_84 (by decide) (by unfold inR; omega) (by unfold inR; omega) (fun c_2 => ?_) (fun c_2 => ?_)
      · refine q_iload dX7_summedUp_119 rfl ?_
        refine z_iconst dX7_summedUp_121 ?_
        refine z_icmp_ne (tgt := 160) dX7_summedUp_122 (by decide) (by unfold inR; omega) (by unfold inR; omega) (fun c_3 => ?_) (fun c_3 => ?_)
        · refine q_iload dX7_summedUp_160 rfl ?_
          refine z_iconst dX7_summedUp_162 ?_
          refine z_icmp_eq (tgt := 172) dX7_summedUp_163 (by decide) (by unfold inR; omega) (by unfold inR; omega) (fun c_4 => ?_) (fun c_4 => ?_)
          · refine q_aload_n dX7_summedUp_172 rfl rfl ?_
            refine sg7 (kf := 21) (v := .ref 391) dX7_summedUp_173 flX7_35 (show kd 384 = 7 from rfl) (by decide) rfl ?_
            refine q_iload dX7_summedUp_176 rfl ?_
            refine z_iconst dX7_summedUp_178 ?_
            refine z_isub dX7_summedUp_179 ?_
            refine q_iload dX7_summedUp_180 rfl ?_
            refine z_iconst dX7_summedUp_182 ?_
            refine z_icmp_ne (tgt := 199) dX7_summedUp_183 (by decide) (by unfold inR; omega) (by unfold inR; omega) (fun c_5 => ?_) (fun c_5 => ?_)
            · refine q_aload_n dX7_summedUp_199 rfl rfl ?_
              refine q_aload_n dX7_summedUp_200 rfl rfl ?_
              refine sg7 (kf := 21) (v := .ref 391) dX7_summedUp_201 flX7_35 (show kd 384 = 7 from rfl) (by decide) rfl ?_
              refine q_iload dX7_summedUp_204 rfl ?_
              refine z_iconst dX7_summedUp_206 ?_
              refine z_isub dX7_summedUp_207 ?_
              refine s_lald (n := 330) (x := J (n - 1)) dX7_summedUp_208 (show kd 391 = 100000 + 330 from rfl) (by omega) (by omega) (by decide) (by show J ((n : Int) - 1 : Int).toNat = _; rw [show ((n : Int) - 1 : Int).toNat = n - 1 by omega]) ?_
              refine s_callV (ci := 7) (a := 384) (As := [.long (lZ (J (n - 1)))]) (S := [.int (iZ ((n : Int) - 1)), .ref 391]) dX7_summedUp_209 okX7_houseKind mlX7_252 rfl (by omega) rfl (Nat.le_of_ble_eq_true rfl) (show kd 384 = 7 from rfl) (by decide) rfl (m_houseKind (d := d - 1) (h := J (n - 1)) (by unfold inL; omega) (ev σ J R) A F (fun q => hkA _ q)) (fun v_ σ_ hq => ?_)
              obtain ⟨rfl, e9⟩ := hq
              have e9 := e9.symm
              subst e9
              show sE g_tt _ _ _ 212 [some (.ref 384), l1, l2, some (.int (iZ (x : Int))), some (.int (iZ (c : Int))), some (.int (iZ (n : Int))), some (.int (iZ (t : Int))), some (.int (iZ (i : Int))), some (.int (iZ o)), some (.int (iZ v))] [.long (lZ (mHk A (J (n - 1)))), .int (iZ ((n : Int) - 1)), .ref 391] (ms (ev σ J R) A F)
              refine e_lst (k := n - 1) dX7_summedUp_212 (by omega) (by omega) (by omega) ?_
              refine q_goto (tgt := 413) dX7_summedUp_213 (by decide) ?_
              refine z_iinc dX7_summedUp_413 rfl (by decide) ?_
              show sE g_tt _ _ _ 416 [some (.ref 384), l1, l2, some (.int (iZ (x : Int))), some (.int (iZ (c : Int))), some (.int (iZ (n : Int))), some (.int (iZ (t : Int))), some (.int (iZ ((i : Int) + 1))), some (.int (iZ o)), some (.int (iZ v))] [] (ms (ev σ (va_up J (n - 1) (mHk A (J (n - 1)))) R) A F)
              refine q_goto (tgt := 38) dX7_summedUp_416 (by decide) ?_
              have e : mEs A (σ.2.1 390) o v (J, R, n, t) = (va_up J (n - 1) (mHk A (J (n - 1))), R, n, t) := by
                unfold mEs
                dsimp only
                first | ((repeat (first | rw [if_pos (by omega)] | rw [if_neg (by omega)])); done) | (exfalso; omega)
              rw [ho, hv, e] at hsf
              have k0 := ih (i + 1) (va_up J (n - 1) (mHk A (J (n - 1)))) (R) (n) (t) (some (.int (iZ o))) (some (.int (iZ v))) (by omega) (by rw [show je - (i + 1) = q by omega]; exact hsf) (by omega)
              rw [show je - i = (je - (i + 1)) + 1 by omega, mRun, ho, hv, e]
              exact k0
            · refine q_aload_n dX7_summedUp_186 rfl rfl ?_
              refine sg7 (kf := 21) (v := .ref 391) dX7_summedUp_187 flX7_35 (show kd 384 = 7 from rfl) (by decide) rfl ?_
              refine q_iload dX7_summedUp_190 rfl ?_
              refine z_iconst dX7_summedUp_192 ?_
              refine z_isub dX7_summedUp_193 ?_
              refine s_lald (n := 330) (x := J (n - 1)) dX7_summedUp_194 (show kd 391 = 100000 + 330 from rfl) (by omega) (by omega) (by decide) (by show J ((n : Int) - 1 : Int).toNat = _; rw [show ((n : Int) - 1 : Int).toNat = n - 1 by omega]) ?_
              refine z_lneg dX7_summedUp_195 ?_
              refine q_goto (tgt := 212) dX7_summedUp_196 (by decide) ?_
              refine e_lst (k := n - 1) dX7_summedUp_212 (by omega) (by omega) (by omega) ?_
              refine q_goto (tgt := 413) dX7_summedUp_213 (by decide) ?_
              refine z_iinc dX7_summedUp_413 rfl (by decide) ?_
              show sE g_tt _ _ _ 416 [some (.ref 384), l1, l2, some (.int (iZ (x : Int))), some (.int (iZ (c : Int))), some (.int (iZ (n : Int))), some (.int (iZ (t : Int))), some (.int (iZ ((i : Int) + 1))), some (.int (iZ o)), some (.int (iZ v))] [] (ms (ev σ (va_up J (n - 1) (-(J (n - 1)))) R) A F)
              refine q_goto (tgt := 38) dX7_summedUp_416 (by decide) ?_
              have e : mEs A (σ.2.1 390) o v (J, R, n, t) = (va_up J (n - 1) (-(J (n - 1))), R, n, t) := by
                unfold mEs
                dsimp only
                first | ((repeat (first | rw [if_pos (by omega)] | rw [if_neg (by omega)])); done) | (exfalso; omega)
              rw [ho, hv, e] at hsf
              have k0 := ih (i + 1) (va_up J (n - 1) (-(J (n - 1)))) (R) (n) (t) (some (.int (iZ o))) (some (.int (iZ v))) (by omega) (by rw [show je - (i + 1) = q by omega]; exact hsf) (by omega)
              rw [show je - i = (je - (i + 1)) + 1 by omega, mRun, ho, hv, e]
              exact k0
          · refine q_iload dX7_summedUp_166 rfl ?_
            refine z_iconst dX7_summedUp_168 ?_
            refine z_icmp_ne (tgt := 216) dX7_summedUp_169 (by decide) (by unfold inR; omega) (by unfold inR; omega) (fun c_6 => ?_) (fun c_6 => ?_)
            · refine q_iload dX7_summedUp_216 rfl ?_
              refine z_bipush dX7_summedUp_218 (by decide +kernel) ?_
              refine z_icmp_ge (tgt := 300) dX7_summedUp_220 (by decide) (by unfold inR; omega) (by unfold inR; omega) (fun c_7 => ?_) (fun c_7 => ?_)
              · refine q_iload dX7_summedUp_300 rfl ?_
                refine z_bipush dX7_summedUp_302 (by decide +kernel) ?_
                refine z_icmp_ge (tgt := 344) dX7_summedUp_304 (by decide) (by unfold inR; omega) (by unfold inR; omega) (fun c_8 => ?_) (fun c_8 => ?_)
                · refine q_iload dX7_summedUp_344 rfl ?_
                  refine z_bipush dX7_summedUp_346 (by decide +kernel) ?_
                  refine z_icmp_ne (tgt := 380) dX7_summedUp_348 (by decide) (by unfold inR; omega) (by unfold inR; omega) (fun c_9 => ?_) (fun c_9 => ?_)
                  · refine z_iinc dX7_summedUp_380 rfl (by decide) ?_
                    show sE g_tt _ _ _ 383 [some (.ref 384), l1, l2, some (.int (iZ (x : Int))), some (.int (iZ (c : Int))), some (.int (iZ (n : Int))), some (.int (iZ ((t : Int) + (-1)))), some (.int (iZ (i : Int))), some (.int (iZ o)), some (.int (iZ v))] [] (ms (ev σ J R) A F)
                    refine q_aload_n dX7_summedUp_383 rfl rfl ?_
                    refine sg7 (kf := 22) (v := .ref 392) dX7_summedUp_384 flX7_39 (show kd 384 = 7 from rfl) (by decide) rfl ?_
                    refine q_iload dX7_summedUp_387 rfl ?_
                    refine z_iconst dX7_summedUp_389 ?_
                    refine z_isub dX7_summedUp_390 ?_
                    refine q_iload dX7_summedUp_391 rfl ?_
                    refine q_aload_n dX7_summedUp_393 rfl rfl ?_
                    refine sg7 (kf := 22) (v := .ref 392) dX7_summedUp_394 flX7_39 (show kd 384 = 7 from rfl) (by decide) rfl ?_
                    refine q_iload dX7_summedUp_397 rfl ?_
                    refine z_iconst dX7_summedUp_399 ?_
                    refine z_isub dX7_summedUp_400 ?_
                    refine s_zald (n := 330) (x := R (t - 2)) dX7_summedUp_401 (show kd 392 = 200000 + 330 from rfl) (by omega) (by omega) (by decide) (by show R (((t : Int) + (-1)) - 1 : Int).toNat = _; rw [show (((t : Int) + (-1)) - 1 : Int).toNat = t - 2 by omega]) ?_
                    refine q_aload_n dX7_summedUp_402 rfl rfl ?_
                    refine sg7 (kf := 22) (v := .ref 392) dX7_summedUp_403 flX7_39 (show kd 384 = 7 from rfl) (by decide) rfl ?_
                    refine q_iload dX7_summedUp_406 rfl ?_
                    refine s_zald (n := 330) (x := R (t - 1)) dX7_summedUp_408 (show kd 392 = 200000 + 330 from rfl) (by omega) (by omega) (by decide) (by show R ((t : Int) + (-1) : Int).toNat = _; rw [show ((t : Int) + (-1) : Int).toNat = t - 1 by omega]) ?_
                    refine s_callS (As := [.int (iZ o), .int (iZ (R (t - 2))), .int (iZ (R (t - 1)))]) (S := [.int (iZ (((t : Int) + (-1)) - 1)), .ref 392]) dX7_summedUp_409 okX7_joined mlX7_263 rfl (by omega) rfl (Nat.le_of_ble_eq_true rfl) (m_joined (d := d - 1) (o := o) (x := R (t - 2)) (y := R (t - 1)) (by unfold inR; omega) (by unfold inR; omega) (by unfold inR; omega) (ms (ev σ J R) A F)) (fun v_ σ_ hq => ?_)
                    obtain ⟨rfl, e9⟩ := hq
                    have e9 := e9.symm
                    subst e9
                    show sE g_tt _ _ _ 412 [some (.ref 384), l1, l2, some (.int (iZ (x : Int))), some (.int (iZ (c : Int))), some (.int (iZ (n : Int))), some (.int (iZ ((t : Int) + (-1)))), some (.int (iZ (i : Int))), some (.int (iZ o)), some (.int (iZ v))] [.int (iZ (mJoin o (R (t - 2)) (R (t - 1)))), .int (iZ (((t : Int) + (-1)) - 1)), .ref 392] (ms (ev σ J R) A F)
                    refine e_zst (k := t - 2) dX7_summedUp_412 (by omega) (by omega) (by omega) (mJoin01 _ _ _) ?_
                    refine z_iinc dX7_summedUp_413 rfl (by decide) ?_
                    show sE g_tt _ _ _ 416 [some (.ref 384), l1, l2, some (.int (iZ (x : Int))), some (.int (iZ (c : Int))), some (.int (iZ (n : Int))), some (.int (iZ ((t : Int) + (-1)))), some (.int (iZ ((i : Int) + 1))), some (.int (iZ o)), some (.int (iZ v))] [] (ms (ev σ J (va_up R (t - 2) (mJoin o (R (t - 2)) (R (t - 1))))) A F)
                    refine q_goto (tgt := 38) dX7_summedUp_416 (by decide) ?_
                    have e : mEs A (σ.2.1 390) o v (J, R, n, t) = (J, va_up R (t - 2) (mJoin o (R (t - 2)) (R (t - 1))), n, t - 1) := by
                      unfold mEs
                      dsimp only
                      first | ((repeat (first | rw [if_pos (by omega)] | rw [if_neg (by omega)])); done) | (exfalso; omega)
                    rw [ho, hv, e] at hsf
                    have k0 := ih (i + 1) (J) (va_up R (t - 2) (mJoin o (R (t - 2)) (R (t - 1)))) (n) (t - 1) (some (.int (iZ o))) (some (.int (iZ v))) (by omega) (by rw [show je - (i + 1) = q by omega]; exact hsf) (by omega)
                    rw [show je - i = (je - (i + 1)) + 1 by omega, mRun, ho, hv, e]
                    rw [show (t : Int) + (-1) = ((t - 1 : Nat) : Int) by omega]
                    exact k0
                  · refine q_aload_n dX7_summedUp_351 rfl rfl ?_
                    refine sg7 (kf := 22) (v := .ref 392) dX7_summedUp_352 flX7_39 (show kd 384 = 7 from rfl) (by decide) rfl ?_
                    refine q_iload dX7_summedUp_355 rfl ?_
                    refine z_iconst dX7_summedUp_357 ?_
                    refine z_isub dX7_summedUp_358 ?_
                    refine q_aload_n dX7_summedUp_359 rfl rfl ?_
                    refine sg7 (kf := 22) (v := .ref 392) dX7_summedUp_360 flX7_39 (show kd 384 = 7 from rfl) (by decide) rfl ?_
                    refine q_iload dX7_summedUp_363 rfl ?_
                    refine z_iconst dX7_summedUp_365 ?_
                    refine z_isub dX7_summedUp_366 ?_
                    refine s_zald (n := 330) (x := R (t - 1)) dX7_summedUp_367 (show kd 392 = 200000 + 330 from rfl) (by omega) (by omega) (by decide) (by show R ((t : Int) - 1 : Int).toNat = _; rw [show ((t : Int) - 1 : Int).toNat = t - 1 by omega]) ?_
                    refine z_if_ne (tgt := 375) dX7_summedUp_368 (by decide) (by unfold inR; omega) (fun c_10 => ?_) (fun c_10 => ?_)
                    · refine z_iconst dX7_summedUp_375 ?_
                      refine e_zst (k := t - 1) dX7_summedUp_376 (by omega) (by omega) (by omega) (by omega) ?_
                      refine q_goto (tgt := 413) dX7_summedUp_377 (by decide) ?_
                      refine z_iinc dX7_summedUp_413 rfl (by decide) ?_
                      show sE g_tt _ _ _ 416 [some (.ref 384), l1, l2, some (.int (iZ (x : Int))), some (.int (iZ (c : Int))), some (.int (iZ (n : Int))), some (.int (iZ (t : Int))), some (.int (iZ ((i : Int) + 1))), some (.int (iZ o)), some (.int (iZ v))] [] (ms (ev σ J (va_up R (t - 1) 0)) A F)
                      refine q_goto (tgt := 38) dX7_summedUp_416 (by decide) ?_
                      have e : mEs A (σ.2.1 390) o v (J, R, n, t) = (J, va_up R (t - 1) 0, n, t) := by
                        unfold mEs
                        dsimp only
                        first | ((repeat (first | rw [if_pos (by omega)] | rw [if_neg (by omega)])); done) | (exfalso; omega)
                      rw [ho, hv, e] at hsf
                      have k0 := ih (i + 1) (J) (va_up R (t - 1) 0) (n) (t) (some (.int (iZ o))) (some (.int (iZ v))) (by omega) (by rw [show je - (i + 1) = q by omega]; exact hsf) (by omega)
                      rw [show je - i = (je - (i + 1)) + 1 by omega, mRun, ho, hv, e]
                      exact k0
                    · refine z_iconst dX7_summedUp_371 ?_
                      refine q_goto (tgt := 376) dX7_summedUp_372 (by decide) ?_
                      refine e_zst (k := t - 1) dX7_summedUp_376 (by omega) (by omega) (by omega) (by omega) ?_
                      refine q_goto (tgt := 413) dX7_summedUp_377 (by decide) ?_
                      refine z_iinc dX7_summedUp_413 rfl (by decide) ?_
                      show sE g_tt _ _ _ 416 [some (.ref 384), l1, l2, some (.int (iZ (x : Int))), some (.int (iZ (c : Int))), some (.int (iZ (n : Int))), some (.int (iZ (t : Int))), some (.int (iZ ((i : Int) + 1))), some (.int (iZ o)), some (.int (iZ v))] [] (ms (ev σ J (va_up R (t - 1) 1)) A F)
                      refine q_goto (tgt := 38) dX7_summedUp_416 (by decide) ?_
                      have e : mEs A (σ.2.1 390) o v (J, R, n, t) = (J, va_up R (t - 1) 1, n, t) := by
                        unfold mEs
                        dsimp only
                        first | ((repeat (first | rw [if_pos (by omega)] | rw [if_neg (by omega)])); done) | (exfalso; omega)
                      rw [ho, hv, e] at hsf
                      have k0 := ih (i + 1) (J) (va_up R (t - 1) 1) (n) (t) (some (.int (iZ o))) (some (.int (iZ v))) (by omega) (by rw [show je - (i + 1) = q by omega]; exact hsf) (by omega)
                      rw [show je - i = (je - (i + 1)) + 1 by omega, mRun, ho, hv, e]
                      exact k0
                · refine z_iinc dX7_summedUp_307 rfl (by decide) ?_
                  show sE g_tt _ _ _ 310 [some (.ref 384), l1, l2, some (.int (iZ (x : Int))), some (.int (iZ (c : Int))), some (.int (iZ ((n : Int) + (-2)))), some (.int (iZ (t : Int))), some (.int (iZ (i : Int))), some (.int (iZ o)), some (.int (iZ v))] [] (ms (ev σ J R) A F)
                  refine q_aload_n dX7_summedUp_310 rfl rfl ?_
                  refine sg7 (kf := 22) (v := .ref 392) dX7_summedUp_311 flX7_39 (show kd 384 = 7 from rfl) (by decide) rfl ?_
                  refine q_iload dX7_summedUp_314 rfl ?_
                  refine q_iload dX7_summedUp_316 rfl ?_
                  refine q_aload_n dX7_summedUp_318 rfl rfl ?_
                  refine sg7 (kf := 21) (v := .ref 391) dX7_summedUp_319 flX7_35 (show kd 384 = 7 from rfl) (by decide) rfl ?_
                  refine q_iload dX7_summedUp_322 rfl ?_
                  refine s_lald (n := 330) (x := J (n - 2)) dX7_summedUp_324 (show kd 391 = 100000 + 330 from rfl) (by omega) (by omega) (by decide) (by show J ((n : Int) + (-2) : Int).toNat = _; rw [show ((n : Int) + (-2) : Int).toNat = n - 2 by omega]) ?_
                  refine q_aload_n dX7_summedUp_325 rfl rfl ?_
                  refine sg7 (kf := 21) (v := .ref 391) dX7_summedUp_326 flX7_35 (show kd 384 = 7 from rfl) (by decide) rfl ?_
                  refine q_iload dX7_summedUp_329 rfl ?_
                  refine z_iconst dX7_summedUp_331 ?_
                  refine z_iadd dX7_summedUp_332 ?_
                  refine s_lald (n := 330) (x := J (n - 1)) dX7_summedUp_333 (show kd 391 = 100000 + 330 from rfl) (by omega) (by omega) (by decide) (by show J (((n : Int) + (-2)) + 1 : Int).toNat = _; rw [show (((n : Int) + (-2)) + 1 : Int).toNat = n - 1 by omega]) ?_
                  refine s_callS (As := [.int (iZ o), .long (lZ (J (n - 2))), .long (lZ (J (n - 1)))]) (S := [.int (iZ (t : Int)), .ref 392]) dX7_summedUp_334 okX7_isAsked mlX7_259 rfl (by omega) rfl (Nat.le_of_ble_eq_true rfl) (m_isAsked (d := d - 1) (o := o) (x := J (n - 2)) (y := J (n - 1)) (by unfold inR; omega) (by unfold inL; omega) (by unfold inL; omega) (ms (ev σ J R) A F)) (fun v_ σ_ hq => ?_)
                  obtain ⟨rfl, e9⟩ := hq
                  have e9 := e9.symm
                  subst e9
                  show sE g_tt _ _ _ 337 [some (.ref 384), l1, l2, some (.int (iZ (x : Int))), some (.int (iZ (c : Int))), some (.int (iZ ((n : Int) + (-2)))), some (.int (iZ (t : Int))), some (.int (iZ (i : Int))), some (.int (iZ o)), some (.int (iZ v))] [.int (iZ (mAskB o (J (n - 2)) (J (n - 1)))), .int (iZ (t : Int)), .ref 392] (ms (ev σ J R) A F)
                  refine e_zst (k := t) dX7_summedUp_337 (by omega) (by omega) (by omega) (mAsk01 _ _ _) ?_
                  refine z_iinc dX7_summedUp_338 rfl (by decide) ?_
                  show sE g_tt _ _ _ 341 [some (.ref 384), l1, l2, some (.int (iZ (x : Int))), some (.int (iZ (c : Int))), some (.int (iZ ((n : Int) + (-2)))), some (.int (iZ ((t : Int) + 1))), some (.int (iZ (i : Int))), some (.int (iZ o)), some (.int (iZ v))] [] (ms (ev σ J (va_up R t (mAskB o (J (n - 2)) (J (n - 1))))) A F)
                  refine q_goto (tgt := 413) dX7_summedUp_341 (by decide) ?_
                  refine z_iinc dX7_summedUp_413 rfl (by decide) ?_
                  show sE g_tt _ _ _ 416 [some (.ref 384), l1, l2, some (.int (iZ (x : Int))), some (.int (iZ (c : Int))), some (.int (iZ ((n : Int) + (-2)))), some (.int (iZ ((t : Int) + 1))), some (.int (iZ ((i : Int) + 1))), some (.int (iZ o)), some (.int (iZ v))] [] (ms (ev σ J (va_up R t (mAskB o (J (n - 2)) (J (n - 1))))) A F)
                  refine q_goto (tgt := 38) dX7_summedUp_416 (by decide) ?_
                  have e : mEs A (σ.2.1 390) o v (J, R, n, t) = (J, va_up R t (mAskB o (J (n - 2)) (J (n - 1))), n - 2, t + 1) := by
                    unfold mEs
                    dsimp only
                    first | ((repeat (first | rw [if_pos (by omega)] | rw [if_neg (by omega)])); done) | (exfalso; omega)
                  rw [ho, hv, e] at hsf
                  have k0 := ih (i + 1) (J) (va_up R t (mAskB o (J (n - 2)) (J (n - 1)))) (n - 2) (t + 1) (some (.int (iZ o))) (some (.int (iZ v))) (by omega) (by rw [show je - (i + 1) = q by omega]; exact hsf) (by omega)
                  rw [show je - i = (je - (i + 1)) + 1 by omega, mRun, ho, hv, e]
                  rw [show (n : Int) + (-2) = ((n - 2 : Nat) : Int) by omega]
                  rw [show (t : Int) + 1 = ((t + 1 : Nat) : Int) by omega]
                  exact k0
              · refine z_iinc dX7_summedUp_223 rfl (by decide) ?_
                show sE g_tt _ _ _ 226 [some (.ref 384), l1, l2, some (.int (iZ (x : Int))), some (.int (iZ (c : Int))), some (.int (iZ ((n : Int) + (-1)))), some (.int (iZ (t : Int))), some (.int (iZ (i : Int))), some (.int (iZ o)), some (.int (iZ v))] [] (ms (ev σ J R) A F)
                refine q_aload_n dX7_summedUp_226 rfl rfl ?_
                refine sg7 (kf := 21) (v := .ref 391) dX7_summedUp_227 flX7_35 (show kd 384 = 7 from rfl) (by decide) rfl ?_
                refine q_iload dX7_summedUp_230 rfl ?_
                refine z_iconst dX7_summedUp_232 ?_
                refine z_isub dX7_summedUp_233 ?_
                refine q_iload dX7_summedUp_234 rfl ?_
                refine z_iconst dX7_summedUp_236 ?_
                refine z_icmp_ne (tgt := 245) dX7_summedUp_237 (by decide) (by unfold inR; omega) (by unfold inR; omega) (fun c_11 => ?_) (fun c_11 => ?_)
                · refine q_iload dX7_summedUp_245 rfl ?_
                  refine q_aload_n dX7_summedUp_247 rfl rfl ?_
                  refine sg7 (kf := 21) (v := .ref 391) dX7_summedUp_248 flX7_35 (show kd 384 = 7 from rfl) (by decide) rfl ?_
                  refine q_iload dX7_summedUp_251 rfl ?_
                  refine z_iconst dX7_summedUp_253 ?_
                  refine z_isub dX7_summedUp_254 ?_
                  refine s_lald (n := 330) (x := J (n - 2)) dX7_summedUp_255 (show kd 391 = 100000 + 330 from rfl) (by omega) (by omega) (by decide) (by show J (((n : Int) + (-1)) - 1 : Int).toNat = _; rw [show (((n : Int) + (-1)) - 1 : Int).toNat = n - 2 by omega]) ?_
                  refine q_aload_n dX7_summedUp_256 rfl rfl ?_
                  refine sg7 (kf := 21) (v := .ref 391) dX7_summedUp_257 flX7_35 (show kd 384 = 7 from rfl) (by decide) rfl ?_
                  refine q_iload dX7_summedUp_260 rfl ?_
                  refine s_lald (n := 330) (x := J (n - 1)) dX7_summedUp_262 (show kd 391 = 100000 + 330 from rfl) (by omega) (by omega) (by decide) (by show J ((n : Int) + (-1) : Int).toNat = _; rw [show ((n : Int) + (-1) : Int).toNat = n - 1 by omega]) ?_
                  refine s_callS (As := [.int (iZ o), .long (lZ (J (n - 2))), .long (lZ (J (n - 1)))]) (S := [.int (iZ (((n : Int) + (-1)) - 1)), .ref 391]) dX7_summedUp_263 okX7_two mlX7_255 rfl (by omega) rfl (Nat.le_of_ble_eq_true rfl) (m_two (d := d - 1) (by omega) (o := o) (x := J (n - 2)) (y := J (n - 1)) (by unfold inR; omega) (by omega) (by omega) (ms (ev σ J R) A F)) (fun v_ σ_ hq => ?_)
                  obtain ⟨rfl, e9⟩ := hq
                  have e9 := e9.symm
                  subst e9
                  show sE g_tt _ _ _ 266 [some (.ref 384), l1, l2, some (.int (iZ (x : Int))), some (.int (iZ (c : Int))), some (.int (iZ ((n : Int) + (-1)))), some (.int (iZ (t : Int))), some (.int (iZ (i : Int))), some (.int (iZ o)), some (.int (iZ v))] [.long (lZ (mTwo o (J (n - 2)) (J (n - 1)))), .int (iZ (((n : Int) + (-1)) - 1)), .ref 391] (ms (ev σ J R) A F)
                  refine e_lst (k := n - 2) dX7_summedUp_266 (by omega) (by omega) (by omega) ?_
                  refine q_iload dX7_summedUp_267 rfl ?_
                  refine z_iconst dX7_summedUp_269 ?_
                  refine z_icmp_ne (tgt := 413) dX7_summedUp_270 (by decide) (by unfold inR; omega) (by unfold inR; omega) (fun c_12 => ?_) (fun c_12 => ?_)
                  · refine z_iinc dX7_summedUp_413 rfl (by decide) ?_
                    show sE g_tt _ _ _ 416 [some (.ref 384), l1, l2, some (.int (iZ (x : Int))), some (.int (iZ (c : Int))), some (.int (iZ ((n : Int) + (-1)))), some (.int (iZ (t : Int))), some (.int (iZ ((i : Int) + 1))), some (.int (iZ o)), some (.int (iZ v))] [] (ms (ev σ (va_up J (n - 2) (mTwo o (J (n - 2)) (J (n - 1)))) R) A F)
                    refine q_goto (tgt := 38) dX7_summedUp_416 (by decide) ?_
                    have e : mEs A (σ.2.1 390) o v (J, R, n, t) = (va_up J (n - 2) (mTwo o (J (n - 2)) (J (n - 1))), R, n - 1, t) := by
                      unfold mEs
                      dsimp only
                      first | ((repeat (first | rw [if_pos (by omega)] | rw [if_neg (by omega)])); done) | (exfalso; omega)
                    rw [ho, hv, e] at hsf
                    have k0 := ih (i + 1) (va_up J (n - 2) (mTwo o (J (n - 2)) (J (n - 1)))) (R) (n - 1) (t) (some (.int (iZ o))) (some (.int (iZ v))) (by omega) (by rw [show je - (i + 1) = q by omega]; exact hsf) (by omega)
                    rw [show je - i = (je - (i + 1)) + 1 by omega, mRun, ho, hv, e]
                    rw [show (n : Int) + (-1) = ((n - 1 : Nat) : Int) by omega]
                    exact k0
                  · refine q_aload_n dX7_summedUp_273 rfl rfl ?_
                    refine sg7 (kf := 21) (v := .ref 391) dX7_summedUp_274 flX7_35 (show kd 384 = 7 from rfl) (by decide) rfl ?_
                    refine q_iload dX7_summedUp_277 rfl ?_
                    refine z_iconst dX7_summedUp_279 ?_
                    refine z_isub dX7_summedUp_280 ?_
                    refine s_lald (n := 330) (x := mTwo o (J (n - 2)) (J (n - 1))) dX7_summedUp_281 (show kd 391 = 100000 + 330 from rfl) (by omega) (by omega) (by decide) (by show (va_up J (n - 2) (mTwo o (J (n - 2)) (J (n - 1)))) (((n : Int) + (-1)) - 1 : Int).toNat = _; rw [show (((n : Int) + (-1)) - 1 : Int).toNat = n - 2 by omega]; exact va_up_self _ _ _) ?_
                    refine z_lconst (z := 0) dX7_summedUp_282 (by decide +kernel) ?_
                    refine z_lif_ge (tgt := 413) dX7_summedUp_283 dX7_summedUp_284 (by decide) (mTwo_inL _ _ _) (by unfold inL; omega) (fun c_13 => ?_) (fun c_13 => ?_)
                    · refine z_iinc dX7_summedUp_413 rfl (by decide) ?_
                      show sE g_tt _ _ _ 416 [some (.ref 384), l1, l2, some (.int (iZ (x : Int))), some (.int (iZ (c : Int))), some (.int (iZ ((n : Int) + (-1)))), some (.int (iZ (t : Int))), some (.int (iZ ((i : Int) + 1))), some (.int (iZ o)), some (.int (iZ v))] [] (ms (ev σ (va_up J (n - 2) (mTwo o (J (n - 2)) (J (n - 1)))) R) A F)
                      refine q_goto (tgt := 38) dX7_summedUp_416 (by decide) ?_
                      have e : mEs A (σ.2.1 390) o v (J, R, n, t) = (va_up J (n - 2) (mTwo o (J (n - 2)) (J (n - 1))), R, n - 1, t) := by
                        unfold mEs
                        dsimp only
                        first | ((repeat (first | rw [if_pos (by omega)] | rw [if_neg (by omega)])); done) | (exfalso; omega)
                      rw [ho, hv, e] at hsf
                      have k0 := ih (i + 1) (va_up J (n - 2) (mTwo o (J (n - 2)) (J (n - 1)))) (R) (n - 1) (t) (some (.int (iZ o))) (some (.int (iZ v))) (by omega) (by rw [show je - (i + 1) = q by omega]; exact hsf) (by omega)
                      rw [show je - i = (je - (i + 1)) + 1 by omega, mRun, ho, hv, e]
                      rw [show (n : Int) + (-1) = ((n - 1 : Nat) : Int) by omega]
                      exact k0
                    · refine q_aload_n dX7_summedUp_287 rfl rfl ?_
                      refine sg7 (kf := 21) (v := .ref 391) dX7_summedUp_288 flX7_35 (show kd 384 = 7 from rfl) (by decide) rfl ?_
                      refine q_iload dX7_summedUp_291 rfl ?_
                      refine z_iconst dX7_summedUp_293 ?_
                      refine z_isub dX7_summedUp_294 ?_
                      refine z_lconst (z := 0) dX7_summedUp_295 (by decide +kernel) ?_
                      refine e_lst (k := n - 2) dX7_summedUp_296 (by omega) (by omega) (by omega) ?_
                      refine q_goto (tgt := 413) dX7_summedUp_297 (by decide) ?_
                      refine z_iinc dX7_summedUp_413 rfl (by decide) ?_
                      show sE g_tt _ _ _ 416 [some (.ref 384), l1, l2, some (.int (iZ (x : Int))), some (.int (iZ (c : Int))), some (.int (iZ ((n : Int) + (-1)))), some (.int (iZ (t : Int))), some (.int (iZ ((i : Int) + 1))), some (.int (iZ o)), some (.int (iZ v))] [] (ms (ev σ (va_up (va_up J (n - 2) (mTwo o (J (n - 2)) (J (n - 1)))) (n - 2) 0) R) A F)
                      refine q_goto (tgt := 38) dX7_summedUp_416 (by decide) ?_
                      have e : mEs A (σ.2.1 390) o v (J, R, n, t) = (va_up (va_up J (n - 2) (mTwo o (J (n - 2)) (J (n - 1)))) (n - 2) 0, R, n - 1, t) := by
                        unfold mEs
                        dsimp only
                        first | ((repeat (first | rw [if_pos (by omega)] | rw [if_neg (by omega)])); done) | (exfalso; omega)
                      rw [ho, hv, e] at hsf
                      have k0 := ih (i + 1) (va_up (va_up J (n - 2) (mTwo o (J (n - 2)) (J (n - 1)))) (n - 2) 0) (R) (n - 1) (t) (some (.int (iZ o))) (some (.int (iZ v))) (by omega) (by rw [show je - (i + 1) = q by omega]; exact hsf) (by omega)
                      rw [show je - i = (je - (i + 1)) + 1 by omega, mRun, ho, hv, e]
                      rw [show (n : Int) + (-1) = ((n - 1 : Nat) : Int) by omega]
                      exact k0
                · refine z_bipush dX7_summedUp_240 (by decide +kernel) ?_
                  refine q_goto (tgt := 247) dX7_summedUp_242 (by decide) ?_
                  refine q_aload_n dX7_summedUp_247 rfl rfl ?_
                  refine sg7 (kf := 21) (v := .ref 391) dX7_summedUp_248 flX7_35 (show kd 384 = 7 from rfl) (by decide) rfl ?_
                  refine q_iload dX7_summedUp_251 rfl ?_
                  refine z_iconst dX7_summedUp_253 ?_
                  refine z_isub dX7_summedUp_254 ?_
                  refine s_lald (n := 330) (x := J (n - 2)) dX7_summedUp_255 (show kd 391 = 100000 + 330 from rfl) (by omega) (by omega) (by decide) (by show J (((n : Int) + (-1)) - 1 : Int).toNat = _; rw [show (((n : Int) + (-1)) - 1 : Int).toNat = n - 2 by omega]) ?_
                  refine q_aload_n dX7_summedUp_256 rfl rfl ?_
                  refine sg7 (kf := 21) (v := .ref 391) dX7_summedUp_257 flX7_35 (show kd 384 = 7 from rfl) (by decide) rfl ?_
                  refine q_iload dX7_summedUp_260 rfl ?_
                  refine s_lald (n := 330) (x := J (n - 1)) dX7_summedUp_262 (show kd 391 = 100000 + 330 from rfl) (by omega) (by omega) (by decide) (by show J ((n : Int) + (-1) : Int).toNat = _; rw [show ((n : Int) + (-1) : Int).toNat = n - 1 by omega]) ?_
                  refine s_callS (As := [.int (iZ 7), .long (lZ (J (n - 2))), .long (lZ (J (n - 1)))]) (S := [.int (iZ (((n : Int) + (-1)) - 1)), .ref 391]) dX7_summedUp_263 okX7_two mlX7_255 rfl (by omega) rfl (Nat.le_of_ble_eq_true rfl) (m_two (d := d - 1) (by omega) (o := 7) (x := J (n - 2)) (y := J (n - 1)) (by unfold inR; omega) (by omega) (by omega) (ms (ev σ J R) A F)) (fun v_ σ_ hq => ?_)
                  obtain ⟨rfl, e9⟩ := hq
                  have e9 := e9.symm
                  subst e9
                  show sE g_tt _ _ _ 266 [some (.ref 384), l1, l2, some (.int (iZ (x : Int))), some (.int (iZ (c : Int))), some (.int (iZ ((n : Int) + (-1)))), some (.int (iZ (t : Int))), some (.int (iZ (i : Int))), some (.int (iZ o)), some (.int (iZ v))] [.long (lZ (mTwo 7 (J (n - 2)) (J (n - 1)))), .int (iZ (((n : Int) + (-1)) - 1)), .ref 391] (ms (ev σ J R) A F)
                  refine e_lst (k := n - 2) dX7_summedUp_266 (by omega) (by omega) (by omega) ?_
                  refine q_iload dX7_summedUp_267 rfl ?_
                  refine z_iconst dX7_summedUp_269 ?_
                  refine z_icmp_ne (tgt := 413) dX7_summedUp_270 (by decide) (by unfold inR; omega) (by unfold inR; omega) (fun c_14 => ?_) (fun c_14 => ?_)
                  · refine z_iinc dX7_summedUp_413 rfl (by decide) ?_
                    show sE g_tt _ _ _ 416 [some (.ref 384), l1, l2, some (.int (iZ (x : Int))), some (.int (iZ (c : Int))), some (.int (iZ ((n : Int) + (-1)))), some (.int (iZ (t : Int))), some (.int (iZ ((i : Int) + 1))), some (.int (iZ o)), some (.int (iZ v))] [] (ms (ev σ (va_up J (n - 2) (mTwo 7 (J (n - 2)) (J (n - 1)))) R) A F)
                    refine q_goto (tgt := 38) dX7_summedUp_416 (by decide) ?_
                    have e : mEs A (σ.2.1 390) o v (J, R, n, t) = (va_up J (n - 2) (mTwo 7 (J (n - 2)) (J (n - 1))), R, n - 1, t) := by
                      unfold mEs
                      dsimp only
                      first | ((repeat (first | rw [if_pos (by omega)] | rw [if_neg (by omega)])); done) | (exfalso; omega)
                    rw [ho, hv, e] at hsf
                    have k0 := ih (i + 1) (va_up J (n - 2) (mTwo 7 (J (n - 2)) (J (n - 1)))) (R) (n - 1) (t) (some (.int (iZ o))) (some (.int (iZ v))) (by omega) (by rw [show je - (i + 1) = q by omega]; exact hsf) (by omega)
                    rw [show je - i = (je - (i + 1)) + 1 by omega, mRun, ho, hv, e]
                    rw [show (n : Int) + (-1) = ((n - 1 : Nat) : Int) by omega]
                    exact k0
                  · refine q_aload_n dX7_summedUp_273 rfl rfl ?_
                    refine sg7 (kf := 21) (v := .ref 391) dX7_summedUp_274 flX7_35 (show kd 384 = 7 from rfl) (by decide) rfl ?_
                    refine q_iload dX7_summedUp_277 rfl ?_
                    refine z_iconst dX7_summedUp_279 ?_
                    refine z_isub dX7_summedUp_280 ?_
                    refine s_lald (n := 330) (x := mTwo 7 (J (n - 2)) (J (n - 1))) dX7_summedUp_281 (show kd 391 = 100000 + 330 from rfl) (by omega) (by omega) (by decide) (by show (va_up J (n - 2) (mTwo 7 (J (n - 2)) (J (n - 1)))) (((n : Int) + (-1)) - 1 : Int).toNat = _; rw [show (((n : Int) + (-1)) - 1 : Int).toNat = n - 2 by omega]; exact va_up_self _ _ _) ?_
                    refine z_lconst (z := 0) dX7_summedUp_282 (by decide +kernel) ?_
                    refine z_lif_ge (tgt := 413) dX7_summedUp_283 dX7_summedUp_284 (by decide) (mTwo_inL _ _ _) (by unfold inL; omega) (fun c_15 => ?_) (fun c_15 => ?_)
                    · refine z_iinc dX7_summedUp_413 rfl (by decide) ?_
                      show sE g_tt _ _ _ 416 [some (.ref 384), l1, l2, some (.int (iZ (x : Int))), some (.int (iZ (c : Int))), some (.int (iZ ((n : Int) + (-1)))), some (.int (iZ (t : Int))), some (.int (iZ ((i : Int) + 1))), some (.int (iZ o)), some (.int (iZ v))] [] (ms (ev σ (va_up J (n - 2) (mTwo 7 (J (n - 2)) (J (n - 1)))) R) A F)
                      refine q_goto (tgt := 38) dX7_summedUp_416 (by decide) ?_
                      have e : mEs A (σ.2.1 390) o v (J, R, n, t) = (va_up J (n - 2) (mTwo 7 (J (n - 2)) (J (n - 1))), R, n - 1, t) := by
                        unfold mEs
                        dsimp only
                        first | ((repeat (first | rw [if_pos (by omega)] | rw [if_neg (by omega)])); done) | (exfalso; omega)
                      rw [ho, hv, e] at hsf
                      have k0 := ih (i + 1) (va_up J (n - 2) (mTwo 7 (J (n - 2)) (J (n - 1)))) (R) (n - 1) (t) (some (.int (iZ o))) (some (.int (iZ v))) (by omega) (by rw [show je - (i + 1) = q by omega]; exact hsf) (by omega)
                      rw [show je - i = (je - (i + 1)) + 1 by omega, mRun, ho, hv, e]
                      rw [show (n : Int) + (-1) = ((n - 1 : Nat) : Int) by omega]
                      exact k0
                    · refine q_aload_n dX7_summedUp_287 rfl rfl ?_
                      refine sg7 (kf := 21) (v := .ref 391) dX7_summedUp_288 flX7_35 (show kd 384 = 7 from rfl) (by decide) rfl ?_
                      refine q_iload dX7_summedUp_291 rfl ?_
                      refine z_iconst dX7_summedUp_293 ?_
                      refine z_isub dX7_summedUp_294 ?_
                      refine z_lconst (z := 0) dX7_summedUp_295 (by decide +kernel) ?_
                      refine e_lst (k := n - 2) dX7_summedUp_296 (by omega) (by omega) (by omega) ?_
                      refine q_goto (tgt := 413) dX7_summedUp_297 (by decide) ?_
                      refine z_iinc dX7_summedUp_413 rfl (by decide) ?_
                      show sE g_tt _ _ _ 416 [some (.ref 384), l1, l2, some (.int (iZ (x : Int))), some (.int (iZ (c : Int))), some (.int (iZ ((n : Int) + (-1)))), some (.int (iZ (t : Int))), some (.int (iZ ((i : Int) + 1))), some (.int (iZ o)), some (.int (iZ v))] [] (ms (ev σ (va_up (va_up J (n - 2) (mTwo 7 (J (n - 2)) (J (n - 1)))) (n - 2) 0) R) A F)
                      refine q_goto (tgt := 38) dX7_summedUp_416 (by decide) ?_
                      have e : mEs A (σ.2.1 390) o v (J, R, n, t) = (va_up (va_up J (n - 2) (mTwo 7 (J (n - 2)) (J (n - 1)))) (n - 2) 0, R, n - 1, t) := by
                        unfold mEs
                        dsimp only
                        first | ((repeat (first | rw [if_pos (by omega)] | rw [if_neg (by omega)])); done) | (exfalso; omega)
                      rw [ho, hv, e] at hsf
                      have k0 := ih (i + 1) (va_up (va_up J (n - 2) (mTwo 7 (J (n - 2)) (J (n - 1)))) (n - 2) 0) (R) (n - 1) (t) (some (.int (iZ o))) (some (.int (iZ v))) (by omega) (by rw [show je - (i + 1) = q by omega]; exact hsf) (by omega)
                      rw [show je - i = (je - (i + 1)) + 1 by omega, mRun, ho, hv, e]
                      rw [show (n : Int) + (-1) = ((n - 1 : Nat) : Int) by omega]
                      exact k0
            · refine q_aload_n dX7_summedUp_172 rfl rfl ?_
              refine sg7 (kf := 21) (v := .ref 391) dX7_summedUp_173 flX7_35 (show kd 384 = 7 from rfl) (by decide) rfl ?_
              refine q_iload dX7_summedUp_176 rfl ?_
              refine z_iconst dX7_summedUp_178 ?_
              refine z_isub dX7_summedUp_179 ?_
              refine q_iload dX7_summedUp_180 rfl ?_
              refine z_iconst dX7_summedUp_182 ?_
              refine z_icmp_ne (tgt := 199) dX7_summedUp_183 (by decide) (by unfold inR; omega) (by unfold inR; omega) (fun c_16 => ?_) (fun c_16 => ?_)
              · refine q_aload_n dX7_summedUp_199 rfl rfl ?_
                refine q_aload_n dX7_summedUp_200 rfl rfl ?_
                refine sg7 (kf := 21) (v := .ref 391) dX7_summedUp_201 flX7_35 (show kd 384 = 7 from rfl) (by decide) rfl ?_
                refine q_iload dX7_summedUp_204 rfl ?_
                refine z_iconst dX7_summedUp_206 ?_
                refine z_isub dX7_summedUp_207 ?_
                refine s_lald (n := 330) (x := J (n - 1)) dX7_summedUp_208 (show kd 391 = 100000 + 330 from rfl) (by omega) (by omega) (by decide) (by show J ((n : Int) - 1 : Int).toNat = _; rw [show ((n : Int) - 1 : Int).toNat = n - 1 by omega]) ?_
                refine s_callV (ci := 7) (a := 384) (As := [.long (lZ (J (n - 1)))]) (S := [.int (iZ ((n : Int) - 1)), .ref 391]) dX7_summedUp_209 okX7_houseKind mlX7_252 rfl (by omega) rfl (Nat.le_of_ble_eq_true rfl) (show kd 384 = 7 from rfl) (by decide) rfl (m_houseKind (d := d - 1) (h := J (n - 1)) (by unfold inL; omega) (ev σ J R) A F (fun q => hkA _ q)) (fun v_ σ_ hq => ?_)
                obtain ⟨rfl, e9⟩ := hq
                have e9 := e9.symm
                subst e9
                show sE g_tt _ _ _ 212 [some (.ref 384), l1, l2, some (.int (iZ (x : Int))), some (.int (iZ (c : Int))), some (.int (iZ (n : Int))), some (.int (iZ (t : Int))), some (.int (iZ (i : Int))), some (.int (iZ o)), some (.int (iZ v))] [.long (lZ (mHk A (J (n - 1)))), .int (iZ ((n : Int) - 1)), .ref 391] (ms (ev σ J R) A F)
                refine e_lst (k := n - 1) dX7_summedUp_212 (by omega) (by omega) (by omega) ?_
                refine q_goto (tgt := 413) dX7_summedUp_213 (by decide) ?_
                refine z_iinc dX7_summedUp_413 rfl (by decide) ?_
                show sE g_tt _ _ _ 416 [some (.ref 384), l1, l2, some (.int (iZ (x : Int))), some (.int (iZ (c : Int))), some (.int (iZ (n : Int))), some (.int (iZ (t : Int))), some (.int (iZ ((i : Int) + 1))), some (.int (iZ o)), some (.int (iZ v))] [] (ms (ev σ (va_up J (n - 1) (mHk A (J (n - 1)))) R) A F)
                refine q_goto (tgt := 38) dX7_summedUp_416 (by decide) ?_
                have e : mEs A (σ.2.1 390) o v (J, R, n, t) = (va_up J (n - 1) (mHk A (J (n - 1))), R, n, t) := by
                  unfold mEs
                  dsimp only
                  first | ((repeat (first | rw [if_pos (by omega)] | rw [if_neg (by omega)])); done) | (exfalso; omega)
                rw [ho, hv, e] at hsf
                have k0 := ih (i + 1) (va_up J (n - 1) (mHk A (J (n - 1)))) (R) (n) (t) (some (.int (iZ o))) (some (.int (iZ v))) (by omega) (by rw [show je - (i + 1) = q by omega]; exact hsf) (by omega)
                rw [show je - i = (je - (i + 1)) + 1 by omega, mRun, ho, hv, e]
                exact k0
              · refine q_aload_n dX7_summedUp_186 rfl rfl ?_
                refine sg7 (kf := 21) (v := .ref 391) dX7_summedUp_187 flX7_35 (show kd 384 = 7 from rfl) (by decide) rfl ?_
                refine q_iload dX7_summedUp_190 rfl ?_
                refine z_iconst dX7_summedUp_192 ?_
                refine z_isub dX7_summedUp_193 ?_
                refine s_lald (n := 330) (x := J (n - 1)) dX7_summedUp_194 (show kd 391 = 100000 + 330 from rfl) (by omega) (by omega) (by decide) (by show J ((n : Int) - 1 : Int).toNat = _; rw [show ((n : Int) - 1 : Int).toNat = n - 1 by omega]) ?_
                refine z_lneg dX7_summedUp_195 ?_
                refine q_goto (tgt := 212) dX7_summedUp_196 (by decide) ?_
                refine e_lst (k := n - 1) dX7_summedUp_212 (by omega) (by omega) (by omega) ?_
                refine q_goto (tgt := 413) dX7_summedUp_213 (by decide) ?_
                refine z_iinc dX7_summedUp_413 rfl (by decide) ?_
                show sE g_tt _ _ _ 416 [some (.ref 384), l1, l2, some (.int (iZ (x : Int))), some (.int (iZ (c : Int))), some (.int (iZ (n : Int))), some (.int (iZ (t : Int))), some (.int (iZ ((i : Int) + 1))), some (.int (iZ o)), some (.int (iZ v))] [] (ms (ev σ (va_up J (n - 1) (-(J (n - 1)))) R) A F)
                refine q_goto (tgt := 38) dX7_summedUp_416 (by decide) ?_
                have e : mEs A (σ.2.1 390) o v (J, R, n, t) = (va_up J (n - 1) (-(J (n - 1))), R, n, t) := by
                  unfold mEs
                  dsimp only
                  first | ((repeat (first | rw [if_pos (by omega)] | rw [if_neg (by omega)])); done) | (exfalso; omega)
                rw [ho, hv, e] at hsf
                have k0 := ih (i + 1) (va_up J (n - 1) (-(J (n - 1)))) (R) (n) (t) (some (.int (iZ o))) (some (.int (iZ v))) (by omega) (by rw [show je - (i + 1) = q by omega]; exact hsf) (by omega)
                rw [show je - i = (je - (i + 1)) + 1 by omega, mRun, ho, hv, e]
                exact k0
        · refine z_iinc dX7_summedUp_125 rfl (by decide) ?_
          show sE g_tt _ _ _ 128 [some (.ref 384), l1, l2, some (.int (iZ (x : Int))), some (.int (iZ (c : Int))), some (.int (iZ ((n : Int) + (-1)))), some (.int (iZ (t : Int))), some (.int (iZ (i : Int))), some (.int (iZ o)), some (.int (iZ v))] [] (ms (ev σ J R) A F)
          refine z_iinc dX7_summedUp_128 rfl (by decide) ?_
          show sE g_tt _ _ _ 131 [some (.ref 384), l1, l2, some (.int (iZ (x : Int))), some (.int (iZ (c : Int))), some (.int (iZ ((n : Int) + (-1)))), some (.int (iZ ((t : Int) + (-1)))), some (.int (iZ (i : Int))), some (.int (iZ o)), some (.int (iZ v))] [] (ms (ev σ J R) A F)
          refine q_aload_n dX7_summedUp_131 rfl rfl ?_
          refine sg7 (kf := 22) (v := .ref 392) dX7_summedUp_132 flX7_39 (show kd 384 = 7 from rfl) (by decide) rfl ?_
          refine q_iload dX7_summedUp_135 rfl ?_
          refine s_zald (n := 330) (x := R (t - 1)) dX7_summedUp_137 (show kd 392 = 200000 + 330 from rfl) (by omega) (by omega) (by decide) (by show R ((t : Int) + (-1) : Int).toNat = _; rw [show ((t : Int) + (-1) : Int).toNat = t - 1 by omega]) ?_
          refine z_if_ne (tgt := 413) dX7_summedUp_138 (by decide) (by unfold inR; omega) (fun c_17 => ?_) (fun c_17 => ?_)
          · refine z_iinc dX7_summedUp_413 rfl (by decide) ?_
            show sE g_tt _ _ _ 416 [some (.ref 384), l1, l2, some (.int (iZ (x : Int))), some (.int (iZ (c : Int))), some (.int (iZ ((n : Int) + (-1)))), some (.int (iZ ((t : Int) + (-1)))), some (.int (iZ ((i : Int) + 1))), some (.int (iZ o)), some (.int (iZ v))] [] (ms (ev σ J R) A F)
            refine q_goto (tgt := 38) dX7_summedUp_416 (by decide) ?_
            have e : mEs A (σ.2.1 390) o v (J, R, n, t) = (J, R, n - 1, t - 1) := by
              unfold mEs
              dsimp only
              first | ((repeat (first | rw [if_pos (by omega)] | rw [if_neg (by omega)])); done) | (exfalso; omega)
            rw [ho, hv, e] at hsf
            have k0 := ih (i + 1) (J) (R) (n - 1) (t - 1) (some (.int (iZ o))) (some (.int (iZ v))) (by omega) (by rw [show je - (i + 1) = q by omega]; exact hsf) (by omega)
            rw [show je - i = (je - (i + 1)) + 1 by omega, mRun, ho, hv, e]
            rw [show (n : Int) + (-1) = ((n - 1 : Nat) : Int) by omega]
            rw [show (t : Int) + (-1) = ((t - 1 : Nat) : Int) by omega]
            exact k0
          · refine q_aload_n dX7_summedUp_141 rfl rfl ?_
            refine sg7 (kf := 21) (v := .ref 391) dX7_summedUp_142 flX7_35 (show kd 384 = 7 from rfl) (by decide) rfl ?_
            refine q_iload dX7_summedUp_145 rfl ?_
            refine z_iconst dX7_summedUp_147 ?_
            refine z_isub dX7_summedUp_148 ?_
            refine q_aload_n dX7_summedUp_149 rfl rfl ?_
            refine sg7 (kf := 21) (v := .ref 391) dX7_summedUp_150 flX7_35 (show kd 384 = 7 from rfl) (by decide) rfl ?_
            refine q_iload dX7_summedUp_153 rfl ?_
            refine s_lald (n := 330) (x := J (n - 1)) dX7_summedUp_155 (show kd 391 = 100000 + 330 from rfl) (by omega) (by omega) (by decide) (by show J ((n : Int) + (-1) : Int).toNat = _; rw [show ((n : Int) + (-1) : Int).toNat = n - 1 by omega]) ?_
            refine e_lst (k := n - 2) dX7_summedUp_156 (by omega) (by omega) (by omega) ?_
            refine q_goto (tgt := 413) dX7_summedUp_157 (by decide) ?_
            refine z_iinc dX7_summedUp_413 rfl (by decide) ?_
            show sE g_tt _ _ _ 416 [some (.ref 384), l1, l2, some (.int (iZ (x : Int))), some (.int (iZ (c : Int))), some (.int (iZ ((n : Int) + (-1)))), some (.int (iZ ((t : Int) + (-1)))), some (.int (iZ ((i : Int) + 1))), some (.int (iZ o)), some (.int (iZ v))] [] (ms (ev σ (va_up J (n - 2) (J (n - 1))) R) A F)
            refine q_goto (tgt := 38) dX7_summedUp_416 (by decide) ?_
            have e : mEs A (σ.2.1 390) o v (J, R, n, t) = (va_up J (n - 2) (J (n - 1)), R, n - 1, t - 1) := by
              unfold mEs
              dsimp only
              first | ((repeat (first | rw [if_pos (by omega)] | rw [if_neg (by omega)])); done) | (exfalso; omega)
            rw [ho, hv, e] at hsf
            have k0 := ih (i + 1) (va_up J (n - 2) (J (n - 1))) (R) (n - 1) (t - 1) (some (.int (iZ o))) (some (.int (iZ v))) (by omega) (by rw [show je - (i + 1) = q by omega]; exact hsf) (by omega)
            rw [show je - i = (je - (i + 1)) + 1 by omega, mRun, ho, hv, e]
            rw [show (n : Int) + (-1) = ((n - 1 : Nat) : Int) by omega]
            rw [show (t : Int) + (-1) = ((t - 1 : Nat) : Int) by omega]
            exact k0
      · refine q_aload_n dX7_summedUp_87 rfl rfl ?_
        refine sg7 (kf := 21) (v := .ref 391) dX7_summedUp_88 flX7_35 (show kd 384 = 7 from rfl) (by decide) rfl ?_
        refine q_iload dX7_summedUp_91 rfl ?_
        refine q_iload dX7_summedUp_93 rfl ?_
        refine z_if_ne (tgt := 104) dX7_summedUp_95 (by decide) (by unfold inR; omega) (fun c_18 => ?_) (fun c_18 => ?_)
        · refine q_aload_n dX7_summedUp_104 rfl rfl ?_
          refine sg7 (kf := 20) (v := .ref 390) dX7_summedUp_105 flX7_32 (show kd 384 = 7 from rfl) (by decide) rfl ?_
          refine q_iload dX7_summedUp_108 rfl ?_
          refine s_iald (n := 8) (x := σ.2.1 390 v.toNat) dX7_summedUp_110 (show kd 390 = 100 + 8 from rfl) (by omega) (by omega) (by decide) rfl ?_
          refine z_i2l dX7_summedUp_111 (by unfold inR; omega) ?_
          refine e_lst (k := n) dX7_summedUp_112 (by omega) (by omega) (by omega) ?_
          refine z_iinc dX7_summedUp_113 rfl (by decide) ?_
          show sE g_tt _ _ _ 116 [some (.ref 384), l1, l2, some (.int (iZ (x : Int))), some (.int (iZ (c : Int))), some (.int (iZ ((n : Int) + 1))), some (.int (iZ (t : Int))), some (.int (iZ (i : Int))), some (.int (iZ o)), some (.int (iZ v))] [] (ms (ev σ (va_up J n (σ.2.1 390 v.toNat)) R) A F)
          refine q_goto (tgt := 413) dX7_summedUp_116 (by decide) ?_
          refine z_iinc dX7_summedUp_413 rfl (by decide) ?_
          show sE g_tt _ _ _ 416 [some (.ref 384), l1, l2, some (.int (iZ (x : Int))), some (.int (iZ (c : Int))), some (.int (iZ ((n : Int) + 1))), some (.int (iZ (t : Int))), some (.int (iZ ((i : Int) + 1))), some (.int (iZ o)), some (.int (iZ v))] [] (ms (ev σ (va_up J n (σ.2.1 390 v.toNat)) R) A F)
          refine q_goto (tgt := 38) dX7_summedUp_416 (by decide) ?_
          have e : mEs A (σ.2.1 390) o v (J, R, n, t) = (va_up J n (σ.2.1 390 v.toNat), R, n + 1, t) := by
            unfold mEs
            dsimp only
            first | ((repeat (first | rw [if_pos (by omega)] | rw [if_neg (by omega)])); done) | (exfalso; omega)
          rw [ho, hv, e] at hsf
          have k0 := ih (i + 1) (va_up J n (σ.2.1 390 v.toNat)) (R) (n + 1) (t) (some (.int (iZ o))) (some (.int (iZ v))) (by omega) (by rw [show je - (i + 1) = q by omega]; exact hsf) (by omega)
          rw [show je - i = (je - (i + 1)) + 1 by omega, mRun, ho, hv, e]
          rw [show (n : Int) + 1 = ((n + 1 : Nat) : Int) by omega]
          exact k0
        · refine q_iload dX7_summedUp_98 rfl ?_
          refine z_i2l dX7_summedUp_100 (by unfold inR; omega) ?_
          refine q_goto (tgt := 112) dX7_summedUp_101 (by decide) ?_
          refine e_lst (k := n) dX7_summedUp_112 (by omega) (by omega) (by omega) ?_
          refine z_iinc dX7_summedUp_113 rfl (by decide) ?_
          show sE g_tt _ _ _ 116 [some (.ref 384), l1, l2, some (.int (iZ (x : Int))), some (.int (iZ (c : Int))), some (.int (iZ ((n : Int) + 1))), some (.int (iZ (t : Int))), some (.int (iZ (i : Int))), some (.int (iZ o)), some (.int (iZ v))] [] (ms (ev σ (va_up J n v) R) A F)
          refine q_goto (tgt := 413) dX7_summedUp_116 (by decide) ?_
          refine z_iinc dX7_summedUp_413 rfl (by decide) ?_
          show sE g_tt _ _ _ 416 [some (.ref 384), l1, l2, some (.int (iZ (x : Int))), some (.int (iZ (c : Int))), some (.int (iZ ((n : Int) + 1))), some (.int (iZ (t : Int))), some (.int (iZ ((i : Int) + 1))), some (.int (iZ o)), some (.int (iZ v))] [] (ms (ev σ (va_up J n v) R) A F)
          refine q_goto (tgt := 38) dX7_summedUp_416 (by decide) ?_
          have e : mEs A (σ.2.1 390) o v (J, R, n, t) = (va_up J n v, R, n + 1, t) := by
            unfold mEs
            dsimp only
            first | ((repeat (first | rw [if_pos (by omega)] | rw [if_neg (by omega)])); done) | (exfalso; omega)
          rw [ho, hv, e] at hsf
          have k0 := ih (i + 1) (va_up J n v) (R) (n + 1) (t) (some (.int (iZ o))) (some (.int (iZ v))) (by omega) (by rw [show je - (i + 1) = q by omega]; exact hsf) (by omega)
          rw [show je - i = (je - (i + 1)) + 1 by omega, mRun, ho, hv, e]
          rw [show (n : Int) + 1 = ((n + 1 : Nat) : Int) by omega]
          exact k0
