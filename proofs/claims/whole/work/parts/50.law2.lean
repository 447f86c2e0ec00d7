/-! ===== a law of the class is reckoned ===== -/
theorem kd_tx {x : Nat} (h : kd x = 4) : kd (x + 1) = 100 + 300 ∧ kd (x + 5) = 100 + 64 ∧ (x = 322 ∨ x = 340 ∨ x = 346 ∨ x = 352 ∨ x = 358) := by
  have q : ∀ x, x < 398 → kd x = 4 → kd (x + 1) = 100 + 300 ∧ kd (x + 5) = 100 + 64 ∧ (x = 322 ∨ x = 340 ∨ x = 346 ∨ x = 352 ∨ x = 358) := by decide +kernel
  exact q x (kd_lt h (by decide)) h
theorem kd_sp {s : Nat} (h : kd s = 2) : s + 5 ≤ 321 ∨ (364 ≤ s ∧ s + 5 ≤ 384) := by
  have q : ∀ x, x < 398 → kd x = 2 → x + 5 ≤ 321 ∨ (364 ≤ x ∧ x + 5 ≤ 384) := by decide +kernel
  exact q s (kd_lt h (by decide)) h
theorem st_oR (σ : gS) {s : Nat} (K H E N f : Nat → Int) {a : Nat} (h : a < s + 1 ∨ s + 4 < a) (k : Nat) (z : Int) : sR (st σ s K H E N f) a k z = st (sR σ a k z) s K H E N f :=
  st_eq (st_f σ s K H E N f) ((up2_ne _ _ _ (by omega)).trans (st_K σ s K H E N f)) ((up2_ne _ _ _ (by omega)).trans (st_H σ s K H E N f)) ((up2_ne _ _ _ (by omega)).trans (st_E σ s K H E N f)) ((up2_ne _ _ _ (by omega)).trans (st_N σ s K H E N f)) (fun b q => st_o1 σ K H E N f q) (fun b q => by
    by_cases e : b = a
    · subst e; show up2 _ b k z b = up2 _ b k z b; rw [up2_eq, up2_eq, st_o2 σ K H E N f q]
    · show up2 _ a k z b = up2 _ a k z b; rw [up2_ne _ _ _ e, up2_ne _ _ _ e, st_o2 σ K H E N f q]) rfl
/-- a row holds a stack, its top first -/
def stk (R : Nat → Int) : List Int → Prop
  | [] => True
  | v :: t => R t.length = v ∧ stk R t
theorem stk_up {R : Nat → Int} : ∀ {S : List Int} {n : Nat} (v : Int), stk R S → S.length ≤ n → stk (va_up R n v) S := by
  intro S
  induction S with
  | nil => intro n v _ _; trivial
  | cons a t ih =>
    intro n v h hn
    simp only [List.length_cons] at hn
    exact ⟨by rw [va_up_ne _ _ (by omega)]; exact h.1, ih v h.2 (by omega)⟩
theorem stk_push {R : Nat → Int} {S : List Int} (v : Int) (h : stk R S) : stk (va_up R S.length v) (v :: S) := ⟨va_up_self _ _ _, stk_up v h (Nat.le_refl _)⟩
def jmp (i v : Nat) : Nat := if i + 1 ≤ v then v else i + 1
/-- a law's instructions from i on (ops O, numbers V, up to w), f of them, over a stack -/
def cRun (A : Nat → Int) (h : Nat) (O V : Nat → Nat) (w : Nat) : Nat → Nat → List Int → Option (List Int)
  | 0, _, _ => none
  | f + 1, i, S =>
    if w ≤ i then some S
    else if O i = 14 then (if 64 ≤ S.length then none else cRun A h O V w f (jmp i (V i)) S)
    else if O i = 12 then (if S.length < 1 then none else cRun A h O V w f (if S.headD 0 = 0 then jmp i (V i) else i + 1) S.tail)
    else if cTk (O i) = 0 then (if 64 ≤ S.length then none else cRun A h O V w f (i + 1) (mClip (cNa A h (O i) (V i)) :: S))
    else if cTk (O i) = 1 then (if S.length < 1 then none else cRun A h O V w f (i + 1) (mClip (cCh A (O i) (S.headD 0)) :: S.tail))
    else if S.length < 2 ∨ ((O i = 16 ∨ O i = 17) ∧ ¬ ((S.tail.headD 0 = 0 ∨ S.tail.headD 0 = 1) ∧ (S.headD 0 = 0 ∨ S.headD 0 = 1))) then none
    else cRun A h O V w f (i + 1) (mClip (cJn (O i) (S.tail.headD 0) (S.headD 0)) :: S.tail.tail)
def cOut (S : List Int) : Int := match S with
  | [] => 0
  | b :: _ => max 0 (min 9 b)
theorem mClip_mm (v : Int) : max (-1000000) (min 1000000 v) = mClip v := by
  unfold mClip; split
  · omega
  · split <;> omega
theorem cJn_ran (op : Nat) {a b : Int} (ha : mil a) (hb : mil b) : inL (cJn op a b) := by
  have h1 : -1000000000000 ≤ a * b ∧ a * b ≤ 1000000000000 := by
    have q : (a * b).natAbs ≤ 1000000 * 1000000 := by
      rw [Int.natAbs_mul]
      exact Nat.mul_le_mul (by unfold mil at ha; omega) (by unfold mil at hb; omega)
    omega
  have h2 := tdiv_ran (x := a) (y := b) (B := 1000000) ha.1 ha.2
  unfold mil at ha hb
  unfold cJn inL
  repeat' split
  all_goals omega
theorem cCh_ran {c nt : Int} {A : Nat → Int} (g : gd c nt A) (hc : c ≤ 100000) (op : Nat) {b : Int} (hb : mil b) : inL (cCh A op b) := by
  have q := mHk_ran g hc b
  unfold mil at hb
  unfold cCh inL
  repeat' split
  all_goals omega
theorem cNa_ran {c nt : Int} {A : Nat → Int} (g : gd c nt A) (hc : c ≤ 100000) {h : Nat} (hh : h < 8) (op : Nat) {v : Nat} (hv : v ≤ 1000000) : inL (cNa A h op v) := by
  have q := mHk_ran g hc
  have q1 := q (h : Int)
  have q2 := q ((h : Int) - 1)
  have q3 := q ((h : Int) + 1)
  have q4 := cCn_ran A (h : Int) (A 0).toNat
  have g0 := g.1
  have g5 := g.2.2.2.2.2
  unfold cNa inL
  repeat' split
  all_goals omega
set_option maxHeartbeats 4000000 in
set_option maxRecDepth 100000 in
theorem lp_worth {d s x h w : Nat} {b fr : Int} (hd : 3 ≤ d) (hh : h < 8) (hs : kd s = 2) (hx : kd x = 4) (σ : gS) (K H E N f : Nat → Int) {on : Int} {A : Nat → Int} {c nt : Int} (g : gd c nt A) (tr : trR on K H E f A) (hc : c ≤ 100000) (O V : Nat → Nat) (hw : w ≤ 300) (hC : ∀ i, i < w → σ.2.1 (x + 1) i = ((O i : Nat) : Int) + 64 * ((V i : Nat) : Int) ∧ O i < 64 ∧ V i ≤ 1000000) (S9 : List Int) : ∀ (n : Nat) (i : Nat) (S : List Int) (R : Nat → Int) (l8 l9 l10 l11 l12 l13 : Option Value), cRun A h O V w n i S = some S9 → S.length ≤ 64 → (∀ z ∈ S, mil z) → stk R S → i ≤ 1000001 → sE g_tt mX4_worth d (fun r σ' => r = some (.int (iZ (cOut S9))) ∧ ∃ R9, σ' = st (sRw σ (x + 5) R9) s K H E N f) 68 [some (.ref x), some (.int (iZ b)), some (.ref s), some (.int (iZ (h : Int))), some (.int (iZ fr)), some (.int (iZ (w : Int))), some (.int (iZ ((S.length : Nat) : Int))), some (.int (iZ (i : Int))), l8, l9, l10, l11, l12, l13, none] [] (st (sRw σ (x + 5) R) s K H E N f) := by
  have hxp := (kd_tx hx).2.2
  have hsp := kd_sp hs
  intro n
  induction n with
  | zero =>
    intro i S R l8 l9 l10 l11 l12 l13 hrun hSl hmil hst hi0
    cases hrun
  | succ n ih =>
    intro i S R l8 l9 l10 l11 l12 l13 hrun hSl hmil hst hi0
    rw [cRun] at hrun
    by_cases hwi : w ≤ i
    · rw [if_pos hwi] at hrun
      have e9 : S = S9 := Option.some.inj hrun
      rw [← e9]
      clear hrun e9
      cases S with
      | nil =>
        show sE g_tt mX4_worth d (fun r σ' => r = some (.int (iZ (cOut []))) ∧ ∃ R9, σ' = st (sRw σ (x + 5) R9) s K H E N f) 68 [some (.ref x), some (.int (iZ b)), some (.ref s), some (.int (iZ (h : Int))), some (.int (iZ fr)), some (.int (iZ (w : Int))), some (.int (iZ 0)), some (.int (iZ (i : Int))), l8, l9, l10, l11, l12, l13, none] [] (st (sRw σ (x + 5) R) s K H E N f)
        refine q_iload dX4_worth_68 rfl ?_
        refine q_iload dX4_worth_70 rfl ?_
        refine z_icmp_ge (tgt := 292) dX4_worth_72 (by decide) (by unfold inR at *; omega) (by unfold inR at *; omega) (fun c_1 => ?_) (fun c_1 => ?_)
        · refine q_iload dX4_worth_292 rfl ?_
          refine z_if_le (tgt := 318) dX4_worth_294 (by decide) (by unfold inR at *; omega) (fun c_2 => ?_) (fun c_2 => ?_)
          · refine z_iconst dX4_worth_318 ?_
            exact s_iretZ dX4_worth_319 rfl ⟨rfl, R, rfl⟩
          · exfalso
            revert c_2
            decide
        · exfalso
          omega
      | cons b1 t =>
        obtain ⟨m, hm⟩ : ∃ m, t.length = m := ⟨_, rfl⟩
        simp only [List.length_cons] at hSl
        have hb1e : R m = b1 := by rw [← hm]; exact hst.1
        have hmb : mil b1 := hmil b1 List.mem_cons_self
        have hmb1 := hmb.1
        have hmb2 := hmb.2
        rw [show (((b1 :: t).length : Nat) : Int) = (m : Int) + 1 by simp only [List.length_cons]; omega]
        refine q_iload dX4_worth_68 rfl ?_
        refine q_iload dX4_worth_70 rfl ?_
        refine z_icmp_ge (tgt := 292) dX4_worth_72 (by decide) (by unfold inR at *; omega) (by unfold inR at *; omega) (fun c_1 => ?_) (fun c_1 => ?_)
        · refine q_iload dX4_worth_292 rfl ?_
          refine z_if_le (tgt := 318) dX4_worth_294 (by decide) (by unfold inR at *; omega) (fun c_2 => ?_) (fun c_2 => ?_)
          · exfalso
            omega
          · refine z_iconst dX4_worth_297 ?_
            refine z_bipush dX4_worth_298 (by decide +kernel) ?_
            refine q_aload_n dX4_worth_300 rfl rfl ?_
            refine sg4 (kf := 11) (v := .ref (x + 5)) dX4_worth_301 flX4_47 hx (by decide) rfl ?_
            refine q_iload dX4_worth_304 rfl ?_
            refine z_iconst dX4_worth_306 ?_
            refine z_isub dX4_worth_307 ?_
            refine s_iald (n := 64) (x := b1) dX4_worth_308 (kd_tx hx).2.1 (by omega) (by omega) (by decide) (by rw [st_o2 _ _ _ _ _ _ (by omega), sRw_at, show (((m : Int) + 1) - 1 : Int).toNat = m by omega]; exact hb1e) ?_
            refine z_mmin dX4_worth_309 mlX4_50 (by omega) (Nat.le_of_ble_eq_true rfl) (by unfold inR at *; omega) (by unfold inR at *; omega) ?_
            refine z_mmax dX4_worth_312 mlX4_65 (by omega) (Nat.le_of_ble_eq_true rfl) (by unfold inR at *; omega) (by unfold inR at *; omega) ?_
            refine q_goto (tgt := 319) dX4_worth_315 (by decide) ?_
            exact s_iretZ dX4_worth_319 rfl ⟨rfl, R, rfl⟩
        · exfalso
          omega
    · rw [if_neg hwi] at hrun
      obtain ⟨hCi, ho, hv6⟩ := hC i (by omega)
      generalize O i = op at hrun hCi ho
      generalize V i = v at hrun hCi hv6
      by_cases h14 : op = 14
      · rw [if_pos h14] at hrun
        have htk : cTk op = 0 := by rw [h14]; rfl
        by_cases h64 : 64 ≤ S.length
        · rw [if_pos h64] at hrun; cases hrun
        rw [if_neg h64] at hrun
        obtain ⟨m, hm⟩ : ∃ m, S.length = m := ⟨_, rfl⟩
        rw [hm]
        refine q_iload dX4_worth_68 rfl ?_
        refine q_iload dX4_worth_70 rfl ?_
        refine z_icmp_ge (tgt := 292) dX4_worth_72 (by decide) (by unfold inR at *; omega) (by unfold inR at *; omega) (fun c_1 => ?_) (fun c_1 => ?_)
        · exfalso
          omega
        · refine q_aload_n dX4_worth_75 rfl rfl ?_
          refine sg4 (kf := 0) (v := .ref (x + 1)) dX4_worth_76 flX4_9 hx (by decide) rfl ?_
          refine q_iload dX4_worth_79 rfl ?_
          refine s_iald (n := 300) (x := (op : Int) + 64 * (v : Int)) dX4_worth_81 (kd_tx hx).1 (by omega) (by omega) (by decide) (by rw [st_o2 _ _ _ _ _ _ (by omega), sRw_ne _ _ (by omega)]; exact hCi) ?_
          refine z_bipush dX4_worth_82 (by decide +kernel) ?_
          refine z_irem dX4_worth_84 (by unfold inR at *; omega) (by unfold inR at *; omega) (by decide) ?_
          refine z_top (y := (op : Int)) (by rw [Int.tmod_eq_emod_of_nonneg (by omega)]; omega) ?_
          refine q_istore dX4_worth_85 (by decide) ?_
          show sE g_tt _ _ _ 87 [some (.ref x), some (.int (iZ b)), some (.ref s), some (.int (iZ (h : Int))), some (.int (iZ fr)), some (.int (iZ (w : Int))), some (.int (iZ (m : Int))), some (.int (iZ (i : Int))), some (.int (iZ (op : Int))), l9, l10, l11, l12, l13, none] [] (st (sRw σ (x + 5) R) s K H E N f)
          refine q_aload_n dX4_worth_87 rfl rfl ?_
          refine sg4 (kf := 0) (v := .ref (x + 1)) dX4_worth_88 flX4_9 hx (by decide) rfl ?_
          refine q_iload dX4_worth_91 rfl ?_
          refine s_iald (n := 300) (x := (op : Int) + 64 * (v : Int)) dX4_worth_93 (kd_tx hx).1 (by omega) (by omega) (by decide) (by rw [st_o2 _ _ _ _ _ _ (by omega), sRw_ne _ _ (by omega)]; exact hCi) ?_
          refine z_bipush dX4_worth_94 (by decide +kernel) ?_
          refine z_idiv dX4_worth_96 (by unfold inR at *; omega) (by unfold inR at *; omega) (by decide) ?_
          refine z_top (y := (v : Int)) (by rw [Int.tdiv_eq_ediv_of_nonneg (by omega)]; omega) ?_
          refine q_istore dX4_worth_97 (by decide) ?_
          show sE g_tt _ _ _ 99 [some (.ref x), some (.int (iZ b)), some (.ref s), some (.int (iZ (h : Int))), some (.int (iZ fr)), some (.int (iZ (w : Int))), some (.int (iZ (m : Int))), some (.int (iZ (i : Int))), some (.int (iZ (op : Int))), some (.int (iZ (v : Int))), l10, l11, l12, l13, none] [] (st (sRw σ (x + 5) R) s K H E N f)
          refine q_iload dX4_worth_99 rfl ?_
          refine s_callS (As := [.int (iZ (op : Int))]) (S := []) dX4_worth_101 okX4_operands mlX4_61 rfl (by omega) rfl (Nat.le_of_ble_eq_true rfl) (c_operands (d := d - 1) (op := op) ho (st (sRw σ (x + 5) R) s K H E N f)) (fun v_ σ_ hq => ?_)
          obtain ⟨rfl, e9⟩ := hq
          have e9 := e9.symm
          subst e9
          refine z_top (y := 0) (by rw [htk]; rfl) ?_
          show sE g_tt _ _ _ 104 [some (.ref x), some (.int (iZ b)), some (.ref s), some (.int (iZ (h : Int))), some (.int (iZ fr)), some (.int (iZ (w : Int))), some (.int (iZ (m : Int))), some (.int (iZ (i : Int))), some (.int (iZ (op : Int))), some (.int (iZ (v : Int))), l10, l11, l12, l13, none] [.int (iZ 0)] (st (sRw σ (x + 5) R) s K H E N f)
          refine q_istore dX4_worth_104 (by decide) ?_
          show sE g_tt _ _ _ 106 [some (.ref x), some (.int (iZ b)), some (.ref s), some (.int (iZ (h : Int))), some (.int (iZ fr)), some (.int (iZ (w : Int))), some (.int (iZ (m : Int))), some (.int (iZ (i : Int))), some (.int (iZ (op : Int))), some (.int (iZ (v : Int))), some (.int (iZ 0)), l11, l12, l13, none] [] (st (sRw σ (x + 5) R) s K H E N f)
          refine q_iload dX4_worth_106 rfl ?_
          refine q_iload dX4_worth_108 rfl ?_
          refine z_icmp_lt (tgt := 123) dX4_worth_110 (by decide) (by unfold inR at *; omega) (by unfold inR at *; omega) (fun c_2 => ?_) (fun c_2 => ?_)
          · exfalso
            omega
          · refine q_iload dX4_worth_113 rfl ?_
            refine q_iload dX4_worth_115 rfl ?_
            refine z_isub dX4_worth_117 ?_
            refine z_bipush dX4_worth_118 (by decide +kernel) ?_
            refine z_icmp_lt (tgt := 125) dX4_worth_120 (by decide) (by unfold inR at *; omega) (by unfold inR at *; omega) (fun c_3 => ?_) (fun c_3 => ?_)
            · refine q_iload dX4_worth_125 rfl ?_
              refine z_if_le (tgt := 142) dX4_worth_127 (by decide) (by unfold inR at *; omega) (fun c_4 => ?_) (fun c_4 => ?_)
              · refine z_iconst dX4_worth_142 ?_
                refine q_istore dX4_worth_143 (by decide) ?_
                show sE g_tt _ _ _ 145 [some (.ref x), some (.int (iZ b)), some (.ref s), some (.int (iZ (h : Int))), some (.int (iZ fr)), some (.int (iZ (w : Int))), some (.int (iZ (m : Int))), some (.int (iZ (i : Int))), some (.int (iZ (op : Int))), some (.int (iZ (v : Int))), some (.int (iZ 0)), some (.int (iZ 0)), l12, l13, none] [] (st (sRw σ (x + 5) R) s K H E N f)
                refine q_iload dX4_worth_145 rfl ?_
                refine z_iconst dX4_worth_147 ?_
                refine z_icmp_le (tgt := 163) dX4_worth_148 (by decide) (by unfold inR at *; omega) (by unfold inR at *; omega) (fun c_5 => ?_) (fun c_5 => ?_)
                · refine z_iconst dX4_worth_163 ?_
                  refine q_istore dX4_worth_164 (by decide) ?_
                  show sE g_tt _ _ _ 166 [some (.ref x), some (.int (iZ b)), some (.ref s), some (.int (iZ (h : Int))), some (.int (iZ fr)), some (.int (iZ (w : Int))), some (.int (iZ (m : Int))), some (.int (iZ (i : Int))), some (.int (iZ (op : Int))), some (.int (iZ (v : Int))), some (.int (iZ 0)), some (.int (iZ 0)), some (.int (iZ 0)), l13, none] [] (st (sRw σ (x + 5) R) s K H E N f)
                  refine q_iload dX4_worth_166 rfl ?_
                  refine q_iload dX4_worth_168 rfl ?_
                  refine z_isub dX4_worth_170 ?_
                  refine q_istore dX4_worth_171 (by decide) ?_
                  show sE g_tt _ _ _ 173 [some (.ref x), some (.int (iZ b)), some (.ref s), some (.int (iZ (h : Int))), some (.int (iZ fr)), some (.int (iZ (w : Int))), some (.int (iZ ((m : Int) - 0))), some (.int (iZ (i : Int))), some (.int (iZ (op : Int))), some (.int (iZ (v : Int))), some (.int (iZ 0)), some (.int (iZ 0)), some (.int (iZ 0)), l13, none] [] (st (sRw σ (x + 5) R) s K H E N f)
                  refine q_iload dX4_worth_173 rfl ?_
                  refine z_bipush dX4_worth_175 (by decide +kernel) ?_
                  refine z_icmp_eq (tgt := 187) dX4_worth_177 (by decide) (by unfold inR at *; omega) (by unfold inR at *; omega) (fun c_6 => ?_) (fun c_6 => ?_)
                  · refine q_iload dX4_worth_187 rfl ?_
                    refine z_bipush dX4_worth_189 (by decide +kernel) ?_
                    refine z_icmp_eq (tgt := 199) dX4_worth_191 (by decide) (by unfold inR at *; omega) (by unfold inR at *; omega) (fun c_7 => ?_) (fun c_7 => ?_)
                    · refine q_iload dX4_worth_199 rfl ?_
                      refine q_iload dX4_worth_201 rfl ?_
                      refine z_iconst dX4_worth_203 ?_
                      refine z_isub dX4_worth_204 ?_
                      refine z_mmax dX4_worth_205 mlX4_65 (by omega) (Nat.le_of_ble_eq_true rfl) (by unfold inR at *; omega) (by unfold inR at *; omega) ?_
                      refine q_istore dX4_worth_208 (by decide) ?_
                      show sE g_tt _ _ _ 210 [some (.ref x), some (.int (iZ b)), some (.ref s), some (.int (iZ (h : Int))), some (.int (iZ fr)), some (.int (iZ (w : Int))), some (.int (iZ ((m : Int) - 0))), some (.int (iZ (max (i : Int) ((v : Int) - 1)))), some (.int (iZ (op : Int))), some (.int (iZ (v : Int))), some (.int (iZ 0)), some (.int (iZ 0)), some (.int (iZ 0)), l13, none] [] (st (sRw σ (x + 5) R) s K H E N f)
                      refine q_goto (tgt := 286) dX4_worth_210 (by decide) ?_
                      refine z_iinc dX4_worth_286 rfl (by decide) ?_
                      show sE g_tt _ _ _ 289 [some (.ref x), some (.int (iZ b)), some (.ref s), some (.int (iZ (h : Int))), some (.int (iZ fr)), some (.int (iZ (w : Int))), some (.int (iZ ((m : Int) - 0))), some (.int (iZ (max (i : Int) ((v : Int) - 1) + 1))), some (.int (iZ (op : Int))), some (.int (iZ (v : Int))), some (.int (iZ 0)), some (.int (iZ 0)), some (.int (iZ 0)), l13, none] [] (st (sRw σ (x + 5) R) s K H E N f)
                      refine q_goto (tgt := 68) dX4_worth_289 (by decide) ?_
                      rw [show max (i : Int) ((v : Int) - 1) + 1 = ((jmp i v : Nat) : Int) by unfold jmp; split <;> omega, show (m : Int) - 0 = ((S.length : Nat) : Int) by omega]
                      exact ih (jmp i v) S R _ _ _ _ _ _ hrun hSl hmil hst (by unfold jmp; split <;> omega)
                    · exfalso
                      omega
                  · refine q_iload dX4_worth_180 rfl ?_
                    refine z_bipush dX4_worth_182 (by decide +kernel) ?_
                    refine z_icmp_ne (tgt := 213) dX4_worth_184 (by decide) (by unfold inR at *; omega) (by unfold inR at *; omega) (fun c_8 => ?_) (fun c_8 => ?_)
                    · exfalso
                      omega
                    · refine q_iload dX4_worth_187 rfl ?_
                      refine z_bipush dX4_worth_189 (by decide +kernel) ?_
                      refine z_icmp_eq (tgt := 199) dX4_worth_191 (by decide) (by unfold inR at *; omega) (by unfold inR at *; omega) (fun c_9 => ?_) (fun c_9 => ?_)
                      · refine q_iload dX4_worth_199 rfl ?_
                        refine q_iload dX4_worth_201 rfl ?_
                        refine z_iconst dX4_worth_203 ?_
                        refine z_isub dX4_worth_204 ?_
                        refine z_mmax dX4_worth_205 mlX4_65 (by omega) (Nat.le_of_ble_eq_true rfl) (by unfold inR at *; omega) (by unfold inR at *; omega) ?_
                        refine q_istore dX4_worth_208 (by decide) ?_
                        show sE g_tt _ _ _ 210 [some (.ref x), some (.int (iZ b)), some (.ref s), some (.int (iZ (h : Int))), some (.int (iZ fr)), some (.int (iZ (w : Int))), some (.int (iZ ((m : Int) - 0))), some (.int (iZ (max (i : Int) ((v : Int) - 1)))), some (.int (iZ (op : Int))), some (.int (iZ (v : Int))), some (.int (iZ 0)), some (.int (iZ 0)), some (.int (iZ 0)), l13, none] [] (st (sRw σ (x + 5) R) s K H E N f)
                        refine q_goto (tgt := 286) dX4_worth_210 (by decide) ?_
                        refine z_iinc dX4_worth_286 rfl (by decide) ?_
                        show sE g_tt _ _ _ 289 [some (.ref x), some (.int (iZ b)), some (.ref s), some (.int (iZ (h : Int))), some (.int (iZ fr)), some (.int (iZ (w : Int))), some (.int (iZ ((m : Int) - 0))), some (.int (iZ (max (i : Int) ((v : Int) - 1) + 1))), some (.int (iZ (op : Int))), some (.int (iZ (v : Int))), some (.int (iZ 0)), some (.int (iZ 0)), some (.int (iZ 0)), l13, none] [] (st (sRw σ (x + 5) R) s K H E N f)
                        refine q_goto (tgt := 68) dX4_worth_289 (by decide) ?_
                        rw [show max (i : Int) ((v : Int) - 1) + 1 = ((jmp i v : Nat) : Int) by unfold jmp; split <;> omega, show (m : Int) - 0 = ((S.length : Nat) : Int) by omega]
                        exact ih (jmp i v) S R _ _ _ _ _ _ hrun hSl hmil hst (by unfold jmp; split <;> omega)
                      · exfalso
                        omega
                · exfalso
                  revert c_5
                  decide
              · exfalso
                revert c_4
                decide
            · exfalso
              omega
      · rw [if_neg h14] at hrun
        by_cases h12 : op = 12
        · rw [if_pos h12] at hrun
          have htk : cTk op = 1 := by rw [h12]; rfl
          cases S with
          | nil => rw [if_pos (by simp)] at hrun; cases hrun
          | cons b1 t =>
            obtain ⟨m, hm⟩ : ∃ m, t.length = m := ⟨_, rfl⟩
            simp only [List.length_cons] at hSl
            have hb1e : R m = b1 := by rw [← hm]; exact hst.1
            have hmb : mil b1 := hmil b1 List.mem_cons_self
            have hmb1 := hmb.1
            have hmb2 := hmb.2
            rw [if_neg (by simp)] at hrun
            have hrun : cRun A h O V w n (if b1 = 0 then jmp i v else i + 1) t = some S9 := hrun
            rw [show (((b1 :: t).length : Nat) : Int) = (m : Int) + 1 by simp only [List.length_cons]; omega]
            by_cases hb0 : b1 = 0
            · rw [if_pos hb0] at hrun
              refine q_iload dX4_worth_68 rfl ?_
              refine q_iload dX4_worth_70 rfl ?_
              refine z_icmp_ge (tgt := 292) dX4_worth_72 (by decide) (by unfold inR at *; omega) (by unfold inR at *; omega) (fun c_1 => ?_) (fun c_1 => ?_)
              · exfalso
                omega
              · refine q_aload_n dX4_worth_75 rfl rfl ?_
                refine sg4 (kf := 0) (v := .ref (x + 1)) dX4_worth_76 flX4_9 hx (by decide) rfl ?_
                refine q_iload dX4_worth_79 rfl ?_
                refine s_iald (n := 300) (x := (op : Int) + 64 * (v : Int)) dX4_worth_81 (kd_tx hx).1 (by omega) (by omega) (by decide) (by rw [st_o2 _ _ _ _ _ _ (by omega), sRw_ne _ _ (by omega)]; exact hCi) ?_
                refine z_bipush dX4_worth_82 (by decide +kernel) ?_
                refine z_irem dX4_worth_84 (by unfold inR at *; omega) (by unfold inR at *; omega) (by decide) ?_
                refine z_top (y := (op : Int)) (by rw [Int.tmod_eq_emod_of_nonneg (by omega)]; omega) ?_
                refine q_istore dX4_worth_85 (by decide) ?_
                show sE g_tt _ _ _ 87 [some (.ref x), some (.int (iZ b)), some (.ref s), some (.int (iZ (h : Int))), some (.int (iZ fr)), some (.int (iZ (w : Int))), some (.int (iZ ((m : Int) + 1))), some (.int (iZ (i : Int))), some (.int (iZ (op : Int))), l9, l10, l11, l12, l13, none] [] (st (sRw σ (x + 5) R) s K H E N f)
                refine q_aload_n dX4_worth_87 rfl rfl ?_
                refine sg4 (kf := 0) (v := .ref (x + 1)) dX4_worth_88 flX4_9 hx (by decide) rfl ?_
                refine q_iload dX4_worth_91 rfl ?_
                refine s_iald (n := 300) (x := (op : Int) + 64 * (v : Int)) dX4_worth_93 (kd_tx hx).1 (by omega) (by omega) (by decide) (by rw [st_o2 _ _ _ _ _ _ (by omega), sRw_ne _ _ (by omega)]; exact hCi) ?_
                refine z_bipush dX4_worth_94 (by decide +kernel) ?_
                refine z_idiv dX4_worth_96 (by unfold inR at *; omega) (by unfold inR at *; omega) (by decide) ?_
                refine z_top (y := (v : Int)) (by rw [Int.tdiv_eq_ediv_of_nonneg (by omega)]; omega) ?_
                refine q_istore dX4_worth_97 (by decide) ?_
                show sE g_tt _ _ _ 99 [some (.ref x), some (.int (iZ b)), some (.ref s), some (.int (iZ (h : Int))), some (.int (iZ fr)), some (.int (iZ (w : Int))), some (.int (iZ ((m : Int) + 1))), some (.int (iZ (i : Int))), some (.int (iZ (op : Int))), some (.int (iZ (v : Int))), l10, l11, l12, l13, none] [] (st (sRw σ (x + 5) R) s K H E N f)
                refine q_iload dX4_worth_99 rfl ?_
                refine s_callS (As := [.int (iZ (op : Int))]) (S := []) dX4_worth_101 okX4_operands mlX4_61 rfl (by omega) rfl (Nat.le_of_ble_eq_true rfl) (c_operands (d := d - 1) (op := op) ho (st (sRw σ (x + 5) R) s K H E N f)) (fun v_ σ_ hq => ?_)
                obtain ⟨rfl, e9⟩ := hq
                have e9 := e9.symm
                subst e9
                refine z_top (y := 1) (by rw [htk]; rfl) ?_
                show sE g_tt _ _ _ 104 [some (.ref x), some (.int (iZ b)), some (.ref s), some (.int (iZ (h : Int))), some (.int (iZ fr)), some (.int (iZ (w : Int))), some (.int (iZ ((m : Int) + 1))), some (.int (iZ (i : Int))), some (.int (iZ (op : Int))), some (.int (iZ (v : Int))), l10, l11, l12, l13, none] [.int (iZ 1)] (st (sRw σ (x + 5) R) s K H E N f)
                refine q_istore dX4_worth_104 (by decide) ?_
                show sE g_tt _ _ _ 106 [some (.ref x), some (.int (iZ b)), some (.ref s), some (.int (iZ (h : Int))), some (.int (iZ fr)), some (.int (iZ (w : Int))), some (.int (iZ ((m : Int) + 1))), some (.int (iZ (i : Int))), some (.int (iZ (op : Int))), some (.int (iZ (v : Int))), some (.int (iZ 1)), l11, l12, l13, none] [] (st (sRw σ (x + 5) R) s K H E N f)
                refine q_iload dX4_worth_106 rfl ?_
                refine q_iload dX4_worth_108 rfl ?_
                refine z_icmp_lt (tgt := 123) dX4_worth_110 (by decide) (by unfold inR at *; omega) (by unfold inR at *; omega) (fun c_2 => ?_) (fun c_2 => ?_)
                · exfalso
                  omega
                · refine q_iload dX4_worth_113 rfl ?_
                  refine q_iload dX4_worth_115 rfl ?_
                  refine z_isub dX4_worth_117 ?_
                  refine z_bipush dX4_worth_118 (by decide +kernel) ?_
                  refine z_icmp_lt (tgt := 125) dX4_worth_120 (by decide) (by unfold inR at *; omega) (by unfold inR at *; omega) (fun c_3 => ?_) (fun c_3 => ?_)
                  · refine q_iload dX4_worth_125 rfl ?_
                    refine z_if_le (tgt := 142) dX4_worth_127 (by decide) (by unfold inR at *; omega) (fun c_4 => ?_) (fun c_4 => ?_)
                    · exfalso
                      revert c_4
                      decide
                    · refine q_aload_n dX4_worth_130 rfl rfl ?_
                      refine sg4 (kf := 11) (v := .ref (x + 5)) dX4_worth_131 flX4_47 hx (by decide) rfl ?_
                      refine q_iload dX4_worth_134 rfl ?_
                      refine z_iconst dX4_worth_136 ?_
                      refine z_isub dX4_worth_137 ?_
                      refine s_iald (n := 64) (x := b1) dX4_worth_138 (kd_tx hx).2.1 (by omega) (by omega) (by decide) (by rw [st_o2 _ _ _ _ _ _ (by omega), sRw_at, show (((m : Int) + 1) - 1 : Int).toNat = m by omega]; exact hb1e) ?_
                      refine q_goto (tgt := 143) dX4_worth_139 (by decide) ?_
                      refine q_istore dX4_worth_143 (by decide) ?_
                      show sE g_tt _ _ _ 145 [some (.ref x), some (.int (iZ b)), some (.ref s), some (.int (iZ (h : Int))), some (.int (iZ fr)), some (.int (iZ (w : Int))), some (.int (iZ ((m : Int) + 1))), some (.int (iZ (i : Int))), some (.int (iZ (op : Int))), some (.int (iZ (v : Int))), some (.int (iZ 1)), some (.int (iZ b1)), l12, l13, none] [] (st (sRw σ (x + 5) R) s K H E N f)
                      refine q_iload dX4_worth_145 rfl ?_
                      refine z_iconst dX4_worth_147 ?_
                      refine z_icmp_le (tgt := 163) dX4_worth_148 (by decide) (by unfold inR at *; omega) (by unfold inR at *; omega) (fun c_5 => ?_) (fun c_5 => ?_)
                      · refine z_iconst dX4_worth_163 ?_
                        refine q_istore dX4_worth_164 (by decide) ?_
                        show sE g_tt _ _ _ 166 [some (.ref x), some (.int (iZ b)), some (.ref s), some (.int (iZ (h : Int))), some (.int (iZ fr)), some (.int (iZ (w : Int))), some (.int (iZ ((m : Int) + 1))), some (.int (iZ (i : Int))), some (.int (iZ (op : Int))), some (.int (iZ (v : Int))), some (.int (iZ 1)), some (.int (iZ b1)), some (.int (iZ 0)), l13, none] [] (st (sRw σ (x + 5) R) s K H E N f)
                        refine q_iload dX4_worth_166 rfl ?_
                        refine q_iload dX4_worth_168 rfl ?_
                        refine z_isub dX4_worth_170 ?_
                        refine q_istore dX4_worth_171 (by decide) ?_
                        show sE g_tt _ _ _ 173 [some (.ref x), some (.int (iZ b)), some (.ref s), some (.int (iZ (h : Int))), some (.int (iZ fr)), some (.int (iZ (w : Int))), some (.int (iZ (((m : Int) + 1) - 1))), some (.int (iZ (i : Int))), some (.int (iZ (op : Int))), some (.int (iZ (v : Int))), some (.int (iZ 1)), some (.int (iZ b1)), some (.int (iZ 0)), l13, none] [] (st (sRw σ (x + 5) R) s K H E N f)
                        refine q_iload dX4_worth_173 rfl ?_
                        refine z_bipush dX4_worth_175 (by decide +kernel) ?_
                        refine z_icmp_eq (tgt := 187) dX4_worth_177 (by decide) (by unfold inR at *; omega) (by unfold inR at *; omega) (fun c_6 => ?_) (fun c_6 => ?_)
                        · refine q_iload dX4_worth_187 rfl ?_
                          refine z_bipush dX4_worth_189 (by decide +kernel) ?_
                          refine z_icmp_eq (tgt := 199) dX4_worth_191 (by decide) (by unfold inR at *; omega) (by unfold inR at *; omega) (fun c_7 => ?_) (fun c_7 => ?_)
                          · exfalso
                            omega
                          · refine q_iload dX4_worth_194 rfl ?_
                            refine z_if_ne (tgt := 286) dX4_worth_196 (by decide) (by unfold inR at *; omega) (fun c_8 => ?_) (fun c_8 => ?_)
                            · exfalso
                              omega
                            · refine q_iload dX4_worth_199 rfl ?_
                              refine q_iload dX4_worth_201 rfl ?_
                              refine z_iconst dX4_worth_203 ?_
                              refine z_isub dX4_worth_204 ?_
                              refine z_mmax dX4_worth_205 mlX4_65 (by omega) (Nat.le_of_ble_eq_true rfl) (by unfold inR at *; omega) (by unfold inR at *; omega) ?_
                              refine q_istore dX4_worth_208 (by decide) ?_
                              show sE g_tt _ _ _ 210 [some (.ref x), some (.int (iZ b)), some (.ref s), some (.int (iZ (h : Int))), some (.int (iZ fr)), some (.int (iZ (w : Int))), some (.int (iZ (((m : Int) + 1) - 1))), some (.int (iZ (max (i : Int) ((v : Int) - 1)))), some (.int (iZ (op : Int))), some (.int (iZ (v : Int))), some (.int (iZ 1)), some (.int (iZ b1)), some (.int (iZ 0)), l13, none] [] (st (sRw σ (x + 5) R) s K H E N f)
                              refine q_goto (tgt := 286) dX4_worth_210 (by decide) ?_
                              refine z_iinc dX4_worth_286 rfl (by decide) ?_
                              show sE g_tt _ _ _ 289 [some (.ref x), some (.int (iZ b)), some (.ref s), some (.int (iZ (h : Int))), some (.int (iZ fr)), some (.int (iZ (w : Int))), some (.int (iZ (((m : Int) + 1) - 1))), some (.int (iZ (max (i : Int) ((v : Int) - 1) + 1))), some (.int (iZ (op : Int))), some (.int (iZ (v : Int))), some (.int (iZ 1)), some (.int (iZ b1)), some (.int (iZ 0)), l13, none] [] (st (sRw σ (x + 5) R) s K H E N f)
                              refine q_goto (tgt := 68) dX4_worth_289 (by decide) ?_
                              rw [show max (i : Int) ((v : Int) - 1) + 1 = ((jmp i v : Nat) : Int) by unfold jmp; split <;> omega, show ((m : Int) + 1) - 1 = ((t.length : Nat) : Int) by omega]
                              exact ih (jmp i v) t R _ _ _ _ _ _ hrun (by omega) (fun z hz => hmil z (List.mem_cons_of_mem _ hz)) hst.2 (by unfold jmp; split <;> omega)
                        · refine q_iload dX4_worth_180 rfl ?_
                          refine z_bipush dX4_worth_182 (by decide +kernel) ?_
                          refine z_icmp_ne (tgt := 213) dX4_worth_184 (by decide) (by unfold inR at *; omega) (by unfold inR at *; omega) (fun c_9 => ?_) (fun c_9 => ?_)
                          · exfalso
                            omega
                          · refine q_iload dX4_worth_187 rfl ?_
                            refine z_bipush dX4_worth_189 (by decide +kernel) ?_
                            refine z_icmp_eq (tgt := 199) dX4_worth_191 (by decide) (by unfold inR at *; omega) (by unfold inR at *; omega) (fun c_10 => ?_) (fun c_10 => ?_)
                            · exfalso
                              omega
                            · refine q_iload dX4_worth_194 rfl ?_
                              refine z_if_ne (tgt := 286) dX4_worth_196 (by decide) (by unfold inR at *; omega) (fun c_11 => ?_) (fun c_11 => ?_)
                              · exfalso
                                omega
                              · refine q_iload dX4_worth_199 rfl ?_
                                refine q_iload dX4_worth_201 rfl ?_
                                refine z_iconst dX4_worth_203 ?_
                                refine z_isub dX4_worth_204 ?_
                                refine z_mmax dX4_worth_205 mlX4_65 (by omega) (Nat.le_of_ble_eq_true rfl) (by unfold inR at *; omega) (by unfold inR at *; omega) ?_
                                refine q_istore dX4_worth_208 (by decide) ?_
                                show sE g_tt _ _ _ 210 [some (.ref x), some (.int (iZ b)), some (.ref s), some (.int (iZ (h : Int))), some (.int (iZ fr)), some (.int (iZ (w : Int))), some (.int (iZ (((m : Int) + 1) - 1))), some (.int (iZ (max (i : Int) ((v : Int) - 1)))), some (.int (iZ (op : Int))), some (.int (iZ (v : Int))), some (.int (iZ 1)), some (.int (iZ b1)), some (.int (iZ 0)), l13, none] [] (st (sRw σ (x + 5) R) s K H E N f)
                                refine q_goto (tgt := 286) dX4_worth_210 (by decide) ?_
                                refine z_iinc dX4_worth_286 rfl (by decide) ?_
                                show sE g_tt _ _ _ 289 [some (.ref x), some (.int (iZ b)), some (.ref s), some (.int (iZ (h : Int))), some (.int (iZ fr)), some (.int (iZ (w : Int))), some (.int (iZ (((m : Int) + 1) - 1))), some (.int (iZ (max (i : Int) ((v : Int) - 1) + 1))), some (.int (iZ (op : Int))), some (.int (iZ (v : Int))), some (.int (iZ 1)), some (.int (iZ b1)), some (.int (iZ 0)), l13, none] [] (st (sRw σ (x + 5) R) s K H E N f)
                                refine q_goto (tgt := 68) dX4_worth_289 (by decide) ?_
                                rw [show max (i : Int) ((v : Int) - 1) + 1 = ((jmp i v : Nat) : Int) by unfold jmp; split <;> omega, show ((m : Int) + 1) - 1 = ((t.length : Nat) : Int) by omega]
                                exact ih (jmp i v) t R _ _ _ _ _ _ hrun (by omega) (fun z hz => hmil z (List.mem_cons_of_mem _ hz)) hst.2 (by unfold jmp; split <;> omega)
                      · exfalso
                        revert c_5
                        decide
                  · exfalso
                    omega
            · rw [if_neg hb0] at hrun
              refine q_iload dX4_worth_68 rfl ?_
              refine q_iload dX4_worth_70 rfl ?_
              refine z_icmp_ge (tgt := 292) dX4_worth_72 (by decide) (by unfold inR at *; omega) (by unfold inR at *; omega) (fun c_1 => ?_) (fun c_1 => ?_)
              · exfalso
                omega
              · refine q_aload_n dX4_worth_75 rfl rfl ?_
                refine sg4 (kf := 0) (v := .ref (x + 1)) dX4_worth_76 flX4_9 hx (by decide) rfl ?_
                refine q_iload dX4_worth_79 rfl ?_
                refine s_iald (n := 300) (x := (op : Int) + 64 * (v : Int)) dX4_worth_81 (kd_tx hx).1 (by omega) (by omega) (by decide) (by rw [st_o2 _ _ _ _ _ _ (by omega), sRw_ne _ _ (by omega)]; exact hCi) ?_
                refine z_bipush dX4_worth_82 (by decide +kernel) ?_
                refine z_irem dX4_worth_84 (by unfold inR at *; omega) (by unfold inR at *; omega) (by decide) ?_
                refine z_top (y := (op : Int)) (by rw [Int.tmod_eq_emod_of_nonneg (by omega)]; omega) ?_
                refine q_istore dX4_worth_85 (by decide) ?_
                show sE g_tt _ _ _ 87 [some (.ref x), some (.int (iZ b)), some (.ref s), some (.int (iZ (h : Int))), some (.int (iZ fr)), some (.int (iZ (w : Int))), some (.int (iZ ((m : Int) + 1))), some (.int (iZ (i : Int))), some (.int (iZ (op : Int))), l9, l10, l11, l12, l13, none] [] (st (sRw σ (x + 5) R) s K H E N f)
                refine q_aload_n dX4_worth_87 rfl rfl ?_
                refine sg4 (kf := 0) (v := .ref (x + 1)) dX4_worth_88 flX4_9 hx (by decide) rfl ?_
                refine q_iload dX4_worth_91 rfl ?_
                refine s_iald (n := 300) (x := (op : Int) + 64 * (v : Int)) dX4_worth_93 (kd_tx hx).1 (by omega) (by omega) (by decide) (by rw [st_o2 _ _ _ _ _ _ (by omega), sRw_ne _ _ (by omega)]; exact hCi) ?_
                refine z_bipush dX4_worth_94 (by decide +kernel) ?_
                refine z_idiv dX4_worth_96 (by unfold inR at *; omega) (by unfold inR at *; omega) (by decide) ?_
                refine z_top (y := (v : Int)) (by rw [Int.tdiv_eq_ediv_of_nonneg (by omega)]; omega) ?_
                refine q_istore dX4_worth_97 (by decide) ?_
                show sE g_tt _ _ _ 99 [some (.ref x), some (.int (iZ b)), some (.ref s), some (.int (iZ (h : Int))), some (.int (iZ fr)), some (.int (iZ (w : Int))), some (.int (iZ ((m : Int) + 1))), some (.int (iZ (i : Int))), some (.int (iZ (op : Int))), some (.int (iZ (v : Int))), l10, l11, l12, l13, none] [] (st (sRw σ (x + 5) R) s K H E N f)
                refine q_iload dX4_worth_99 rfl ?_
                refine s_callS (As := [.int (iZ (op : Int))]) (S := []) dX4_worth_101 okX4_operands mlX4_61 rfl (by omega) rfl (Nat.le_of_ble_eq_true rfl) (c_operands (d := d - 1) (op := op) ho (st (sRw σ (x + 5) R) s K H E N f)) (fun v_ σ_ hq => ?_)
                obtain ⟨rfl, e9⟩ := hq
                have e9 := e9.symm
                subst e9
                refine z_top (y := 1) (by rw [htk]; rfl) ?_
                show sE g_tt _ _ _ 104 [some (.ref x), some (.int (iZ b)), some (.ref s), some (.int (iZ (h : Int))), some (.int (iZ fr)), some (.int (iZ (w : Int))), some (.int (iZ ((m : Int) + 1))), some (.int (iZ (i : Int))), some (.int (iZ (op : Int))), some (.int (iZ (v : Int))), l10, l11, l12, l13, none] [.int (iZ 1)] (st (sRw σ (x + 5) R) s K H E N f)
                refine q_istore dX4_worth_104 (by decide) ?_
                show sE g_tt _ _ _ 106 [some (.ref x), some (.int (iZ b)), some (.ref s), some (.int (iZ (h : Int))), some (.int (iZ fr)), some (.int (iZ (w : Int))), some (.int (iZ ((m : Int) + 1))), some (.int (iZ (i : Int))), some (.int (iZ (op : Int))), some (.int (iZ (v : Int))), some (.int (iZ 1)), l11, l12, l13, none] [] (st (sRw σ (x + 5) R) s K H E N f)
                refine q_iload dX4_worth_106 rfl ?_
                refine q_iload dX4_worth_108 rfl ?_
                refine z_icmp_lt (tgt := 123) dX4_worth_110 (by decide) (by unfold inR at *; omega) (by unfold inR at *; omega) (fun c_2 => ?_) (fun c_2 => ?_)
                · exfalso
                  omega
                · refine q_iload dX4_worth_113 rfl ?_
                  refine q_iload dX4_worth_115 rfl ?_
                  refine z_isub dX4_worth_117 ?_
                  refine z_bipush dX4_worth_118 (by decide +kernel) ?_
                  refine z_icmp_lt (tgt := 125) dX4_worth_120 (by decide) (by unfold inR at *; omega) (by unfold inR at *; omega) (fun c_3 => ?_) (fun c_3 => ?_)
                  · refine q_iload dX4_worth_125 rfl ?_
                    refine z_if_le (tgt := 142) dX4_worth_127 (by decide) (by unfold inR at *; omega) (fun c_4 => ?_) (fun c_4 => ?_)
                    · exfalso
                      revert c_4
                      decide
                    · refine q_aload_n dX4_worth_130 rfl rfl ?_
                      refine sg4 (kf := 11) (v := .ref (x + 5)) dX4_worth_131 flX4_47 hx (by decide) rfl ?_
                      refine q_iload dX4_worth_134 rfl ?_
                      refine z_iconst dX4_worth_136 ?_
                      refine z_isub dX4_worth_137 ?_
                      refine s_iald (n := 64) (x := b1) dX4_worth_138 (kd_tx hx).2.1 (by omega) (by omega) (by decide) (by rw [st_o2 _ _ _ _ _ _ (by omega), sRw_at, show (((m : Int) + 1) - 1 : Int).toNat = m by omega]; exact hb1e) ?_
                      refine q_goto (tgt := 143) dX4_worth_139 (by decide) ?_
                      refine q_istore dX4_worth_143 (by decide) ?_
                      show sE g_tt _ _ _ 145 [some (.ref x), some (.int (iZ b)), some (.ref s), some (.int (iZ (h : Int))), some (.int (iZ fr)), some (.int (iZ (w : Int))), some (.int (iZ ((m : Int) + 1))), some (.int (iZ (i : Int))), some (.int (iZ (op : Int))), some (.int (iZ (v : Int))), some (.int (iZ 1)), some (.int (iZ b1)), l12, l13, none] [] (st (sRw σ (x + 5) R) s K H E N f)
                      refine q_iload dX4_worth_145 rfl ?_
                      refine z_iconst dX4_worth_147 ?_
                      refine z_icmp_le (tgt := 163) dX4_worth_148 (by decide) (by unfold inR at *; omega) (by unfold inR at *; omega) (fun c_5 => ?_) (fun c_5 => ?_)
                      · refine z_iconst dX4_worth_163 ?_
                        refine q_istore dX4_worth_164 (by decide) ?_
                        show sE g_tt _ _ _ 166 [some (.ref x), some (.int (iZ b)), some (.ref s), some (.int (iZ (h : Int))), some (.int (iZ fr)), some (.int (iZ (w : Int))), some (.int (iZ ((m : Int) + 1))), some (.int (iZ (i : Int))), some (.int (iZ (op : Int))), some (.int (iZ (v : Int))), some (.int (iZ 1)), some (.int (iZ b1)), some (.int (iZ 0)), l13, none] [] (st (sRw σ (x + 5) R) s K H E N f)
                        refine q_iload dX4_worth_166 rfl ?_
                        refine q_iload dX4_worth_168 rfl ?_
                        refine z_isub dX4_worth_170 ?_
                        refine q_istore dX4_worth_171 (by decide) ?_
                        show sE g_tt _ _ _ 173 [some (.ref x), some (.int (iZ b)), some (.ref s), some (.int (iZ (h : Int))), some (.int (iZ fr)), some (.int (iZ (w : Int))), some (.int (iZ (((m : Int) + 1) - 1))), some (.int (iZ (i : Int))), some (.int (iZ (op : Int))), some (.int (iZ (v : Int))), some (.int (iZ 1)), some (.int (iZ b1)), some (.int (iZ 0)), l13, none] [] (st (sRw σ (x + 5) R) s K H E N f)
                        refine q_iload dX4_worth_173 rfl ?_
                        refine z_bipush dX4_worth_175 (by decide +kernel) ?_
                        refine z_icmp_eq (tgt := 187) dX4_worth_177 (by decide) (by unfold inR at *; omega) (by unfold inR at *; omega) (fun c_6 => ?_) (fun c_6 => ?_)
                        · refine q_iload dX4_worth_187 rfl ?_
                          refine z_bipush dX4_worth_189 (by decide +kernel) ?_
                          refine z_icmp_eq (tgt := 199) dX4_worth_191 (by decide) (by unfold inR at *; omega) (by unfold inR at *; omega) (fun c_7 => ?_) (fun c_7 => ?_)
                          · exfalso
                            omega
                          · refine q_iload dX4_worth_194 rfl ?_
                            refine z_if_ne (tgt := 286) dX4_worth_196 (by decide) (by unfold inR at *; omega) (fun c_8 => ?_) (fun c_8 => ?_)
                            · refine z_iinc dX4_worth_286 rfl (by decide) ?_
                              show sE g_tt _ _ _ 289 [some (.ref x), some (.int (iZ b)), some (.ref s), some (.int (iZ (h : Int))), some (.int (iZ fr)), some (.int (iZ (w : Int))), some (.int (iZ (((m : Int) + 1) - 1))), some (.int (iZ ((i : Int) + 1))), some (.int (iZ (op : Int))), some (.int (iZ (v : Int))), some (.int (iZ 1)), some (.int (iZ b1)), some (.int (iZ 0)), l13, none] [] (st (sRw σ (x + 5) R) s K H E N f)
                              refine q_goto (tgt := 68) dX4_worth_289 (by decide) ?_
                              rw [show (i : Int) + 1 = ((i + 1 : Nat) : Int) by omega, show ((m : Int) + 1) - 1 = ((t.length : Nat) : Int) by omega]
                              exact ih (i + 1) t R _ _ _ _ _ _ hrun (by omega) (fun z hz => hmil z (List.mem_cons_of_mem _ hz)) hst.2 (by omega)
                            · exfalso
                              omega
                        · refine q_iload dX4_worth_180 rfl ?_
                          refine z_bipush dX4_worth_182 (by decide +kernel) ?_
                          refine z_icmp_ne (tgt := 213) dX4_worth_184 (by decide) (by unfold inR at *; omega) (by unfold inR at *; omega) (fun c_9 => ?_) (fun c_9 => ?_)
                          · exfalso
                            omega
                          · refine q_iload dX4_worth_187 rfl ?_
                            refine z_bipush dX4_worth_189 (by decide +kernel) ?_
                            refine z_icmp_eq (tgt := 199) dX4_worth_191 (by decide) (by unfold inR at *; omega) (by unfold inR at *; omega) (fun c_10 => ?_) (fun c_10 => ?_)
                            · exfalso
                              omega
                            · refine q_iload dX4_worth_194 rfl ?_
                              refine z_if_ne (tgt := 286) dX4_worth_196 (by decide) (by unfold inR at *; omega) (fun c_11 => ?_) (fun c_11 => ?_)
                              · refine z_iinc dX4_worth_286 rfl (by decide) ?_
                                show sE g_tt _ _ _ 289 [some (.ref x), some (.int (iZ b)), some (.ref s), some (.int (iZ (h : Int))), some (.int (iZ fr)), some (.int (iZ (w : Int))), some (.int (iZ (((m : Int) + 1) - 1))), some (.int (iZ ((i : Int) + 1))), some (.int (iZ (op : Int))), some (.int (iZ (v : Int))), some (.int (iZ 1)), some (.int (iZ b1)), some (.int (iZ 0)), l13, none] [] (st (sRw σ (x + 5) R) s K H E N f)
                                refine q_goto (tgt := 68) dX4_worth_289 (by decide) ?_
                                rw [show (i : Int) + 1 = ((i + 1 : Nat) : Int) by omega, show ((m : Int) + 1) - 1 = ((t.length : Nat) : Int) by omega]
                                exact ih (i + 1) t R _ _ _ _ _ _ hrun (by omega) (fun z hz => hmil z (List.mem_cons_of_mem _ hz)) hst.2 (by omega)
                              · exfalso
                                omega
                      · exfalso
                        revert c_5
                        decide
                  · exfalso
                    omega
        · rw [if_neg h12] at hrun
          by_cases hk0 : cTk op = 0
          · rw [if_pos hk0] at hrun
            have htk := hk0
            by_cases h64 : 64 ≤ S.length
            · rw [if_pos h64] at hrun; cases hrun
            rw [if_neg h64] at hrun
            obtain ⟨m, hm⟩ : ∃ m, S.length = m := ⟨_, rfl⟩
            rw [hm]
            refine q_iload dX4_worth_68 rfl ?_
            refine q_iload dX4_worth_70 rfl ?_
            refine z_icmp_ge (tgt := 292) dX4_worth_72 (by decide) (by unfold inR at *; omega) (by unfold inR at *; omega) (fun c_1 => ?_) (fun c_1 => ?_)
            · exfalso
              omega
            · refine q_aload_n dX4_worth_75 rfl rfl ?_
              refine sg4 (kf := 0) (v := .ref (x + 1)) dX4_worth_76 flX4_9 hx (by decide) rfl ?_
              refine q_iload dX4_worth_79 rfl ?_
              refine s_iald (n := 300) (x := (op : Int) + 64 * (v : Int)) dX4_worth_81 (kd_tx hx).1 (by omega) (by omega) (by decide) (by rw [st_o2 _ _ _ _ _ _ (by omega), sRw_ne _ _ (by omega)]; exact hCi) ?_
              refine z_bipush dX4_worth_82 (by decide +kernel) ?_
              refine z_irem dX4_worth_84 (by unfold inR at *; omega) (by unfold inR at *; omega) (by decide) ?_
              refine z_top (y := (op : Int)) (by rw [Int.tmod_eq_emod_of_nonneg (by omega)]; omega) ?_
              refine q_istore dX4_worth_85 (by decide) ?_
              show sE g_tt _ _ _ 87 [some (.ref x), some (.int (iZ b)), some (.ref s), some (.int (iZ (h : Int))), some (.int (iZ fr)), some (.int (iZ (w : Int))), some (.int (iZ (m : Int))), some (.int (iZ (i : Int))), some (.int (iZ (op : Int))), l9, l10, l11, l12, l13, none] [] (st (sRw σ (x + 5) R) s K H E N f)
              refine q_aload_n dX4_worth_87 rfl rfl ?_
              refine sg4 (kf := 0) (v := .ref (x + 1)) dX4_worth_88 flX4_9 hx (by decide) rfl ?_
              refine q_iload dX4_worth_91 rfl ?_
              refine s_iald (n := 300) (x := (op : Int) + 64 * (v : Int)) dX4_worth_93 (kd_tx hx).1 (by omega) (by omega) (by decide) (by rw [st_o2 _ _ _ _ _ _ (by omega), sRw_ne _ _ (by omega)]; exact hCi) ?_
              refine z_bipush dX4_worth_94 (by decide +kernel) ?_
              refine z_idiv dX4_worth_96 (by unfold inR at *; omega) (by unfold inR at *; omega) (by decide) ?_
              refine z_top (y := (v : Int)) (by rw [Int.tdiv_eq_ediv_of_nonneg (by omega)]; omega) ?_
              refine q_istore dX4_worth_97 (by decide) ?_
              show sE g_tt _ _ _ 99 [some (.ref x), some (.int (iZ b)), some (.ref s), some (.int (iZ (h : Int))), some (.int (iZ fr)), some (.int (iZ (w : Int))), some (.int (iZ (m : Int))), some (.int (iZ (i : Int))), some (.int (iZ (op : Int))), some (.int (iZ (v : Int))), l10, l11, l12, l13, none] [] (st (sRw σ (x + 5) R) s K H E N f)
              refine q_iload dX4_worth_99 rfl ?_
              refine s_callS (As := [.int (iZ (op : Int))]) (S := []) dX4_worth_101 okX4_operands mlX4_61 rfl (by omega) rfl (Nat.le_of_ble_eq_true rfl) (c_operands (d := d - 1) (op := op) ho (st (sRw σ (x + 5) R) s K H E N f)) (fun v_ σ_ hq => ?_)
              obtain ⟨rfl, e9⟩ := hq
              have e9 := e9.symm
              subst e9
              refine z_top (y := 0) (by rw [htk]; rfl) ?_
              show sE g_tt _ _ _ 104 [some (.ref x), some (.int (iZ b)), some (.ref s), some (.int (iZ (h : Int))), some (.int (iZ fr)), some (.int (iZ (w : Int))), some (.int (iZ (m : Int))), some (.int (iZ (i : Int))), some (.int (iZ (op : Int))), some (.int (iZ (v : Int))), l10, l11, l12, l13, none] [.int (iZ 0)] (st (sRw σ (x + 5) R) s K H E N f)
              refine q_istore dX4_worth_104 (by decide) ?_
              show sE g_tt _ _ _ 106 [some (.ref x), some (.int (iZ b)), some (.ref s), some (.int (iZ (h : Int))), some (.int (iZ fr)), some (.int (iZ (w : Int))), some (.int (iZ (m : Int))), some (.int (iZ (i : Int))), some (.int (iZ (op : Int))), some (.int (iZ (v : Int))), some (.int (iZ 0)), l11, l12, l13, none] [] (st (sRw σ (x + 5) R) s K H E N f)
              refine q_iload dX4_worth_106 rfl ?_
              refine q_iload dX4_worth_108 rfl ?_
              refine z_icmp_lt (tgt := 123) dX4_worth_110 (by decide) (by unfold inR at *; omega) (by unfold inR at *; omega) (fun c_2 => ?_) (fun c_2 => ?_)
              · exfalso
                omega
              · refine q_iload dX4_worth_113 rfl ?_
                refine q_iload dX4_worth_115 rfl ?_
                refine z_isub dX4_worth_117 ?_
                refine z_bipush dX4_worth_118 (by decide +kernel) ?_
                refine z_icmp_lt (tgt := 125) dX4_worth_120 (by decide) (by unfold inR at *; omega) (by unfold inR at *; omega) (fun c_3 => ?_) (fun c_3 => ?_)
                · refine q_iload dX4_worth_125 rfl ?_
                  refine z_if_le (tgt := 142) dX4_worth_127 (by decide) (by unfold inR at *; omega) (fun c_4 => ?_) (fun c_4 => ?_)
                  · refine z_iconst dX4_worth_142 ?_
                    refine q_istore dX4_worth_143 (by decide) ?_
                    show sE g_tt _ _ _ 145 [some (.ref x), some (.int (iZ b)), some (.ref s), some (.int (iZ (h : Int))), some (.int (iZ fr)), some (.int (iZ (w : Int))), some (.int (iZ (m : Int))), some (.int (iZ (i : Int))), some (.int (iZ (op : Int))), some (.int (iZ (v : Int))), some (.int (iZ 0)), some (.int (iZ 0)), l12, l13, none] [] (st (sRw σ (x + 5) R) s K H E N f)
                    refine q_iload dX4_worth_145 rfl ?_
                    refine z_iconst dX4_worth_147 ?_
                    refine z_icmp_le (tgt := 163) dX4_worth_148 (by decide) (by unfold inR at *; omega) (by unfold inR at *; omega) (fun c_5 => ?_) (fun c_5 => ?_)
                    · refine z_iconst dX4_worth_163 ?_
                      refine q_istore dX4_worth_164 (by decide) ?_
                      show sE g_tt _ _ _ 166 [some (.ref x), some (.int (iZ b)), some (.ref s), some (.int (iZ (h : Int))), some (.int (iZ fr)), some (.int (iZ (w : Int))), some (.int (iZ (m : Int))), some (.int (iZ (i : Int))), some (.int (iZ (op : Int))), some (.int (iZ (v : Int))), some (.int (iZ 0)), some (.int (iZ 0)), some (.int (iZ 0)), l13, none] [] (st (sRw σ (x + 5) R) s K H E N f)
                      refine q_iload dX4_worth_166 rfl ?_
                      refine q_iload dX4_worth_168 rfl ?_
                      refine z_isub dX4_worth_170 ?_
                      refine q_istore dX4_worth_171 (by decide) ?_
                      show sE g_tt _ _ _ 173 [some (.ref x), some (.int (iZ b)), some (.ref s), some (.int (iZ (h : Int))), some (.int (iZ fr)), some (.int (iZ (w : Int))), some (.int (iZ ((m : Int) - 0))), some (.int (iZ (i : Int))), some (.int (iZ (op : Int))), some (.int (iZ (v : Int))), some (.int (iZ 0)), some (.int (iZ 0)), some (.int (iZ 0)), l13, none] [] (st (sRw σ (x + 5) R) s K H E N f)
                      refine q_iload dX4_worth_173 rfl ?_
                      refine z_bipush dX4_worth_175 (by decide +kernel) ?_
                      refine z_icmp_eq (tgt := 187) dX4_worth_177 (by decide) (by unfold inR at *; omega) (by unfold inR at *; omega) (fun c_6 => ?_) (fun c_6 => ?_)
                      · exfalso
                        omega
                      · refine q_iload dX4_worth_180 rfl ?_
                        refine z_bipush dX4_worth_182 (by decide +kernel) ?_
                        refine z_icmp_ne (tgt := 213) dX4_worth_184 (by decide) (by unfold inR at *; omega) (by unfold inR at *; omega) (fun c_7 => ?_) (fun c_7 => ?_)
                        · refine q_iload dX4_worth_213 rfl ?_
                          refine z_iconst dX4_worth_215 ?_
                          refine z_icmp_ne (tgt := 233) dX4_worth_216 (by decide) (by unfold inR at *; omega) (by unfold inR at *; omega) (fun c_8 => ?_) (fun c_8 => ?_)
                          · refine q_iload dX4_worth_233 rfl ?_
                            refine z_iconst dX4_worth_235 ?_
                            refine z_icmp_ne (tgt := 250) dX4_worth_236 (by decide) (by unfold inR at *; omega) (by unfold inR at *; omega) (fun c_9 => ?_) (fun c_9 => ?_)
                            · refine q_iload dX4_worth_250 rfl ?_
                              refine q_iload dX4_worth_252 rfl ?_
                              refine q_aload_n dX4_worth_254 rfl rfl ?_
                              refine q_iload_n dX4_worth_255 rfl rfl ?_
                              refine s_callS (As := [.int (iZ (op : Int)), .int (iZ (v : Int)), .ref s, .int (iZ (h : Int))]) (S := []) dX4_worth_256 okX4_named mlX4_76 rfl (by omega) rfl (Nat.le_of_ble_eq_true rfl) (c_named (d := d - 1) (h := h) (op := op) (v := v) (by omega) hh ho hv6 hs (sRw σ (x + 5) R) K H E N f g tr hc) (fun v_ σ_ hq => ?_)
                              obtain ⟨rfl, e9⟩ := hq
                              have e9 := e9.symm
                              subst e9
                              have rr := cNa_ran g hc hh op hv6
                              show sE g_tt _ _ _ 259 [some (.ref x), some (.int (iZ b)), some (.ref s), some (.int (iZ (h : Int))), some (.int (iZ fr)), some (.int (iZ (w : Int))), some (.int (iZ ((m : Int) - 0))), some (.int (iZ (i : Int))), some (.int (iZ (op : Int))), some (.int (iZ (v : Int))), some (.int (iZ 0)), some (.int (iZ 0)), some (.int (iZ 0)), l13, none] [.long (lZ (cNa A h op v))] (st (sRw σ (x + 5) R) s K H E N f)
                              refine q_lstore dX4_worth_259 (by decide) ?_
                              show sE g_tt _ _ _ 261 [some (.ref x), some (.int (iZ b)), some (.ref s), some (.int (iZ (h : Int))), some (.int (iZ fr)), some (.int (iZ (w : Int))), some (.int (iZ ((m : Int) - 0))), some (.int (iZ (i : Int))), some (.int (iZ (op : Int))), some (.int (iZ (v : Int))), some (.int (iZ 0)), some (.int (iZ 0)), some (.int (iZ 0)), some (.long (lZ (cNa A h op v))), none] [] (st (sRw σ (x + 5) R) s K H E N f)
                              refine q_aload_n dX4_worth_261 rfl rfl ?_
                              refine sg4 (kf := 11) (v := .ref (x + 5)) dX4_worth_262 flX4_47 hx (by decide) rfl ?_
                              refine q_iload dX4_worth_265 rfl ?_
                              refine z_ldc2 (z := -1000000) dX4_worth_267 (by rw [show lZ (-1000000) = (-1000000 : Int64) by decide +kernel]; exact klX4_80) ?_
                              refine z_ldc2 (z := 1000000) dX4_worth_270 klX4_82 ?_
                              refine q_lload dX4_worth_273 rfl ?_
                              refine z_mminl dX4_worth_275 mlX4_84 (by omega) (Nat.le_of_ble_eq_true rfl) (by unfold inL at *; omega) (by unfold inL at *; omega) ?_
                              refine z_mmaxl dX4_worth_278 mlX4_87 (by omega) (Nat.le_of_ble_eq_true rfl) (by unfold inL at *; omega) (by unfold inL at *; omega) ?_
                              refine z_l2i dX4_worth_281 ?_
                              refine z_top (y := mClip (cNa A h op v)) (mClip_mm _) ?_
                              refine s_iast (n := 64) dX4_worth_282 (kd_tx hx).2.1 (by omega) (by omega) (by decide) ?_
                              rw [st_oR _ _ _ _ _ _ (by omega), sR_sRw]
                              show sE g_tt _ _ _ 283 [some (.ref x), some (.int (iZ b)), some (.ref s), some (.int (iZ (h : Int))), some (.int (iZ fr)), some (.int (iZ (w : Int))), some (.int (iZ ((m : Int) - 0))), some (.int (iZ (i : Int))), some (.int (iZ (op : Int))), some (.int (iZ (v : Int))), some (.int (iZ 0)), some (.int (iZ 0)), some (.int (iZ 0)), some (.long (lZ (cNa A h op v))), none] [] (st (sRw σ (x + 5) (va_up R ((m : Int) - 0 : Int).toNat (mClip (cNa A h op v)))) s K H E N f)
                              refine z_iinc dX4_worth_283 rfl (by decide) ?_
                              show sE g_tt _ _ _ 286 [some (.ref x), some (.int (iZ b)), some (.ref s), some (.int (iZ (h : Int))), some (.int (iZ fr)), some (.int (iZ (w : Int))), some (.int (iZ ((m : Int) - 0 + 1))), some (.int (iZ (i : Int))), some (.int (iZ (op : Int))), some (.int (iZ (v : Int))), some (.int (iZ 0)), some (.int (iZ 0)), some (.int (iZ 0)), some (.long (lZ (cNa A h op v))), none] [] (st (sRw σ (x + 5) (va_up R ((m : Int) - 0 : Int).toNat (mClip (cNa A h op v)))) s K H E N f)
                              refine z_iinc dX4_worth_286 rfl (by decide) ?_
                              show sE g_tt _ _ _ 289 [some (.ref x), some (.int (iZ b)), some (.ref s), some (.int (iZ (h : Int))), some (.int (iZ fr)), some (.int (iZ (w : Int))), some (.int (iZ ((m : Int) - 0 + 1))), some (.int (iZ ((i : Int) + 1))), some (.int (iZ (op : Int))), some (.int (iZ (v : Int))), some (.int (iZ 0)), some (.int (iZ 0)), some (.int (iZ 0)), some (.long (lZ (cNa A h op v))), none] [] (st (sRw σ (x + 5) (va_up R ((m : Int) - 0 : Int).toNat (mClip (cNa A h op v)))) s K H E N f)
                              refine q_goto (tgt := 68) dX4_worth_289 (by decide) ?_
                              rw [show (m : Int) - 0 + 1 = ((((mClip (cNa A h op v)) :: S).length : Nat) : Int) by simp only [List.length_cons]; omega, show (i : Int) + 1 = ((i + 1 : Nat) : Int) by omega]
                              refine ih (i + 1) ((mClip (cNa A h op v)) :: S) (va_up R ((m : Int) - 0 : Int).toNat (mClip (cNa A h op v))) _ _ _ _ _ _ hrun (by simp only [List.length_cons]; omega) (fun z hz => ?_) ?_ (by omega)
                              · rcases List.mem_cons.mp hz with e | hz
                                · rw [e]; exact mClip_ran _
                                · exact hmil z hz
                              · rw [show ((m : Int) - 0 : Int).toNat = S.length by omega]; exact stk_push _ hst
                            · exfalso
                              revert c_9
                              decide
                          · exfalso
                            revert c_8
                            decide
                        · exfalso
                          omega
                    · exfalso
                      revert c_5
                      decide
                  · exfalso
                    revert c_4
                    decide
                · exfalso
                  omega
          · rw [if_neg hk0] at hrun
            by_cases hk1 : cTk op = 1
            · rw [if_pos hk1] at hrun
              have htk := hk1
              cases S with
              | nil => rw [if_pos (by simp)] at hrun; cases hrun
              | cons b1 t =>
                obtain ⟨m, hm⟩ : ∃ m, t.length = m := ⟨_, rfl⟩
                simp only [List.length_cons] at hSl
                have hb1e : R m = b1 := by rw [← hm]; exact hst.1
                have hmb : mil b1 := hmil b1 List.mem_cons_self
                have hmb1 := hmb.1
                have hmb2 := hmb.2
                rw [if_neg (by simp)] at hrun
                have hrun : cRun A h O V w n (i + 1) (mClip (cCh A op b1) :: t) = some S9 := hrun
                rw [show (((b1 :: t).length : Nat) : Int) = (m : Int) + 1 by simp only [List.length_cons]; omega]
                refine q_iload dX4_worth_68 rfl ?_
                refine q_iload dX4_worth_70 rfl ?_
                refine z_icmp_ge (tgt := 292) dX4_worth_72 (by decide) (by unfold inR at *; omega) (by unfold inR at *; omega) (fun c_1 => ?_) (fun c_1 => ?_)
                · exfalso
                  omega
                · refine q_aload_n dX4_worth_75 rfl rfl ?_
                  refine sg4 (kf := 0) (v := .ref (x + 1)) dX4_worth_76 flX4_9 hx (by decide) rfl ?_
                  refine q_iload dX4_worth_79 rfl ?_
                  refine s_iald (n := 300) (x := (op : Int) + 64 * (v : Int)) dX4_worth_81 (kd_tx hx).1 (by omega) (by omega) (by decide) (by rw [st_o2 _ _ _ _ _ _ (by omega), sRw_ne _ _ (by omega)]; exact hCi) ?_
                  refine z_bipush dX4_worth_82 (by decide +kernel) ?_
                  refine z_irem dX4_worth_84 (by unfold inR at *; omega) (by unfold inR at *; omega) (by decide) ?_
                  refine z_top (y := (op : Int)) (by rw [Int.tmod_eq_emod_of_nonneg (by omega)]; omega) ?_
                  refine q_istore dX4_worth_85 (by decide) ?_
                  show sE g_tt _ _ _ 87 [some (.ref x), some (.int (iZ b)), some (.ref s), some (.int (iZ (h : Int))), some (.int (iZ fr)), some (.int (iZ (w : Int))), some (.int (iZ ((m : Int) + 1))), some (.int (iZ (i : Int))), some (.int (iZ (op : Int))), l9, l10, l11, l12, l13, none] [] (st (sRw σ (x + 5) R) s K H E N f)
                  refine q_aload_n dX4_worth_87 rfl rfl ?_
                  refine sg4 (kf := 0) (v := .ref (x + 1)) dX4_worth_88 flX4_9 hx (by decide) rfl ?_
                  refine q_iload dX4_worth_91 rfl ?_
                  refine s_iald (n := 300) (x := (op : Int) + 64 * (v : Int)) dX4_worth_93 (kd_tx hx).1 (by omega) (by omega) (by decide) (by rw [st_o2 _ _ _ _ _ _ (by omega), sRw_ne _ _ (by omega)]; exact hCi) ?_
                  refine z_bipush dX4_worth_94 (by decide +kernel) ?_
                  refine z_idiv dX4_worth_96 (by unfold inR at *; omega) (by unfold inR at *; omega) (by decide) ?_
                  refine z_top (y := (v : Int)) (by rw [Int.tdiv_eq_ediv_of_nonneg (by omega)]; omega) ?_
                  refine q_istore dX4_worth_97 (by decide) ?_
                  show sE g_tt _ _ _ 99 [some (.ref x), some (.int (iZ b)), some (.ref s), some (.int (iZ (h : Int))), some (.int (iZ fr)), some (.int (iZ (w : Int))), some (.int (iZ ((m : Int) + 1))), some (.int (iZ (i : Int))), some (.int (iZ (op : Int))), some (.int (iZ (v : Int))), l10, l11, l12, l13, none] [] (st (sRw σ (x + 5) R) s K H E N f)
                  refine q_iload dX4_worth_99 rfl ?_
                  refine s_callS (As := [.int (iZ (op : Int))]) (S := []) dX4_worth_101 okX4_operands mlX4_61 rfl (by omega) rfl (Nat.le_of_ble_eq_true rfl) (c_operands (d := d - 1) (op := op) ho (st (sRw σ (x + 5) R) s K H E N f)) (fun v_ σ_ hq => ?_)
                  obtain ⟨rfl, e9⟩ := hq
                  have e9 := e9.symm
                  subst e9
                  refine z_top (y := 1) (by rw [htk]; rfl) ?_
                  show sE g_tt _ _ _ 104 [some (.ref x), some (.int (iZ b)), some (.ref s), some (.int (iZ (h : Int))), some (.int (iZ fr)), some (.int (iZ (w : Int))), some (.int (iZ ((m : Int) + 1))), some (.int (iZ (i : Int))), some (.int (iZ (op : Int))), some (.int (iZ (v : Int))), l10, l11, l12, l13, none] [.int (iZ 1)] (st (sRw σ (x + 5) R) s K H E N f)
                  refine q_istore dX4_worth_104 (by decide) ?_
                  show sE g_tt _ _ _ 106 [some (.ref x), some (.int (iZ b)), some (.ref s), some (.int (iZ (h : Int))), some (.int (iZ fr)), some (.int (iZ (w : Int))), some (.int (iZ ((m : Int) + 1))), some (.int (iZ (i : Int))), some (.int (iZ (op : Int))), some (.int (iZ (v : Int))), some (.int (iZ 1)), l11, l12, l13, none] [] (st (sRw σ (x + 5) R) s K H E N f)
                  refine q_iload dX4_worth_106 rfl ?_
                  refine q_iload dX4_worth_108 rfl ?_
                  refine z_icmp_lt (tgt := 123) dX4_worth_110 (by decide) (by unfold inR at *; omega) (by unfold inR at *; omega) (fun c_2 => ?_) (fun c_2 => ?_)
                  · exfalso
                    omega
                  · refine q_iload dX4_worth_113 rfl ?_
                    refine q_iload dX4_worth_115 rfl ?_
                    refine z_isub dX4_worth_117 ?_
                    refine z_bipush dX4_worth_118 (by decide +kernel) ?_
                    refine z_icmp_lt (tgt := 125) dX4_worth_120 (by decide) (by unfold inR at *; omega) (by unfold inR at *; omega) (fun c_3 => ?_) (fun c_3 => ?_)
                    · refine q_iload dX4_worth_125 rfl ?_
                      refine z_if_le (tgt := 142) dX4_worth_127 (by decide) (by unfold inR at *; omega) (fun c_4 => ?_) (fun c_4 => ?_)
                      · exfalso
                        revert c_4
                        decide
                      · refine q_aload_n dX4_worth_130 rfl rfl ?_
                        refine sg4 (kf := 11) (v := .ref (x + 5)) dX4_worth_131 flX4_47 hx (by decide) rfl ?_
                        refine q_iload dX4_worth_134 rfl ?_
                        refine z_iconst dX4_worth_136 ?_
                        refine z_isub dX4_worth_137 ?_
                        refine s_iald (n := 64) (x := b1) dX4_worth_138 (kd_tx hx).2.1 (by omega) (by omega) (by decide) (by rw [st_o2 _ _ _ _ _ _ (by omega), sRw_at, show (((m : Int) + 1) - 1 : Int).toNat = m by omega]; exact hb1e) ?_
                        refine q_goto (tgt := 143) dX4_worth_139 (by decide) ?_
                        refine q_istore dX4_worth_143 (by decide) ?_
                        show sE g_tt _ _ _ 145 [some (.ref x), some (.int (iZ b)), some (.ref s), some (.int (iZ (h : Int))), some (.int (iZ fr)), some (.int (iZ (w : Int))), some (.int (iZ ((m : Int) + 1))), some (.int (iZ (i : Int))), some (.int (iZ (op : Int))), some (.int (iZ (v : Int))), some (.int (iZ 1)), some (.int (iZ b1)), l12, l13, none] [] (st (sRw σ (x + 5) R) s K H E N f)
                        refine q_iload dX4_worth_145 rfl ?_
                        refine z_iconst dX4_worth_147 ?_
                        refine z_icmp_le (tgt := 163) dX4_worth_148 (by decide) (by unfold inR at *; omega) (by unfold inR at *; omega) (fun c_5 => ?_) (fun c_5 => ?_)
                        · refine z_iconst dX4_worth_163 ?_
                          refine q_istore dX4_worth_164 (by decide) ?_
                          show sE g_tt _ _ _ 166 [some (.ref x), some (.int (iZ b)), some (.ref s), some (.int (iZ (h : Int))), some (.int (iZ fr)), some (.int (iZ (w : Int))), some (.int (iZ ((m : Int) + 1))), some (.int (iZ (i : Int))), some (.int (iZ (op : Int))), some (.int (iZ (v : Int))), some (.int (iZ 1)), some (.int (iZ b1)), some (.int (iZ 0)), l13, none] [] (st (sRw σ (x + 5) R) s K H E N f)
                          refine q_iload dX4_worth_166 rfl ?_
                          refine q_iload dX4_worth_168 rfl ?_
                          refine z_isub dX4_worth_170 ?_
                          refine q_istore dX4_worth_171 (by decide) ?_
                          show sE g_tt _ _ _ 173 [some (.ref x), some (.int (iZ b)), some (.ref s), some (.int (iZ (h : Int))), some (.int (iZ fr)), some (.int (iZ (w : Int))), some (.int (iZ (((m : Int) + 1) - 1))), some (.int (iZ (i : Int))), some (.int (iZ (op : Int))), some (.int (iZ (v : Int))), some (.int (iZ 1)), some (.int (iZ b1)), some (.int (iZ 0)), l13, none] [] (st (sRw σ (x + 5) R) s K H E N f)
                          refine q_iload dX4_worth_173 rfl ?_
                          refine z_bipush dX4_worth_175 (by decide +kernel) ?_
                          refine z_icmp_eq (tgt := 187) dX4_worth_177 (by decide) (by unfold inR at *; omega) (by unfold inR at *; omega) (fun c_6 => ?_) (fun c_6 => ?_)
                          · exfalso
                            omega
                          · refine q_iload dX4_worth_180 rfl ?_
                            refine z_bipush dX4_worth_182 (by decide +kernel) ?_
                            refine z_icmp_ne (tgt := 213) dX4_worth_184 (by decide) (by unfold inR at *; omega) (by unfold inR at *; omega) (fun c_7 => ?_) (fun c_7 => ?_)
                            · refine q_iload dX4_worth_213 rfl ?_
                              refine z_iconst dX4_worth_215 ?_
                              refine z_icmp_ne (tgt := 233) dX4_worth_216 (by decide) (by unfold inR at *; omega) (by unfold inR at *; omega) (fun c_8 => ?_) (fun c_8 => ?_)
                              · refine q_iload dX4_worth_233 rfl ?_
                                refine z_iconst dX4_worth_235 ?_
                                refine z_icmp_ne (tgt := 250) dX4_worth_236 (by decide) (by unfold inR at *; omega) (by unfold inR at *; omega) (fun c_9 => ?_) (fun c_9 => ?_)
                                · exfalso
                                  revert c_9
                                  decide
                                · refine q_iload dX4_worth_239 rfl ?_
                                  refine q_iload dX4_worth_241 rfl ?_
                                  refine q_aload_n dX4_worth_243 rfl rfl ?_
                                  refine s_callS (As := [.int (iZ (op : Int)), .int (iZ b1), .ref s]) (S := []) dX4_worth_244 okX4_changed mlX4_72 rfl (by omega) rfl (Nat.le_of_ble_eq_true rfl) (c_changed (d := d - 1) (op := op) (by omega) ho (b := b1) hmb hs (sRw σ (x + 5) R) K H E N f g tr hc) (fun v_ σ_ hq => ?_)
                                  obtain ⟨rfl, e9⟩ := hq
                                  have e9 := e9.symm
                                  subst e9
                                  have rr := cCh_ran g hc op hmb
                                  show sE g_tt _ _ _ 247 [some (.ref x), some (.int (iZ b)), some (.ref s), some (.int (iZ (h : Int))), some (.int (iZ fr)), some (.int (iZ (w : Int))), some (.int (iZ (((m : Int) + 1) - 1))), some (.int (iZ (i : Int))), some (.int (iZ (op : Int))), some (.int (iZ (v : Int))), some (.int (iZ 1)), some (.int (iZ b1)), some (.int (iZ 0)), l13, none] [.long (lZ (cCh A op b1))] (st (sRw σ (x + 5) R) s K H E N f)
                                  refine q_goto (tgt := 259) dX4_worth_247 (by decide) ?_
                                  refine q_lstore dX4_worth_259 (by decide) ?_
                                  show sE g_tt _ _ _ 261 [some (.ref x), some (.int (iZ b)), some (.ref s), some (.int (iZ (h : Int))), some (.int (iZ fr)), some (.int (iZ (w : Int))), some (.int (iZ (((m : Int) + 1) - 1))), some (.int (iZ (i : Int))), some (.int (iZ (op : Int))), some (.int (iZ (v : Int))), some (.int (iZ 1)), some (.int (iZ b1)), some (.int (iZ 0)), some (.long (lZ (cCh A op b1))), none] [] (st (sRw σ (x + 5) R) s K H E N f)
                                  refine q_aload_n dX4_worth_261 rfl rfl ?_
                                  refine sg4 (kf := 11) (v := .ref (x + 5)) dX4_worth_262 flX4_47 hx (by decide) rfl ?_
                                  refine q_iload dX4_worth_265 rfl ?_
                                  refine z_ldc2 (z := -1000000) dX4_worth_267 (by rw [show lZ (-1000000) = (-1000000 : Int64) by decide +kernel]; exact klX4_80) ?_
                                  refine z_ldc2 (z := 1000000) dX4_worth_270 klX4_82 ?_
                                  refine q_lload dX4_worth_273 rfl ?_
                                  refine z_mminl dX4_worth_275 mlX4_84 (by omega) (Nat.le_of_ble_eq_true rfl) (by unfold inL at *; omega) (by unfold inL at *; omega) ?_
                                  refine z_mmaxl dX4_worth_278 mlX4_87 (by omega) (Nat.le_of_ble_eq_true rfl) (by unfold inL at *; omega) (by unfold inL at *; omega) ?_
                                  refine z_l2i dX4_worth_281 ?_
                                  refine z_top (y := mClip (cCh A op b1)) (mClip_mm _) ?_
                                  refine s_iast (n := 64) dX4_worth_282 (kd_tx hx).2.1 (by omega) (by omega) (by decide) ?_
                                  rw [st_oR _ _ _ _ _ _ (by omega), sR_sRw]
                                  show sE g_tt _ _ _ 283 [some (.ref x), some (.int (iZ b)), some (.ref s), some (.int (iZ (h : Int))), some (.int (iZ fr)), some (.int (iZ (w : Int))), some (.int (iZ (((m : Int) + 1) - 1))), some (.int (iZ (i : Int))), some (.int (iZ (op : Int))), some (.int (iZ (v : Int))), some (.int (iZ 1)), some (.int (iZ b1)), some (.int (iZ 0)), some (.long (lZ (cCh A op b1))), none] [] (st (sRw σ (x + 5) (va_up R (((m : Int) + 1) - 1 : Int).toNat (mClip (cCh A op b1)))) s K H E N f)
                                  refine z_iinc dX4_worth_283 rfl (by decide) ?_
                                  show sE g_tt _ _ _ 286 [some (.ref x), some (.int (iZ b)), some (.ref s), some (.int (iZ (h : Int))), some (.int (iZ fr)), some (.int (iZ (w : Int))), some (.int (iZ (((m : Int) + 1) - 1 + 1))), some (.int (iZ (i : Int))), some (.int (iZ (op : Int))), some (.int (iZ (v : Int))), some (.int (iZ 1)), some (.int (iZ b1)), some (.int (iZ 0)), some (.long (lZ (cCh A op b1))), none] [] (st (sRw σ (x + 5) (va_up R (((m : Int) + 1) - 1 : Int).toNat (mClip (cCh A op b1)))) s K H E N f)
                                  refine z_iinc dX4_worth_286 rfl (by decide) ?_
                                  show sE g_tt _ _ _ 289 [some (.ref x), some (.int (iZ b)), some (.ref s), some (.int (iZ (h : Int))), some (.int (iZ fr)), some (.int (iZ (w : Int))), some (.int (iZ (((m : Int) + 1) - 1 + 1))), some (.int (iZ ((i : Int) + 1))), some (.int (iZ (op : Int))), some (.int (iZ (v : Int))), some (.int (iZ 1)), some (.int (iZ b1)), some (.int (iZ 0)), some (.long (lZ (cCh A op b1))), none] [] (st (sRw σ (x + 5) (va_up R (((m : Int) + 1) - 1 : Int).toNat (mClip (cCh A op b1)))) s K H E N f)
                                  refine q_goto (tgt := 68) dX4_worth_289 (by decide) ?_
                                  rw [show ((m : Int) + 1) - 1 + 1 = ((((mClip (cCh A op b1)) :: t).length : Nat) : Int) by simp only [List.length_cons]; omega, show (i : Int) + 1 = ((i + 1 : Nat) : Int) by omega]
                                  refine ih (i + 1) ((mClip (cCh A op b1)) :: t) (va_up R (((m : Int) + 1) - 1 : Int).toNat (mClip (cCh A op b1))) _ _ _ _ _ _ hrun (by simp only [List.length_cons]; omega) (fun z hz => ?_) ?_ (by omega)
                                  · rcases List.mem_cons.mp hz with e | hz
                                    · rw [e]; exact mClip_ran _
                                    · exact hmil z (List.mem_cons_of_mem _ hz)
                                  · rw [show (((m : Int) + 1) - 1 : Int).toNat = t.length by omega]; exact stk_push _ hst.2
                              · exfalso
                                revert c_8
                                decide
                            · exfalso
                              omega
                        · exfalso
                          revert c_5
                          decide
                    · exfalso
                      omega
            · rw [if_neg hk1] at hrun
              have htk : cTk op = 2 := by unfold cTk at hk0 hk1 ⊢; repeat' split <;> simp_all
              match S, hrun, hSl, hmil, hst with
              | [], hrun, _, _, _ => rw [if_pos (Or.inl (by simp))] at hrun; cases hrun
              | [_], hrun, _, _, _ => rw [if_pos (Or.inl (by simp))] at hrun; cases hrun
              | b1 :: a1 :: t, hrun, hSl, hmil, hst =>
                obtain ⟨m, hm⟩ : ∃ m, t.length = m := ⟨_, rfl⟩
                simp only [List.length_cons] at hSl
                have hb1e : R (m + 1) = b1 := by rw [← hm]; exact hst.1
                have ha1e : R m = a1 := by rw [← hm]; exact hst.2.1
                have hmb : mil b1 := hmil b1 List.mem_cons_self
                have hma : mil a1 := hmil a1 (List.mem_cons_of_mem _ List.mem_cons_self)
                have hmb1 := hmb.1
                have hmb2 := hmb.2
                have hma1 := hma.1
                have hma2 := hma.2
                have hrun : (if t.length + 2 < 2 ∨ ((op = 16 ∨ op = 17) ∧ ¬ ((a1 = 0 ∨ a1 = 1) ∧ (b1 = 0 ∨ b1 = 1))) then none else cRun A h O V w n (i + 1) (mClip (cJn op a1 b1) :: t)) = some S9 := hrun
                by_cases hno : (op = 16 ∨ op = 17) ∧ ¬ ((a1 = 0 ∨ a1 = 1) ∧ (b1 = 0 ∨ b1 = 1))
                · rw [if_pos (Or.inr hno)] at hrun; cases hrun
                rw [if_neg (fun q => q.elim (fun q => absurd q (by omega)) (fun q => hno q))] at hrun
                have hrun : cRun A h O V w n (i + 1) (mClip (cJn op a1 b1) :: t) = some S9 := hrun
                have h01 : op = 16 ∨ op = 17 → (a1 = 0 ∨ a1 = 1) ∧ (b1 = 0 ∨ b1 = 1) := fun q => by
                  by_cases z : (a1 = 0 ∨ a1 = 1) ∧ (b1 = 0 ∨ b1 = 1)
                  · exact z
                  · exact absurd ⟨q, z⟩ hno
                rw [show (((b1 :: a1 :: t).length : Nat) : Int) = (m : Int) + 2 by simp only [List.length_cons]; omega]
                refine q_iload dX4_worth_68 rfl ?_
                refine q_iload dX4_worth_70 rfl ?_
                refine z_icmp_ge (tgt := 292) dX4_worth_72 (by decide) (by unfold inR at *; omega) (by unfold inR at *; omega) (fun c_1 => ?_) (fun c_1 => ?_)
                · exfalso
                  omega
                · refine q_aload_n dX4_worth_75 rfl rfl ?_
                  refine sg4 (kf := 0) (v := .ref (x + 1)) dX4_worth_76 flX4_9 hx (by decide) rfl ?_
                  refine q_iload dX4_worth_79 rfl ?_
                  refine s_iald (n := 300) (x := (op : Int) + 64 * (v : Int)) dX4_worth_81 (kd_tx hx).1 (by omega) (by omega) (by decide) (by rw [st_o2 _ _ _ _ _ _ (by omega), sRw_ne _ _ (by omega)]; exact hCi) ?_
                  refine z_bipush dX4_worth_82 (by decide +kernel) ?_
                  refine z_irem dX4_worth_84 (by unfold inR at *; omega) (by unfold inR at *; omega) (by decide) ?_
                  refine z_top (y := (op : Int)) (by rw [Int.tmod_eq_emod_of_nonneg (by omega)]; omega) ?_
                  refine q_istore dX4_worth_85 (by decide) ?_
                  show sE g_tt _ _ _ 87 [some (.ref x), some (.int (iZ b)), some (.ref s), some (.int (iZ (h : Int))), some (.int (iZ fr)), some (.int (iZ (w : Int))), some (.int (iZ ((m : Int) + 2))), some (.int (iZ (i : Int))), some (.int (iZ (op : Int))), l9, l10, l11, l12, l13, none] [] (st (sRw σ (x + 5) R) s K H E N f)
                  refine q_aload_n dX4_worth_87 rfl rfl ?_
                  refine sg4 (kf := 0) (v := .ref (x + 1)) dX4_worth_88 flX4_9 hx (by decide) rfl ?_
                  refine q_iload dX4_worth_91 rfl ?_
                  refine s_iald (n := 300) (x := (op : Int) + 64 * (v : Int)) dX4_worth_93 (kd_tx hx).1 (by omega) (by omega) (by decide) (by rw [st_o2 _ _ _ _ _ _ (by omega), sRw_ne _ _ (by omega)]; exact hCi) ?_
                  refine z_bipush dX4_worth_94 (by decide +kernel) ?_
                  refine z_idiv dX4_worth_96 (by unfold inR at *; omega) (by unfold inR at *; omega) (by decide) ?_
                  refine z_top (y := (v : Int)) (by rw [Int.tdiv_eq_ediv_of_nonneg (by omega)]; omega) ?_
                  refine q_istore dX4_worth_97 (by decide) ?_
                  show sE g_tt _ _ _ 99 [some (.ref x), some (.int (iZ b)), some (.ref s), some (.int (iZ (h : Int))), some (.int (iZ fr)), some (.int (iZ (w : Int))), some (.int (iZ ((m : Int) + 2))), some (.int (iZ (i : Int))), some (.int (iZ (op : Int))), some (.int (iZ (v : Int))), l10, l11, l12, l13, none] [] (st (sRw σ (x + 5) R) s K H E N f)
                  refine q_iload dX4_worth_99 rfl ?_
                  refine s_callS (As := [.int (iZ (op : Int))]) (S := []) dX4_worth_101 okX4_operands mlX4_61 rfl (by omega) rfl (Nat.le_of_ble_eq_true rfl) (c_operands (d := d - 1) (op := op) ho (st (sRw σ (x + 5) R) s K H E N f)) (fun v_ σ_ hq => ?_)
                  obtain ⟨rfl, e9⟩ := hq
                  have e9 := e9.symm
                  subst e9
                  refine z_top (y := 2) (by rw [htk]; rfl) ?_
                  show sE g_tt _ _ _ 104 [some (.ref x), some (.int (iZ b)), some (.ref s), some (.int (iZ (h : Int))), some (.int (iZ fr)), some (.int (iZ (w : Int))), some (.int (iZ ((m : Int) + 2))), some (.int (iZ (i : Int))), some (.int (iZ (op : Int))), some (.int (iZ (v : Int))), l10, l11, l12, l13, none] [.int (iZ 2)] (st (sRw σ (x + 5) R) s K H E N f)
                  refine q_istore dX4_worth_104 (by decide) ?_
                  show sE g_tt _ _ _ 106 [some (.ref x), some (.int (iZ b)), some (.ref s), some (.int (iZ (h : Int))), some (.int (iZ fr)), some (.int (iZ (w : Int))), some (.int (iZ ((m : Int) + 2))), some (.int (iZ (i : Int))), some (.int (iZ (op : Int))), some (.int (iZ (v : Int))), some (.int (iZ 2)), l11, l12, l13, none] [] (st (sRw σ (x + 5) R) s K H E N f)
                  refine q_iload dX4_worth_106 rfl ?_
                  refine q_iload dX4_worth_108 rfl ?_
                  refine z_icmp_lt (tgt := 123) dX4_worth_110 (by decide) (by unfold inR at *; omega) (by unfold inR at *; omega) (fun c_2 => ?_) (fun c_2 => ?_)
                  · exfalso
                    omega
                  · refine q_iload dX4_worth_113 rfl ?_
                    refine q_iload dX4_worth_115 rfl ?_
                    refine z_isub dX4_worth_117 ?_
                    refine z_bipush dX4_worth_118 (by decide +kernel) ?_
                    refine z_icmp_lt (tgt := 125) dX4_worth_120 (by decide) (by unfold inR at *; omega) (by unfold inR at *; omega) (fun c_3 => ?_) (fun c_3 => ?_)
                    · refine q_iload dX4_worth_125 rfl ?_
                      refine z_if_le (tgt := 142) dX4_worth_127 (by decide) (by unfold inR at *; omega) (fun c_4 => ?_) (fun c_4 => ?_)
                      · exfalso
                        revert c_4
                        decide
                      · refine q_aload_n dX4_worth_130 rfl rfl ?_
                        refine sg4 (kf := 11) (v := .ref (x + 5)) dX4_worth_131 flX4_47 hx (by decide) rfl ?_
                        refine q_iload dX4_worth_134 rfl ?_
                        refine z_iconst dX4_worth_136 ?_
                        refine z_isub dX4_worth_137 ?_
                        refine s_iald (n := 64) (x := b1) dX4_worth_138 (kd_tx hx).2.1 (by omega) (by omega) (by decide) (by rw [st_o2 _ _ _ _ _ _ (by omega), sRw_at, show (((m : Int) + 2) - 1 : Int).toNat = m + 1 by omega]; exact hb1e) ?_
                        refine q_goto (tgt := 143) dX4_worth_139 (by decide) ?_
                        refine q_istore dX4_worth_143 (by decide) ?_
                        show sE g_tt _ _ _ 145 [some (.ref x), some (.int (iZ b)), some (.ref s), some (.int (iZ (h : Int))), some (.int (iZ fr)), some (.int (iZ (w : Int))), some (.int (iZ ((m : Int) + 2))), some (.int (iZ (i : Int))), some (.int (iZ (op : Int))), some (.int (iZ (v : Int))), some (.int (iZ 2)), some (.int (iZ b1)), l12, l13, none] [] (st (sRw σ (x + 5) R) s K H E N f)
                        refine q_iload dX4_worth_145 rfl ?_
                        refine z_iconst dX4_worth_147 ?_
                        refine z_icmp_le (tgt := 163) dX4_worth_148 (by decide) (by unfold inR at *; omega) (by unfold inR at *; omega) (fun c_5 => ?_) (fun c_5 => ?_)
                        · exfalso
                          revert c_5
                          decide
                        · refine q_aload_n dX4_worth_151 rfl rfl ?_
                          refine sg4 (kf := 11) (v := .ref (x + 5)) dX4_worth_152 flX4_47 hx (by decide) rfl ?_
                          refine q_iload dX4_worth_155 rfl ?_
                          refine z_iconst dX4_worth_157 ?_
                          refine z_isub dX4_worth_158 ?_
                          refine s_iald (n := 64) (x := a1) dX4_worth_159 (kd_tx hx).2.1 (by omega) (by omega) (by decide) (by rw [st_o2 _ _ _ _ _ _ (by omega), sRw_at, show (((m : Int) + 2) - 2 : Int).toNat = m by omega]; exact ha1e) ?_
                          refine q_goto (tgt := 164) dX4_worth_160 (by decide) ?_
                          refine q_istore dX4_worth_164 (by decide) ?_
                          show sE g_tt _ _ _ 166 [some (.ref x), some (.int (iZ b)), some (.ref s), some (.int (iZ (h : Int))), some (.int (iZ fr)), some (.int (iZ (w : Int))), some (.int (iZ ((m : Int) + 2))), some (.int (iZ (i : Int))), some (.int (iZ (op : Int))), some (.int (iZ (v : Int))), some (.int (iZ 2)), some (.int (iZ b1)), some (.int (iZ a1)), l13, none] [] (st (sRw σ (x + 5) R) s K H E N f)
                          refine q_iload dX4_worth_166 rfl ?_
                          refine q_iload dX4_worth_168 rfl ?_
                          refine z_isub dX4_worth_170 ?_
                          refine q_istore dX4_worth_171 (by decide) ?_
                          show sE g_tt _ _ _ 173 [some (.ref x), some (.int (iZ b)), some (.ref s), some (.int (iZ (h : Int))), some (.int (iZ fr)), some (.int (iZ (w : Int))), some (.int (iZ (((m : Int) + 2) - 2))), some (.int (iZ (i : Int))), some (.int (iZ (op : Int))), some (.int (iZ (v : Int))), some (.int (iZ 2)), some (.int (iZ b1)), some (.int (iZ a1)), l13, none] [] (st (sRw σ (x + 5) R) s K H E N f)
                          refine q_iload dX4_worth_173 rfl ?_
                          refine z_bipush dX4_worth_175 (by decide +kernel) ?_
                          refine z_icmp_eq (tgt := 187) dX4_worth_177 (by decide) (by unfold inR at *; omega) (by unfold inR at *; omega) (fun c_6 => ?_) (fun c_6 => ?_)
                          · exfalso
                            omega
                          · refine q_iload dX4_worth_180 rfl ?_
                            refine z_bipush dX4_worth_182 (by decide +kernel) ?_
                            refine z_icmp_ne (tgt := 213) dX4_worth_184 (by decide) (by unfold inR at *; omega) (by unfold inR at *; omega) (fun c_7 => ?_) (fun c_7 => ?_)
                            · refine q_iload dX4_worth_213 rfl ?_
                              refine z_iconst dX4_worth_215 ?_
                              refine z_icmp_ne (tgt := 233) dX4_worth_216 (by decide) (by unfold inR at *; omega) (by unfold inR at *; omega) (fun c_8 => ?_) (fun c_8 => ?_)
                              · exfalso
                                revert c_8
                                decide
                              · refine q_iload dX4_worth_219 rfl ?_
                                refine q_iload dX4_worth_221 rfl ?_
                                refine z_i2l dX4_worth_223 (by unfold inR at *; omega) ?_
                                refine q_iload dX4_worth_224 rfl ?_
                                refine z_i2l dX4_worth_226 (by unfold inR at *; omega) ?_
                                refine s_callS (As := [.int (iZ (op : Int)), .long (lZ a1), .long (lZ b1)]) (S := []) dX4_worth_227 okX4_joined mlX4_68 rfl (by omega) rfl (Nat.le_of_ble_eq_true rfl) (c_joined (d := d - 1) (op := op) (by omega) ho (a := a1) (b := b1) hma.1 hma.2 hmb.1 hmb.2 h01 (st (sRw σ (x + 5) R) s K H E N f)) (fun v_ σ_ hq => ?_)
                                obtain ⟨rfl, e9⟩ := hq
                                have e9 := e9.symm
                                subst e9
                                have rr := cJn_ran op hma hmb
                                show sE g_tt _ _ _ 230 [some (.ref x), some (.int (iZ b)), some (.ref s), some (.int (iZ (h : Int))), some (.int (iZ fr)), some (.int (iZ (w : Int))), some (.int (iZ (((m : Int) + 2) - 2))), some (.int (iZ (i : Int))), some (.int (iZ (op : Int))), some (.int (iZ (v : Int))), some (.int (iZ 2)), some (.int (iZ b1)), some (.int (iZ a1)), l13, none] [.long (lZ (cJn op a1 b1))] (st (sRw σ (x + 5) R) s K H E N f)
                                refine q_goto (tgt := 259) dX4_worth_230 (by decide) ?_
                                refine q_lstore dX4_worth_259 (by decide) ?_
                                show sE g_tt _ _ _ 261 [some (.ref x), some (.int (iZ b)), some (.ref s), some (.int (iZ (h : Int))), some (.int (iZ fr)), some (.int (iZ (w : Int))), some (.int (iZ (((m : Int) + 2) - 2))), some (.int (iZ (i : Int))), some (.int (iZ (op : Int))), some (.int (iZ (v : Int))), some (.int (iZ 2)), some (.int (iZ b1)), some (.int (iZ a1)), some (.long (lZ (cJn op a1 b1))), none] [] (st (sRw σ (x + 5) R) s K H E N f)
                                refine q_aload_n dX4_worth_261 rfl rfl ?_
                                refine sg4 (kf := 11) (v := .ref (x + 5)) dX4_worth_262 flX4_47 hx (by decide) rfl ?_
                                refine q_iload dX4_worth_265 rfl ?_
                                refine z_ldc2 (z := -1000000) dX4_worth_267 (by rw [show lZ (-1000000) = (-1000000 : Int64) by decide +kernel]; exact klX4_80) ?_
                                refine z_ldc2 (z := 1000000) dX4_worth_270 klX4_82 ?_
                                refine q_lload dX4_worth_273 rfl ?_
                                refine z_mminl dX4_worth_275 mlX4_84 (by omega) (Nat.le_of_ble_eq_true rfl) (by unfold inL at *; omega) (by unfold inL at *; omega) ?_
                                refine z_mmaxl dX4_worth_278 mlX4_87 (by omega) (Nat.le_of_ble_eq_true rfl) (by unfold inL at *; omega) (by unfold inL at *; omega) ?_
                                refine z_l2i dX4_worth_281 ?_
                                refine z_top (y := mClip (cJn op a1 b1)) (mClip_mm _) ?_
                                refine s_iast (n := 64) dX4_worth_282 (kd_tx hx).2.1 (by omega) (by omega) (by decide) ?_
                                rw [st_oR _ _ _ _ _ _ (by omega), sR_sRw]
                                show sE g_tt _ _ _ 283 [some (.ref x), some (.int (iZ b)), some (.ref s), some (.int (iZ (h : Int))), some (.int (iZ fr)), some (.int (iZ (w : Int))), some (.int (iZ (((m : Int) + 2) - 2))), some (.int (iZ (i : Int))), some (.int (iZ (op : Int))), some (.int (iZ (v : Int))), some (.int (iZ 2)), some (.int (iZ b1)), some (.int (iZ a1)), some (.long (lZ (cJn op a1 b1))), none] [] (st (sRw σ (x + 5) (va_up R (((m : Int) + 2) - 2 : Int).toNat (mClip (cJn op a1 b1)))) s K H E N f)
                                refine z_iinc dX4_worth_283 rfl (by decide) ?_
                                show sE g_tt _ _ _ 286 [some (.ref x), some (.int (iZ b)), some (.ref s), some (.int (iZ (h : Int))), some (.int (iZ fr)), some (.int (iZ (w : Int))), some (.int (iZ (((m : Int) + 2) - 2 + 1))), some (.int (iZ (i : Int))), some (.int (iZ (op : Int))), some (.int (iZ (v : Int))), some (.int (iZ 2)), some (.int (iZ b1)), some (.int (iZ a1)), some (.long (lZ (cJn op a1 b1))), none] [] (st (sRw σ (x + 5) (va_up R (((m : Int) + 2) - 2 : Int).toNat (mClip (cJn op a1 b1)))) s K H E N f)
                                refine z_iinc dX4_worth_286 rfl (by decide) ?_
                                show sE g_tt _ _ _ 289 [some (.ref x), some (.int (iZ b)), some (.ref s), some (.int (iZ (h : Int))), some (.int (iZ fr)), some (.int (iZ (w : Int))), some (.int (iZ (((m : Int) + 2) - 2 + 1))), some (.int (iZ ((i : Int) + 1))), some (.int (iZ (op : Int))), some (.int (iZ (v : Int))), some (.int (iZ 2)), some (.int (iZ b1)), some (.int (iZ a1)), some (.long (lZ (cJn op a1 b1))), none] [] (st (sRw σ (x + 5) (va_up R (((m : Int) + 2) - 2 : Int).toNat (mClip (cJn op a1 b1)))) s K H E N f)
                                refine q_goto (tgt := 68) dX4_worth_289 (by decide) ?_
                                rw [show ((m : Int) + 2) - 2 + 1 = ((((mClip (cJn op a1 b1)) :: t).length : Nat) : Int) by simp only [List.length_cons]; omega, show (i : Int) + 1 = ((i + 1 : Nat) : Int) by omega]
                                refine ih (i + 1) ((mClip (cJn op a1 b1)) :: t) (va_up R (((m : Int) + 2) - 2 : Int).toNat (mClip (cJn op a1 b1))) _ _ _ _ _ _ hrun (by simp only [List.length_cons]; omega) (fun z hz => ?_) ?_ (by omega)
                                · rcases List.mem_cons.mp hz with e | hz
                                  · rw [e]; exact mClip_ran _
                                  · exact hmil z (List.mem_cons_of_mem _ (List.mem_cons_of_mem _ hz))
                                · rw [show (((m : Int) + 2) - 2 : Int).toNat = t.length by omega]; exact stk_push _ hst.2.2
                            · exfalso
                              omega
                    · exfalso
                      omega
