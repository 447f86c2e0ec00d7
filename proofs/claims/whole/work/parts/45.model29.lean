/-! ===== the best round ===== -/
/-- whether the first of two rows is lower, f places from k on (1, 0) -/
def lexF (a b : Nat → Int) : Nat → Nat → Int
  | 0, _ => 0
  | f + 1, k => if a k = b k then lexF a b f (k + 1) else if a k < b k then 1 else 0
def lget (l : List Nat) (i : Nat) : Int := ((l.getD i 0 : Nat) : Int)
def lexL (l b : List Nat) : Int := lexF (lget l) (lget b) l.length 0
theorem lexF_01 (a b : Nat → Int) : ∀ f k, lexF a b f k = 0 ∨ lexF a b f k = 1 := by
  intro f
  induction f with
  | zero => intro k; exact Or.inl rfl
  | succ f ih =>
    intro k
    rw [lexF]
    split
    · exact ih _
    · split
      · exact Or.inr rfl
      · exact Or.inl rfl
theorem lget_row {f : Nat → Int} {l : List Nat} (h : lrow f l) {i : Nat} (hi : i < l.length) : f i = lget l i := by
  have e : l[i]? = some l[i] := List.getElem?_eq_getElem hi
  rw [h i l[i] e]
  unfold lget
  rw [List.getD_eq_getElem?_getD, e]
  rfl
def l8 (l : List Nat) : Prop := ∀ i, i < l.length → 0 ≤ lget l i ∧ lget l i < 8
theorem l8_nil : l8 [] := fun i h => absurd h (by simp)
theorem l8_push {l : List Nat} (h : l8 l) {x : Nat} (hx : x < 8) : l8 (l ++ [x]) := by
  intro i hi
  unfold lget
  rw [List.getD_eq_getElem?_getD]
  by_cases q : i < l.length
  · rw [List.getElem?_append_left q]
    have := h i q
    unfold lget at this
    rw [List.getD_eq_getElem?_getD] at this
    exact this
  · rw [show i = l.length by simp at hi; omega]
    simp
    omega
theorem l8_duT (A : Nat → Int) {h : Nat} (hh : h < 8) (t : Int) {l : List Nat} (hl : l8 l) : l8 (duT A h t l) := by
  unfold duT; split
  · exact hl
  · exact l8_push hl hh
theorem mRb_ok (A : Nat → Int) (tu left : Nat) : ∀ (f k lo hi now : Nat) (t : Int) (l : List Nat) (q : Int × List Nat), mRb A tu left f k lo hi now t l = some q → now < 8 → 0 ≤ t → l8 l → l.length ≤ left → l8 q.2 ∧ q.2.length = left ∧ 0 ≤ q.1 ∧ q.1 ≤ t + 8 * (f : Int) := by
  intro f
  induction f with
  | zero => intro k lo hi now t l q h; cases h
  | succ f ih =>
    intro k lo hi now t l q h hn ht hl hll
    rw [mRb] at h
    split at h
    · cases h
      exact ⟨hl, by show l.length = left; omega, ht, by show t ≤ _; omega⟩
    · split at h
      · cases h
      · split at h
        · rename_i h1 h2 h3
          have dr : 0 ≤ dst (rbT tu k lo hi).toNat now ∧ dst (rbT tu k lo hi).toNat now ≤ 8 := by unfold dst; split <;> omega
          have i9 := ih _ _ _ _ _ _ q h (by omega) (by omega) (l8_duT A (by omega) _ hl) (by have := (duT_len A (rbT tu k lo hi).toNat (t + dst (rbT tu k lo hi).toNat now) l).1; omega)
          exact ⟨i9.1, i9.2.1, i9.2.2.1, by omega⟩
        · cases h
def okO (left : Nat) (x : Option (Int × List Nat)) : Prop := ∀ q, x = some q → l8 q.2 ∧ q.2.length = left ∧ 0 ≤ q.1 ∧ q.1 ≤ 64
theorem okO_none (left : Nat) : okO left none := fun q h => by cases h
theorem mRd_ok (A : Nat → Int) {left fr : Nat} (tu : Nat) (hfr : fr < 8) (hl : ¬ A (29 + fr) = 0 → 1 ≤ left) : okO left (mRd A left fr tu) := by
  intro q h
  unfold mRd at h
  split at h
  · have := mRb_ok A tu left 8 0 fr fr fr 0 _ q h hfr (Int.le_refl _) (l8_duT A hfr 0 l8_nil) (by
      unfold duT; split
      · simp
      · simp; exact hl (by omega))
    exact ⟨this.1, this.2.1, this.2.2.1, by omega⟩
  · cases h
theorem oT_ok {left : Nat} {x : Option (Int × List Nat)} (h : okO left x) : -1 ≤ oT x ∧ oT x ≤ 64 ∧ (oT x = -1 ↔ x = none) ∧ l8 (oL x) ∧ (x ≠ none → (oL x).length = left) := by
  cases x with
  | none => exact ⟨Int.le_refl _, by show (-1 : Int) ≤ 64; decide, ⟨fun _ => rfl, fun _ => rfl⟩, l8_nil, fun q => absurd rfl q⟩
  | some q =>
    have := h q rfl
    exact ⟨by show -1 ≤ q.1; omega, this.2.2.2, ⟨fun e => absurd (show q.1 = -1 from e) (by omega), fun e => by cases e⟩, this.1, fun _ => this.2.1⟩
/-- the better of two rounds, the first if they are alike -/
def bet (b c : Option (Int × List Nat)) : Option (Int × List Nat) := match b, c with
  | b, none => b
  | none, some c => some c
  | some b, some c => if b.1 < c.1 ∨ (c.1 = b.1 ∧ lexL c.2 b.2 = 0) then some b else some c
theorem bet_skip {left : Nat} {b x : Option (Int × List Nat)} (hb : okO left b) (hx : okO left x) (h : oT x = -1 ∨ (¬ oT b = -1 ∧ (oT b < oT x ∨ (oT x = oT b ∧ lexL (oL x) (oL b) = 0)))) : bet b x = b := by
  cases x with
  | none => cases b <;> rfl
  | some x =>
    cases b with
    | none => exact absurd h (by have := hx x rfl; show ¬ (x.1 = -1 ∨ (¬ (-1 : Int) = -1 ∧ _)); omega)
    | some b =>
      have := hx x rfl
      show (if b.1 < x.1 ∨ (x.1 = b.1 ∧ lexL x.2 b.2 = 0) then some b else some x) = some b
      rw [if_pos]
      rcases h with h | h
      · exact absurd (show x.1 = -1 from h) (by omega)
      · exact h.2
theorem bet_take {left : Nat} {b x : Option (Int × List Nat)} (hb : okO left b) (hx : okO left x) (h : ¬ oT x = -1) (h2 : oT b = -1 ∨ (oT x < oT b ∨ (oT x = oT b ∧ ¬ lexL (oL x) (oL b) = 0))) : bet b x = x := by
  cases x with
  | none => exact absurd rfl h
  | some x =>
    cases b with
    | none => rfl
    | some b =>
      have := hb b rfl
      show (if b.1 < x.1 ∨ (x.1 = b.1 ∧ lexL x.2 b.2 = 0) then some b else some x) = some x
      rw [if_neg]
      rcases h2 with h2 | h2 | h2
      · exact absurd (show b.1 = -1 from h2) (by omega)
      · have h2 : x.1 < b.1 := h2
        omega
      · have h3 : x.1 = b.1 := h2.1
        exact fun q => by rcases q with q | q; omega; exact h2.2 q.2
theorem okO_bet {left : Nat} {b x : Option (Int × List Nat)} (hb : okO left b) (hx : okO left x) : okO left (bet b x) := by
  cases x with
  | none => cases b <;> exact hb
  | some x =>
    cases b with
    | none => exact hx
    | some b =>
      show okO left (if _ then some b else some x)
      split
      · exact hb
      · exact hx
/-- the best of the first k rounds -/
def mLy (A : Nat → Int) (left fr : Nat) : Nat → Option (Int × List Nat)
  | 0 => none
  | k + 1 => bet (mLy A left fr k) (mRd A left fr k)
theorem okO_mLy (A : Nat → Int) {left fr : Nat} (hfr : fr < 8) (hl : ¬ A (29 + fr) = 0 → 1 ≤ left) : ∀ k, okO left (mLy A left fr k) := by
  intro k
  induction k with
  | zero => exact okO_none left
  | succ k ih => exact okO_bet ih (mRd_ok A k hfr hl)
set_option maxHeartbeats 4000000 in
set_option maxRecDepth 100000 in
theorem lp_isLower {d : Nat} (σ : gS) (A F : Nat → Int) {l b : List Nat} (hF : F 35 = ((l.length : Nat) : Int)) (hl : lrow (σ.2.1 396) l) (hb : lrow (σ.2.1 397) b) (hlb : l.length ≤ b.length) (hlm : l.length ≤ 8) (h8 : l8 l) (b8 : l8 b) : ∀ (n : Nat) (k : Nat), k ≤ l.length → (l.length : Int) - (k : Int) < (n : Int) → sE g_tt mX7_isLower d (fun r σ' => r = some (.int (iZ (lexF (lget l) (lget b) (l.length - k) k))) ∧ σ' = ms σ A F) 2 [some (.ref 384), some (.int (iZ (k : Int)))] [] (ms σ A F) := by
  intro n
  induction n with
  | zero =>
    intro k hk hn
    exact absurd hn (by omega)
  | succ n ih =>
    intro k hk hn
    refine q_iload_n dX7_isLower_2 rfl rfl ?_
    refine q_aload_n dX7_isLower_3 rfl rfl ?_
    refine sg7 (kf := 35) (v := .int (iZ ((l.length : Nat) : Int))) dX7_isLower_4 flX7_436 (show kd 384 = 7 from rfl) (by decide) (by show some (Value.int (iZ (F 35))) = _; rw [hF]) ?_
    refine z_icmp_ge (tgt := 52) dX7_isLower_7 (by decide) (by unfold inR at *; omega) (by unfold inR at *; omega) (fun c_1 => ?_) (fun c_1 => ?_)
    · refine z_iconst dX7_isLower_52 ?_
      exact s_zret dX7_isLower_53 rfl (by omega) ⟨by (first | rw [show l.length - k = 0 by omega, lexF] | (rw [show l.length - k = (l.length - (k + 1)) + 1 by omega, lexF]; (repeat (first | rw [if_pos (by omega)] | rw [if_neg (by omega)])))), rfl⟩
    · refine q_aload_n dX7_isLower_10 rfl rfl ?_
      refine sg7 (kf := 33) (v := .ref 396) dX7_isLower_11 flX7_56 (show kd 384 = 7 from rfl) (by decide) rfl ?_
      refine q_iload_n dX7_isLower_14 rfl rfl ?_
      refine s_iald (n := 8) (x := lget l k) dX7_isLower_15 (show kd 396 = 100 + 8 from rfl) (by omega) (by omega) (by decide) (lget_row hl (by omega)) ?_
      refine q_aload_n dX7_isLower_16 rfl rfl ?_
      refine sg7 (kf := 34) (v := .ref 397) dX7_isLower_17 flX7_59 (show kd 384 = 7 from rfl) (by decide) rfl ?_
      refine q_iload_n dX7_isLower_20 rfl rfl ?_
      refine s_iald (n := 8) (x := lget b k) dX7_isLower_21 (show kd 397 = 100 + 8 from rfl) (by omega) (by omega) (by decide) (lget_row hb (by omega)) ?_
      refine z_icmp_eq (tgt := 46) dX7_isLower_22 (by decide) (by have := h8 k (by omega); unfold inR; omega) (by have := b8 k (by omega); unfold inR; omega) (fun c_2 => ?_) (fun c_2 => ?_)
      · refine z_iinc dX7_isLower_46 rfl (by decide) ?_
        show sE g_tt _ _ _ 49 [some (.ref 384), some (.int (iZ ((k : Int) + 1)))] [] (ms σ A F)
        refine q_goto (tgt := 2) dX7_isLower_49 (by decide) ?_
        rw [show l.length - k = (l.length - (k + 1)) + 1 by omega, lexF, if_pos c_2]
        exact ih (k + 1) (by omega) (by omega)
      · refine q_aload_n dX7_isLower_25 rfl rfl ?_
        refine sg7 (kf := 33) (v := .ref 396) dX7_isLower_26 flX7_56 (show kd 384 = 7 from rfl) (by decide) rfl ?_
        refine q_iload_n dX7_isLower_29 rfl rfl ?_
        refine s_iald (n := 8) (x := lget l k) dX7_isLower_30 (show kd 396 = 100 + 8 from rfl) (by omega) (by omega) (by decide) (lget_row hl (by omega)) ?_
        refine q_aload_n dX7_isLower_31 rfl rfl ?_
        refine sg7 (kf := 34) (v := .ref 397) dX7_isLower_32 flX7_59 (show kd 384 = 7 from rfl) (by decide) rfl ?_
        refine q_iload_n dX7_isLower_35 rfl rfl ?_
        refine s_iald (n := 8) (x := lget b k) dX7_isLower_36 (show kd 397 = 100 + 8 from rfl) (by omega) (by omega) (by decide) (lget_row hb (by omega)) ?_
        refine z_icmp_ge (tgt := 44) dX7_isLower_37 (by decide) (by have := h8 k (by omega); unfold inR; omega) (by have := b8 k (by omega); unfold inR; omega) (fun c_3 => ?_) (fun c_3 => ?_)
        · refine z_iconst dX7_isLower_44 ?_
          exact s_zret dX7_isLower_45 rfl (by omega) ⟨by (first | rw [show l.length - k = 0 by omega, lexF] | (rw [show l.length - k = (l.length - (k + 1)) + 1 by omega, lexF]; (repeat (first | rw [if_pos (by omega)] | rw [if_neg (by omega)])))), rfl⟩
        · refine z_iconst dX7_isLower_40 ?_
          refine q_goto (tgt := 45) dX7_isLower_41 (by decide) ?_
          exact s_zret dX7_isLower_45 rfl (by omega) ⟨by (first | rw [show l.length - k = 0 by omega, lexF] | (rw [show l.length - k = (l.length - (k + 1)) + 1 by omega, lexF]; (repeat (first | rw [if_pos (by omega)] | rw [if_neg (by omega)])))), rfl⟩
set_option maxHeartbeats 4000000 in
set_option maxRecDepth 100000 in
theorem m_isLower {d : Nat} (σ : gS) (A F : Nat → Int) {l b : List Nat} (hF : F 35 = ((l.length : Nat) : Int)) (hl : lrow (σ.2.1 396) l) (hb : lrow (σ.2.1 397) b) (hlb : l.length ≤ b.length) (hlm : l.length ≤ 8) (h8 : l8 l) (b8 : l8 b) : sC mX7_isLower d [.ref 384] (ms σ A F) (fun r σ' => r = some (.int (iZ (lexL l b))) ∧ σ' = ms σ A F) := by
  refine sC_of rfl (Nat.le_of_ble_eq_true rfl) ?_
  show sE g_tt _ _ _ 0 [some (.ref 384), none] [] (ms σ A F)
  refine z_iconst dX7_isLower_0 ?_
  refine q_istore_n dX7_isLower_1 rfl (by decide) ?_
  show sE g_tt _ _ _ 2 [some (.ref 384), some (.int (iZ 0))] [] (ms σ A F)
  exact lp_isLower σ A F hF hl hb hlb hlm h8 b8 9 0 (by omega) (by omega)
theorem sRw_ne (σ : gS) {b x : Nat} (f : Nat → Int) (h : x ≠ b) : (sRw σ b f).2.1 x = σ.2.1 x := va_up_ne _ _ h
/-- the first k places out of f -/
def cpK (f g : Nat → Int) (k : Nat) : Nat → Int := fun i => if i < k then f i else g i
theorem cpK_0 (f g : Nat → Int) : cpK f g 0 = g := by
  funext i; unfold cpK; rw [if_neg (by omega)]
theorem cpK_step (f g : Nat → Int) (k : Nat) : cpK f g (k + 1) = va_up (cpK f g k) k (f k) := by
  funext i
  by_cases e : i = k
  · subst e; rw [va_up_self]; unfold cpK; rw [if_pos (by omega)]
  · rw [va_up_ne _ _ e]; unfold cpK
    by_cases q : i < k
    · rw [if_pos q, if_pos (by omega)]
    · rw [if_neg q, if_neg (by omega)]
theorem lrow_cpK {f g : Nat → Int} {l : List Nat} (h : lrow f l) : lrow (cpK f g l.length) l := by
  intro i x hx
  have hi : i < l.length := by
    by_cases q : i < l.length
    · exact q
    · rw [List.getElem?_eq_none (by omega)] at hx; cases hx
  unfold cpK
  rw [if_pos hi]
  exact h i x hx
set_option maxHeartbeats 4000000 in
set_option maxRecDepth 100000 in
theorem lp_layCopy {d fr k : Nat} {t : Int} {Q : Option Value → gS → Prop} (σ2 : gS) (A F2 : Nat → Int) {l : List Nat} (hn2 : F2 35 = ((l.length : Nat) : Int)) (hlm : l.length ≤ 8) (kc : ∀ l5 : Option Value, sE g_tt mX7_layRound d Q 87 [some (.ref 384), some (.int (iZ (fr : Int))), some (.int (iZ t)), some (.int (iZ (k : Int))), some (.int (iZ t)), l5] [] (ms (sRw σ2 397 (cpK (σ2.2.1 396) (σ2.2.1 397) l.length)) A F2)) : ∀ (n : Nat) (j : Nat), j ≤ l.length → (l.length : Int) - (j : Int) < (n : Int) → sE g_tt mX7_layRound d Q 58 [some (.ref 384), some (.int (iZ (fr : Int))), some (.int (iZ t)), some (.int (iZ (k : Int))), some (.int (iZ t)), some (.int (iZ (j : Int)))] [] (ms (sRw σ2 397 (cpK (σ2.2.1 396) (σ2.2.1 397) j)) A F2) := by
  intro n
  induction n with
  | zero =>
    intro j hj hn
    exact absurd hn (by omega)
  | succ n ih =>
    intro j hj hn
    refine q_iload dX7_layRound_58 rfl ?_
    refine q_aload_n dX7_layRound_60 rfl rfl ?_
    refine sg7 (kf := 35) (v := .int (iZ ((l.length : Nat) : Int))) dX7_layRound_61 flX7_436 (show kd 384 = 7 from rfl) (by decide) (by show some (Value.int (iZ (F2 35))) = _; rw [hn2]) ?_
    refine z_icmp_ge (tgt := 87) dX7_layRound_64 (by decide) (by unfold inR at *; omega) (by unfold inR at *; omega) (fun c_1 => ?_) (fun c_1 => ?_)
    · rw [show j = l.length by omega]
      exact kc _
    · refine q_aload_n dX7_layRound_67 rfl rfl ?_
      refine sg7 (kf := 34) (v := .ref 397) dX7_layRound_68 flX7_59 (show kd 384 = 7 from rfl) (by decide) rfl ?_
      refine q_iload dX7_layRound_71 rfl ?_
      refine q_aload_n dX7_layRound_73 rfl rfl ?_
      refine sg7 (kf := 33) (v := .ref 396) dX7_layRound_74 flX7_56 (show kd 384 = 7 from rfl) (by decide) rfl ?_
      refine q_iload dX7_layRound_77 rfl ?_
      refine s_iald (n := 8) (x := σ2.2.1 396 j) dX7_layRound_79 (show kd 396 = 100 + 8 from rfl) (by omega) (by omega) (by decide) (by show (sRw σ2 397 (cpK (σ2.2.1 396) (σ2.2.1 397) j)).2.1 396 j = _; rw [sRw_ne _ _ (by decide)]) ?_
      refine mr_st (b := 397) (n := 8) (k := j) dX7_layRound_80 (show kd 397 = 100 + 8 from rfl) (by decide) (by omega) (by omega) (by decide) (by omega) ?_
      refine z_iinc dX7_layRound_81 rfl (by decide) ?_
      show sE g_tt _ _ _ 84 [some (.ref 384), some (.int (iZ (fr : Int))), some (.int (iZ t)), some (.int (iZ (k : Int))), some (.int (iZ t)), some (.int (iZ ((j : Int) + 1)))] [] (ms (sRw σ2 397 (va_up (cpK (σ2.2.1 396) (σ2.2.1 397) j) j (σ2.2.1 396 j))) A F2)
      refine q_goto (tgt := 58) dX7_layRound_84 (by decide) ?_
      rw [← cpK_step]
      exact ih (j + 1) (by omega) (by omega)
set_option maxHeartbeats 4000000 in
set_option maxRecDepth 100000 in
theorem lp_layRound {d fr left : Nat} (hd : 4 ≤ d) (hfr : fr < 8) (σ : gS) (A F : Nat → Int) (h26 : 0 ≤ F 26) (hdu : ∀ k, k < 8 → 0 ≤ A (29 + k) ∧ A (29 + k) ≤ 31) (hleft : mBits (mSick A 8 + 1) (mSick A 8) = left) (hl8 : left ≤ 8) (hl1 : ¬ A (29 + fr) = 0 → 1 ≤ left) : ∀ (n : Nat) (k : Nat) (σ1 : gS) (F1 : Nat → Int) (l4 l5 : Option Value), k ≤ 128 → eqX σ σ1 → fS F F1 → lrow (σ1.2.1 397) (oL (mLy A left fr k)) → 128 - (k : Int) < (n : Int) → sE g_tt mX7_layRound d (fun r σ' => r = some (.int (iZ (oT (mLy A left fr 128)))) ∧ ∃ σ2 F2, σ' = ms σ2 A F2 ∧ eqX σ σ2 ∧ fS F F2 ∧ lrow (σ2.2.1 397) (oL (mLy A left fr 128))) 4 [some (.ref 384), some (.int (iZ (fr : Int))), some (.int (iZ (oT (mLy A left fr k)))), some (.int (iZ (k : Int))), l4, l5] [] (ms σ1 A F1) := by
  intro n
  induction n with
  | zero =>
    intro k σ1 F1 l4 l5 hk hE1 hF1 hrow hn
    exact absurd hn (by omega)
  | succ n ih =>
    intro k σ1 F1 l4 l5 hk hE1 hF1 hrow hn
    have tb := oT_ok (okO_mLy A (left := left) hfr hl1 k)
    refine q_iload_n dX7_layRound_4 rfl rfl ?_
    refine z_sipush dX7_layRound_5 (by decide +kernel) ?_
    refine z_icmp_ge (tgt := 93) dX7_layRound_8 (by decide) (by unfold inR at *; omega) (by unfold inR at *; omega) (fun c_1 => ?_) (fun c_1 => ?_)
    · refine q_iload_n dX7_layRound_93 rfl rfl ?_
      exact s_iretZ dX7_layRound_94 rfl ⟨by rw [show (128 : Nat) = k by omega], σ1, F1, rfl, hE1, hF1, by rw [show (128 : Nat) = k by omega]; exact hrow⟩
    · refine q_aload_n dX7_layRound_11 rfl rfl ?_
      refine q_iload_n dX7_layRound_12 rfl rfl ?_
      refine q_iload_n dX7_layRound_13 rfl rfl ?_
      refine s_callV (ci := 7) (a := 384) (As := [.int (iZ (fr : Int)), .int (iZ (k : Int))]) (S := []) dX7_layRound_14 okX7_roundBy mlX7_445 rfl (by omega) rfl (Nat.le_of_ble_eq_true rfl) (show kd 384 = 7 from rfl) (by decide) rfl (m_roundBy (d := d - 1) (fr := fr) (tu := k) (by omega) hfr (by omega) σ1 A F1 hF1.2 hdu) (fun v_ σ_ hq => ?_)
      rw [hleft] at hq
      obtain ⟨rfl, σ2, F2, e9, hE2, hF2, h97, hx2⟩ := hq
      subst e9
      have hE3 := eqX_tr hE1 hE2
      have hF3 := fS_tr hF1 hF2
      have tx := oT_ok (mRd_ok A (left := left) (fr := fr) k hfr hl1)
      have tb := oT_ok (okO_mLy A (left := left) hfr hl1 k)
      show sE g_tt _ _ _ 17 [some (.ref 384), some (.int (iZ (fr : Int))), some (.int (iZ (oT (mLy A left fr k)))), some (.int (iZ (k : Int))), l4, l5] [.int (iZ (oT (mRd A left fr k)))] (ms σ2 A F2)
      refine q_istore dX7_layRound_17 (by decide) ?_
      show sE g_tt _ _ _ 19 [some (.ref 384), some (.int (iZ (fr : Int))), some (.int (iZ (oT (mLy A left fr k)))), some (.int (iZ (k : Int))), some (.int (iZ (oT (mRd A left fr k)))), l5] [] (ms σ2 A F2)
      refine q_iload dX7_layRound_19 rfl ?_
      refine z_iconst dX7_layRound_21 ?_
      refine z_icmp_eq (tgt := 87) dX7_layRound_22 (by decide) (by unfold inR at *; omega) (by unfold inR at *; omega) (fun c_2 => ?_) (fun c_2 => ?_)
      · have e5 : mLy A left fr (k + 1) = (mLy A left fr k) := by rw [mLy]; exact bet_skip (okO_mLy A hfr hl1 k) (mRd_ok A k hfr hl1) (by omega)
        have k9 := ih (k + 1) σ2 F2 (some (.int (iZ (oT (mRd A left fr k))))) l5 (by omega) hE3 hF3 (by rw [e5, h97]; exact hrow) (by omega)
        rw [e5] at k9
        refine z_iinc dX7_layRound_87 rfl (by decide) ?_
        show sE g_tt _ _ _ 90 [some (.ref 384), some (.int (iZ (fr : Int))), some (.int (iZ (oT (mLy A left fr k)))), some (.int (iZ ((k : Int) + 1))), some (.int (iZ (oT (mRd A left fr k)))), l5] [] (ms σ2 A F2)
        refine q_goto (tgt := 4) dX7_layRound_90 (by decide) ?_
        exact k9
      · refine q_iload_n dX7_layRound_25 rfl rfl ?_
        refine z_iconst dX7_layRound_26 ?_
        refine z_icmp_eq (tgt := 52) dX7_layRound_27 (by decide) (by unfold inR at *; omega) (by unfold inR at *; omega) (fun c_3 => ?_) (fun c_3 => ?_)
        · refine q_iload dX7_layRound_52 rfl ?_
          refine q_istore_n dX7_layRound_54 rfl (by decide) ?_
          show sE g_tt _ _ _ 55 [some (.ref 384), some (.int (iZ (fr : Int))), some (.int (iZ (oT (mRd A left fr k)))), some (.int (iZ (k : Int))), some (.int (iZ (oT (mRd A left fr k)))), l5] [] (ms σ2 A F2)
          refine z_iconst dX7_layRound_55 ?_
          refine q_istore dX7_layRound_56 (by decide) ?_
          show sE g_tt _ _ _ 58 [some (.ref 384), some (.int (iZ (fr : Int))), some (.int (iZ (oT (mRd A left fr k)))), some (.int (iZ (k : Int))), some (.int (iZ (oT (mRd A left fr k)))), some (.int (iZ 0))] [] (ms σ2 A F2)
          have e5 : mLy A left fr (k + 1) = (mRd A left fr k) := by rw [mLy]; exact bet_take (okO_mLy A hfr hl1 k) (mRd_ok A k hfr hl1) (by omega) (by omega)
          have nx : (mRd A left fr k) ≠ none := fun q => absurd (tx.2.2.1.2 q) (by omega)
          refine sE_eq (show ms (sRw σ2 397 (cpK (σ2.2.1 396) (σ2.2.1 397) 0)) A F2 = ms σ2 A F2 by rw [cpK_0, sRw_id]) ?_
          refine lp_layCopy σ2 A F2 (l := oL (mRd A left fr k)) (hx2 nx).1 (by rw [tx.2.2.2.2 nx]; exact hl8) (fun l6 => ?_) 9 0 (by omega) (by rw [tx.2.2.2.2 nx]; omega)
          have k9 := ih (k + 1) (sRw σ2 397 (cpK (σ2.2.1 396) (σ2.2.1 397) (oL (mRd A left fr k)).length)) F2 (some (.int (iZ (oT (mRd A left fr k))))) l6 (by omega) (eqX_tr hE3 (eqX_Rw _ (by decide) _)) hF3 (by rw [e5, sRw_at]; exact lrow_cpK (hx2 nx).2) (by omega)
          rw [e5] at k9
          refine z_iinc dX7_layRound_87 rfl (by decide) ?_
          show sE g_tt _ _ _ 90 [some (.ref 384), some (.int (iZ (fr : Int))), some (.int (iZ (oT (mRd A left fr k)))), some (.int (iZ ((k : Int) + 1))), some (.int (iZ (oT (mRd A left fr k)))), l6] [] (ms (sRw σ2 397 (cpK (σ2.2.1 396) (σ2.2.1 397) (oL (mRd A left fr k)).length)) A F2)
          refine q_goto (tgt := 4) dX7_layRound_90 (by decide) ?_
          exact k9
        · refine q_iload dX7_layRound_30 rfl ?_
          refine q_iload_n dX7_layRound_32 rfl rfl ?_
          refine z_icmp_gt (tgt := 87) dX7_layRound_33 (by decide) (by unfold inR at *; omega) (by unfold inR at *; omega) (fun c_4 => ?_) (fun c_4 => ?_)
          · have e5 : mLy A left fr (k + 1) = (mLy A left fr k) := by rw [mLy]; exact bet_skip (okO_mLy A hfr hl1 k) (mRd_ok A k hfr hl1) (by omega)
            have k9 := ih (k + 1) σ2 F2 (some (.int (iZ (oT (mRd A left fr k))))) l5 (by omega) hE3 hF3 (by rw [e5, h97]; exact hrow) (by omega)
            rw [e5] at k9
            refine z_iinc dX7_layRound_87 rfl (by decide) ?_
            show sE g_tt _ _ _ 90 [some (.ref 384), some (.int (iZ (fr : Int))), some (.int (iZ (oT (mLy A left fr k)))), some (.int (iZ ((k : Int) + 1))), some (.int (iZ (oT (mRd A left fr k)))), l5] [] (ms σ2 A F2)
            refine q_goto (tgt := 4) dX7_layRound_90 (by decide) ?_
            exact k9
          · refine q_iload dX7_layRound_36 rfl ?_
            refine q_iload_n dX7_layRound_38 rfl rfl ?_
            refine z_icmp_ne (tgt := 52) dX7_layRound_39 (by decide) (by unfold inR at *; omega) (by unfold inR at *; omega) (fun c_5 => ?_) (fun c_5 => ?_)
            · refine q_iload dX7_layRound_52 rfl ?_
              refine q_istore_n dX7_layRound_54 rfl (by decide) ?_
              show sE g_tt _ _ _ 55 [some (.ref 384), some (.int (iZ (fr : Int))), some (.int (iZ (oT (mRd A left fr k)))), some (.int (iZ (k : Int))), some (.int (iZ (oT (mRd A left fr k)))), l5] [] (ms σ2 A F2)
              refine z_iconst dX7_layRound_55 ?_
              refine q_istore dX7_layRound_56 (by decide) ?_
              show sE g_tt _ _ _ 58 [some (.ref 384), some (.int (iZ (fr : Int))), some (.int (iZ (oT (mRd A left fr k)))), some (.int (iZ (k : Int))), some (.int (iZ (oT (mRd A left fr k)))), some (.int (iZ 0))] [] (ms σ2 A F2)
              have e5 : mLy A left fr (k + 1) = (mRd A left fr k) := by rw [mLy]; exact bet_take (okO_mLy A hfr hl1 k) (mRd_ok A k hfr hl1) (by omega) (by omega)
              have nx : (mRd A left fr k) ≠ none := fun q => absurd (tx.2.2.1.2 q) (by omega)
              refine sE_eq (show ms (sRw σ2 397 (cpK (σ2.2.1 396) (σ2.2.1 397) 0)) A F2 = ms σ2 A F2 by rw [cpK_0, sRw_id]) ?_
              refine lp_layCopy σ2 A F2 (l := oL (mRd A left fr k)) (hx2 nx).1 (by rw [tx.2.2.2.2 nx]; exact hl8) (fun l6 => ?_) 9 0 (by omega) (by rw [tx.2.2.2.2 nx]; omega)
              have k9 := ih (k + 1) (sRw σ2 397 (cpK (σ2.2.1 396) (σ2.2.1 397) (oL (mRd A left fr k)).length)) F2 (some (.int (iZ (oT (mRd A left fr k))))) l6 (by omega) (eqX_tr hE3 (eqX_Rw _ (by decide) _)) hF3 (by rw [e5, sRw_at]; exact lrow_cpK (hx2 nx).2) (by omega)
              rw [e5] at k9
              refine z_iinc dX7_layRound_87 rfl (by decide) ?_
              show sE g_tt _ _ _ 90 [some (.ref 384), some (.int (iZ (fr : Int))), some (.int (iZ (oT (mRd A left fr k)))), some (.int (iZ ((k : Int) + 1))), some (.int (iZ (oT (mRd A left fr k)))), l6] [] (ms (sRw σ2 397 (cpK (σ2.2.1 396) (σ2.2.1 397) (oL (mRd A left fr k)).length)) A F2)
              refine q_goto (tgt := 4) dX7_layRound_90 (by decide) ?_
              exact k9
            · have nx : (mRd A left fr k) ≠ none := fun q => absurd (tx.2.2.1.2 q) (by omega)
              have nb : (mLy A left fr k) ≠ none := fun q => absurd (tb.2.2.1.2 q) (by omega)
              refine q_aload_n dX7_layRound_42 rfl rfl ?_
              refine s_callV (ci := 7) (a := 384) (As := []) (S := []) dX7_layRound_43 okX7_isLower mlX7_448 rfl (by omega) rfl (Nat.le_of_ble_eq_true rfl) (show kd 384 = 7 from rfl) (by decide) rfl (m_isLower (d := d - 1) σ2 A F2 (l := oL (mRd A left fr k)) (b := oL (mLy A left fr k)) (hx2 nx).1 (hx2 nx).2 (by rw [h97]; exact hrow) (by rw [tx.2.2.2.2 nx, tb.2.2.2.2 nb]; exact Nat.le_refl _) (by rw [tx.2.2.2.2 nx]; exact hl8) tx.2.2.2.1 tb.2.2.2.1) (fun v_ σ_ hq => ?_)
              obtain ⟨rfl, e9⟩ := hq
              have e9 := e9.symm
              subst e9
              show sE g_tt _ _ _ 46 [some (.ref 384), some (.int (iZ (fr : Int))), some (.int (iZ (oT (mLy A left fr k)))), some (.int (iZ (k : Int))), some (.int (iZ (oT (mRd A left fr k)))), l5] [.int (iZ (lexL (oL (mRd A left fr k)) (oL (mLy A left fr k))))] (ms σ2 A F2)
              refine z_if_ne (tgt := 52) dX7_layRound_46 (by decide) (by rcases lexF_01 (lget (oL (mRd A left fr k))) (lget (oL (mLy A left fr k))) (oL (mRd A left fr k)).length 0 with q | q <;> (unfold lexL; rw [q]; unfold inR; decide)) (fun c_6 => ?_) (fun c_6 => ?_)
              · refine q_iload dX7_layRound_52 rfl ?_
                refine q_istore_n dX7_layRound_54 rfl (by decide) ?_
                show sE g_tt _ _ _ 55 [some (.ref 384), some (.int (iZ (fr : Int))), some (.int (iZ (oT (mRd A left fr k)))), some (.int (iZ (k : Int))), some (.int (iZ (oT (mRd A left fr k)))), l5] [] (ms σ2 A F2)
                refine z_iconst dX7_layRound_55 ?_
                refine q_istore dX7_layRound_56 (by decide) ?_
                show sE g_tt _ _ _ 58 [some (.ref 384), some (.int (iZ (fr : Int))), some (.int (iZ (oT (mRd A left fr k)))), some (.int (iZ (k : Int))), some (.int (iZ (oT (mRd A left fr k)))), some (.int (iZ 0))] [] (ms σ2 A F2)
                have e5 : mLy A left fr (k + 1) = (mRd A left fr k) := by rw [mLy]; exact bet_take (okO_mLy A hfr hl1 k) (mRd_ok A k hfr hl1) (by omega) (by omega)
                have nx : (mRd A left fr k) ≠ none := fun q => absurd (tx.2.2.1.2 q) (by omega)
                refine sE_eq (show ms (sRw σ2 397 (cpK (σ2.2.1 396) (σ2.2.1 397) 0)) A F2 = ms σ2 A F2 by rw [cpK_0, sRw_id]) ?_
                refine lp_layCopy σ2 A F2 (l := oL (mRd A left fr k)) (hx2 nx).1 (by rw [tx.2.2.2.2 nx]; exact hl8) (fun l6 => ?_) 9 0 (by omega) (by rw [tx.2.2.2.2 nx]; omega)
                have k9 := ih (k + 1) (sRw σ2 397 (cpK (σ2.2.1 396) (σ2.2.1 397) (oL (mRd A left fr k)).length)) F2 (some (.int (iZ (oT (mRd A left fr k))))) l6 (by omega) (eqX_tr hE3 (eqX_Rw _ (by decide) _)) hF3 (by rw [e5, sRw_at]; exact lrow_cpK (hx2 nx).2) (by omega)
                rw [e5] at k9
                refine z_iinc dX7_layRound_87 rfl (by decide) ?_
                show sE g_tt _ _ _ 90 [some (.ref 384), some (.int (iZ (fr : Int))), some (.int (iZ (oT (mRd A left fr k)))), some (.int (iZ ((k : Int) + 1))), some (.int (iZ (oT (mRd A left fr k)))), l6] [] (ms (sRw σ2 397 (cpK (σ2.2.1 396) (σ2.2.1 397) (oL (mRd A left fr k)).length)) A F2)
                refine q_goto (tgt := 4) dX7_layRound_90 (by decide) ?_
                exact k9
              · refine q_goto (tgt := 87) dX7_layRound_49 (by decide) ?_
                have e5 : mLy A left fr (k + 1) = (mLy A left fr k) := by rw [mLy]; exact bet_skip (okO_mLy A hfr hl1 k) (mRd_ok A k hfr hl1) (by omega)
                have k9 := ih (k + 1) σ2 F2 (some (.int (iZ (oT (mRd A left fr k))))) l5 (by omega) hE3 hF3 (by rw [e5, h97]; exact hrow) (by omega)
                rw [e5] at k9
                refine z_iinc dX7_layRound_87 rfl (by decide) ?_
                show sE g_tt _ _ _ 90 [some (.ref 384), some (.int (iZ (fr : Int))), some (.int (iZ (oT (mLy A left fr k)))), some (.int (iZ ((k : Int) + 1))), some (.int (iZ (oT (mRd A left fr k)))), l5] [] (ms σ2 A F2)
                refine q_goto (tgt := 4) dX7_layRound_90 (by decide) ?_
                exact k9
def lfN (A : Nat → Int) : Nat := mBits (mSick A 8 + 1) (mSick A 8)
theorem mSick_bit (A : Nat → Int) (h : Nat) : ∀ n, (mSick A n).testBit h = decide (h < n ∧ 0 < A (29 + h)) := by
  intro n
  induction n with
  | zero => simp [mSick]
  | succ n ih =>
    rw [mSick, Nat.testBit_or, ih]
    by_cases e : h = n
    · subst e
      by_cases q : 0 < A (29 + h)
      · rw [if_pos q]; simp [Nat.testBit_two_pow_self, q]
      · rw [if_neg q]; simp [q]
    · have e2 : ((if 0 < A (29 + n) then 2 ^ n else 0) : Nat).testBit h = false := by
        split
        · rw [Nat.testBit_two_pow_of_ne (by omega)]
        · simp
      rw [e2]
      by_cases q : 0 < A (29 + h)
      · simp [q]; omega
      · simp [q]
theorem lfN_1 {A : Nat → Int} {h : Nat} (hh : h < 8) (h0 : 0 < A (29 + h)) : 1 ≤ lfN A := by
  have b : (mSick A 8).testBit h = true := by rw [mSick_bit]; simp [hh, h0]
  have n0 : mSick A 8 ≠ 0 := fun e => by rw [e] at b; simp at b
  unfold lfN
  rw [mBits, if_neg n0]
  omega
theorem mBits_8 : ∀ m, m < 256 → mBits (m + 1) m ≤ 8 := by decide +kernel
theorem lfN_8 (A : Nat → Int) : lfN A ≤ 8 := mBits_8 _ (mSick_lt A)
set_option maxHeartbeats 4000000 in
set_option maxRecDepth 100000 in
theorem m_layRound {d fr : Nat} (hd : 4 ≤ d) (hfr : fr < 8) (σ : gS) (A F : Nat → Int) (h26 : 0 ≤ F 26) (hdu : ∀ k, k < 8 → 0 ≤ A (29 + k) ∧ A (29 + k) ≤ 31) : sC mX7_layRound d [.ref 384, .int (iZ (fr : Int))] (ms σ A F) (fun r σ' => r = some (.int (iZ (oT (mLy A (lfN A) fr 128)))) ∧ ∃ σ2 F2, σ' = ms σ2 A F2 ∧ eqX σ σ2 ∧ fS F F2 ∧ lrow (σ2.2.1 397) (oL (mLy A (lfN A) fr 128))) := by
  refine sC_of rfl (Nat.le_of_ble_eq_true rfl) ?_
  show sE g_tt _ _ _ 0 [some (.ref 384), some (.int (iZ (fr : Int))), none, none, none, none] [] (ms σ A F)
  refine z_iconst dX7_layRound_0 ?_
  refine q_istore_n dX7_layRound_1 rfl (by decide) ?_
  show sE g_tt _ _ _ 2 [some (.ref 384), some (.int (iZ (fr : Int))), some (.int (iZ (-1))), none, none, none] [] (ms σ A F)
  refine z_iconst dX7_layRound_2 ?_
  refine q_istore_n dX7_layRound_3 rfl (by decide) ?_
  show sE g_tt _ _ _ 4 [some (.ref 384), some (.int (iZ (fr : Int))), some (.int (iZ (-1))), some (.int (iZ 0)), none, none] [] (ms σ A F)
  exact lp_layRound (left := lfN A) hd hfr σ A F h26 hdu rfl (lfN_8 A) (fun q => lfN_1 hfr (by have := hdu fr hfr; omega)) 129 0 σ F _ _ (by omega) (eqX_rf σ) (fS_rf h26) (lrow_nil _) (by omega)
set_option maxHeartbeats 4000000 in
set_option maxRecDepth 100000 in
theorem m_cart {d fr : Nat} (hd : 5 ≤ d) (hfr : fr < 8) (σ : gS) (A F : Nat → Int) (h26 : 0 ≤ F 26) (hdu : ∀ k, k < 8 → 0 ≤ A (29 + k) ∧ A (29 + k) ≤ 31) : sC mX7_cart d [.ref 384, .int (iZ (fr : Int))] (ms σ A F) (fun r σ' => r = some (.int (iZ (oT (mLy A (lfN A) fr 128)))) ∧ ∃ σ2 F2, σ' = ms σ2 A F2 ∧ eqX σ σ2 ∧ fS F F2) := by
  refine sC_of rfl (Nat.le_of_ble_eq_true rfl) ?_
  show sE g_tt _ _ _ 0 [some (.ref 384), some (.int (iZ (fr : Int)))] [] (ms σ A F)
  refine q_iload_n dX7_cart_0 rfl rfl ?_
  refine s_callS (As := [.int (iZ (fr : Int))]) (S := []) dX7_cart_1 okX7_isHouse mlX7_70 rfl (by omega) rfl (Nat.le_of_ble_eq_true rfl) (m_isHouse (d := d - 1) (by omega) (h := (fr : Int)) (by unfold inR at *; omega) (ms σ A F)) (fun v_ σ_ hq => ?_)
  obtain ⟨rfl, e9⟩ := hq
  have e9 := e9.symm
  subst e9
  show sE g_tt _ _ _ 4 [some (.ref 384), some (.int (iZ (fr : Int)))] [.int (iZ (if 0 ≤ (fr : Int) ∧ (fr : Int) < 8 then 1 else 0))] (ms σ A F)
  refine z_if_eq (tgt := 15) dX7_cart_4 (by decide) inR_01 (fun c_1 => ?_) (fun c_1 => ?_)
  · have c_1 := if01_0 c_1
    exfalso
    omega
  · have c_1 := if01_1 c_1
    refine q_aload_n dX7_cart_7 rfl rfl ?_
    refine q_iload_n dX7_cart_8 rfl rfl ?_
    refine s_callV (ci := 7) (a := 384) (As := [.int (iZ (fr : Int))]) (S := []) dX7_cart_9 okX7_layRound mlX7_451 rfl (by omega) rfl (Nat.le_of_ble_eq_true rfl) (show kd 384 = 7 from rfl) (by decide) rfl (m_layRound (d := d - 1) (fr := fr) (by omega) hfr σ A F h26 hdu) (fun v_ σ_ hq => ?_)
    obtain ⟨rfl, σ2, F2, e9, hE2, hF2, hr2⟩ := hq
    subst e9
    have tb := oT_ok (okO_mLy A (left := lfN A) (fr := fr) hfr (fun q => lfN_1 hfr (by have := hdu fr hfr; omega)) 128)
    show sE g_tt _ _ _ 12 [some (.ref 384), some (.int (iZ (fr : Int)))] [.int (iZ (oT (mLy A (lfN A) fr 128)))] (ms σ2 A F2)
    refine q_goto (tgt := 16) dX7_cart_12 (by decide) ?_
    exact s_iretZ dX7_cart_16 rfl ⟨rfl, σ2, F2, rfl, hE2, hF2⟩
set_option maxHeartbeats 4000000 in
set_option maxRecDepth 100000 in
theorem m_cart0 {d : Nat} (hd : 2 ≤ d) {h : Int} (hh : inR h) (hno : ¬ (0 ≤ h ∧ h < 8)) (σ : gS) (A F : Nat → Int) : sC mX7_cart d [.ref 384, .int (iZ h)] (ms σ A F) (fun r σ' => r = some (.int (iZ (-1))) ∧ σ' = ms σ A F) := by
  refine sC_of rfl (Nat.le_of_ble_eq_true rfl) ?_
  show sE g_tt _ _ _ 0 [some (.ref 384), some (.int (iZ h))] [] (ms σ A F)
  refine q_iload_n dX7_cart_0 rfl rfl ?_
  refine s_callS (As := [.int (iZ h)]) (S := []) dX7_cart_1 okX7_isHouse mlX7_70 rfl (by omega) rfl (Nat.le_of_ble_eq_true rfl) (m_isHouse (d := d - 1) (by omega) (h := h) (by unfold inR at *; omega) (ms σ A F)) (fun v_ σ_ hq => ?_)
  obtain ⟨rfl, e9⟩ := hq
  have e9 := e9.symm
  subst e9
  show sE g_tt _ _ _ 4 [some (.ref 384), some (.int (iZ h))] [.int (iZ (if 0 ≤ h ∧ h < 8 then 1 else 0))] (ms σ A F)
  refine z_if_eq (tgt := 15) dX7_cart_4 (by decide) inR_01 (fun c_1 => ?_) (fun c_1 => ?_)
  · have c_1 := if01_0 c_1
    refine z_iconst dX7_cart_15 ?_
    exact s_iretZ dX7_cart_16 rfl ⟨rfl, rfl⟩
  · have c_1 := if01_1 c_1
    exfalso
    omega
set_option maxHeartbeats 4000000 in
set_option maxRecDepth 100000 in
theorem m_round {d fr : Nat} (hd : 5 ≤ d) (hfr : fr < 8) {i : Int} (hi : inR i) (σ : gS) (A F : Nat → Int) (h26 : 0 ≤ F 26) (hdu : ∀ k, k < 8 → 0 ≤ A (29 + k) ∧ A (29 + k) ≤ 31) : sC mX7_round d [.ref 384, .int (iZ (fr : Int)), .int (iZ i)] (ms σ A F) (fun r σ' => r = some (.int (iZ (if (0 ≤ i ∧ i < ((lfN A : Nat) : Int)) ∧ ¬ oT (mLy A (lfN A) fr 128) = -1 then lget (oL (mLy A (lfN A) fr 128)) i.toNat else -2))) ∧ ∃ σ2 F2, σ' = ms σ2 A F2 ∧ eqX σ σ2 ∧ fS F F2) := by
  refine sC_of rfl (Nat.le_of_ble_eq_true rfl) ?_
  show sE g_tt _ _ _ 0 [some (.ref 384), some (.int (iZ (fr : Int))), some (.int (iZ i))] [] (ms σ A F)
  refine q_iload_n dX7_round_0 rfl rfl ?_
  refine s_callS (As := [.int (iZ (fr : Int))]) (S := []) dX7_round_1 okX7_isHouse mlX7_70 rfl (by omega) rfl (Nat.le_of_ble_eq_true rfl) (m_isHouse (d := d - 1) (by omega) (h := (fr : Int)) (by unfold inR at *; omega) (ms σ A F)) (fun v_ σ_ hq => ?_)
  obtain ⟨rfl, e9⟩ := hq
  have e9 := e9.symm
  subst e9
  show sE g_tt _ _ _ 4 [some (.ref 384), some (.int (iZ (fr : Int))), some (.int (iZ i))] [.int (iZ (if 0 ≤ (fr : Int) ∧ (fr : Int) < 8 then 1 else 0))] (ms σ A F)
  refine z_if_eq (tgt := 42) dX7_round_4 (by decide) inR_01 (fun c_1 => ?_) (fun c_1 => ?_)
  · have c_1 := if01_0 c_1
    exfalso
    omega
  · have c_1 := if01_1 c_1
    refine q_iload_n dX7_round_7 rfl rfl ?_
    refine z_iconst dX7_round_8 ?_
    refine q_aload_n dX7_round_9 rfl rfl ?_
    refine s_callV (ci := 7) (a := 384) (As := []) (S := [.int (iZ 0), .int (iZ i)]) dX7_round_10 okX7_sick mlX7_439 rfl (by omega) rfl (Nat.le_of_ble_eq_true rfl) (show kd 384 = 7 from rfl) (by decide) rfl (m_sick (d := d - 1) σ A F (fun k hk => by have := hdu k hk; unfold inR; omega)) (fun v_ σ_ hq => ?_)
    obtain ⟨rfl, e9⟩ := hq
    have e9 := e9.symm
    subst e9
    show sE g_tt _ _ _ 13 [some (.ref 384), some (.int (iZ (fr : Int))), some (.int (iZ i))] [.int (iZ (((mSick A 8) : Nat) : Int)), .int (iZ 0), .int (iZ i)] (ms σ A F)
    refine s_callS (As := [.int (iZ (((mSick A 8) : Nat) : Int))]) (S := [.int (iZ 0), .int (iZ i)]) dX7_round_13 okX7_bits mlX7_277 rfl (by omega) rfl (Nat.le_of_ble_eq_true rfl) (m_bits (d := d - 1) (m := (mSick A 8)) (by have := mSick_lt A; omega) (ms σ A F)) (fun v_ σ_ hq => ?_)
    obtain ⟨rfl, e9⟩ := hq
    have e9 := e9.symm
    subst e9
    have f8 := lfN_8 A
    refine z_top (y := ((lfN A : Nat) : Int)) rfl ?_
    show sE g_tt _ _ _ 16 [some (.ref 384), some (.int (iZ (fr : Int))), some (.int (iZ i))] [.int (iZ ((lfN A : Nat) : Int)), .int (iZ 0), .int (iZ i)] (ms σ A F)
    refine z_iconst dX7_round_16 ?_
    refine z_isub dX7_round_17 ?_
    refine s_callS (As := [.int (iZ i), .int (iZ 0), .int (iZ (((lfN A : Nat) : Int) - 1))]) (S := []) dX7_round_18 okX7_isIn mlX7_66 rfl (by omega) rfl (Nat.le_of_ble_eq_true rfl) (m_isIn (d := d - 1) (v := i) (a := 0) (b := ((lfN A : Nat) : Int) - 1) (by unfold inR at *; omega) (by unfold inR at *; omega) (by unfold inR at *; omega) (ms σ A F)) (fun v_ σ_ hq => ?_)
    obtain ⟨rfl, e9⟩ := hq
    have e9 := e9.symm
    subst e9
    show sE g_tt _ _ _ 21 [some (.ref 384), some (.int (iZ (fr : Int))), some (.int (iZ i))] [.int (iZ (if 0 ≤ i ∧ i ≤ ((lfN A : Nat) : Int) - 1 then 1 else 0))] (ms σ A F)
    refine z_if_eq (tgt := 42) dX7_round_21 (by decide) inR_01 (fun c_2 => ?_) (fun c_2 => ?_)
    · have c_2 := if01_0 c_2
      refine z_bipush dX7_round_42 (by decide +kernel) ?_
      exact s_iretZ dX7_round_44 rfl ⟨by (repeat (first | rw [if_pos (by omega)] | rw [if_neg (by omega)])), σ, F, rfl, eqX_rf σ, fS_rf h26⟩
    · have c_2 := if01_1 c_2
      refine q_aload_n dX7_round_24 rfl rfl ?_
      refine q_iload_n dX7_round_25 rfl rfl ?_
      refine s_callV (ci := 7) (a := 384) (As := [.int (iZ (fr : Int))]) (S := []) dX7_round_26 okX7_layRound mlX7_451 rfl (by omega) rfl (Nat.le_of_ble_eq_true rfl) (show kd 384 = 7 from rfl) (by decide) rfl (m_layRound (d := d - 1) (fr := fr) (by omega) hfr σ A F h26 hdu) (fun v_ σ_ hq => ?_)
      obtain ⟨rfl, σ2, F2, e9, hE2, hF2, hr2⟩ := hq
      subst e9
      have tb := oT_ok (okO_mLy A (left := lfN A) (fr := fr) hfr (fun q => lfN_1 hfr (by have := hdu fr hfr; omega)) 128)
      show sE g_tt _ _ _ 29 [some (.ref 384), some (.int (iZ (fr : Int))), some (.int (iZ i))] [.int (iZ (oT (mLy A (lfN A) fr 128)))] (ms σ2 A F2)
      refine z_iconst dX7_round_29 ?_
      refine z_icmp_eq (tgt := 42) dX7_round_30 (by decide) (by unfold inR at *; omega) (by unfold inR at *; omega) (fun c_3 => ?_) (fun c_3 => ?_)
      · refine z_bipush dX7_round_42 (by decide +kernel) ?_
        exact s_iretZ dX7_round_44 rfl ⟨by (repeat (first | rw [if_pos (by omega)] | rw [if_neg (by omega)])), σ2, F2, rfl, hE2, hF2⟩
      · refine q_aload_n dX7_round_33 rfl rfl ?_
        refine sg7 (kf := 34) (v := .ref 397) dX7_round_34 flX7_59 (show kd 384 = 7 from rfl) (by decide) rfl ?_
        refine q_iload_n dX7_round_37 rfl rfl ?_
        refine s_iald (n := 8) (x := lget (oL (mLy A (lfN A) fr 128)) i.toNat) dX7_round_38 (show kd 397 = 100 + 8 from rfl) (by omega) (by omega) (by decide) (lget_row hr2 (by rw [tb.2.2.2.2 (fun q => absurd (tb.2.2.1.2 q) (by omega))]; omega)) ?_
        refine q_goto (tgt := 44) dX7_round_39 (by decide) ?_
        exact s_iretZ dX7_round_44 rfl ⟨by (repeat (first | rw [if_pos (by omega)] | rw [if_neg (by omega)])), σ2, F2, rfl, hE2, hF2⟩
set_option maxHeartbeats 4000000 in
set_option maxRecDepth 100000 in
theorem m_round0 {d : Nat} (hd : 2 ≤ d) {h i : Int} (hh : inR h) (hno : ¬ (0 ≤ h ∧ h < 8)) (σ : gS) (A F : Nat → Int) : sC mX7_round d [.ref 384, .int (iZ h), .int (iZ i)] (ms σ A F) (fun r σ' => r = some (.int (iZ (-2))) ∧ σ' = ms σ A F) := by
  refine sC_of rfl (Nat.le_of_ble_eq_true rfl) ?_
  show sE g_tt _ _ _ 0 [some (.ref 384), some (.int (iZ h)), some (.int (iZ i))] [] (ms σ A F)
  refine q_iload_n dX7_round_0 rfl rfl ?_
  refine s_callS (As := [.int (iZ h)]) (S := []) dX7_round_1 okX7_isHouse mlX7_70 rfl (by omega) rfl (Nat.le_of_ble_eq_true rfl) (m_isHouse (d := d - 1) (by omega) (h := h) (by unfold inR at *; omega) (ms σ A F)) (fun v_ σ_ hq => ?_)
  obtain ⟨rfl, e9⟩ := hq
  have e9 := e9.symm
  subst e9
  show sE g_tt _ _ _ 4 [some (.ref 384), some (.int (iZ h)), some (.int (iZ i))] [.int (iZ (if 0 ≤ h ∧ h < 8 then 1 else 0))] (ms σ A F)
  refine z_if_eq (tgt := 42) dX7_round_4 (by decide) inR_01 (fun c_1 => ?_) (fun c_1 => ?_)
  · have c_1 := if01_0 c_1
    refine z_bipush dX7_round_42 (by decide +kernel) ?_
    exact s_iretZ dX7_round_44 rfl ⟨rfl, rfl⟩
  · have c_1 := if01_1 c_1
    exfalso
    omega
