/-! ===== the cart ===== -/
/-- whom the cart has been to, house h being next, at time t -/
def duT (A : Nat → Int) (h : Nat) (t : Int) (l : List Nat) : List Nat := if A (29 + h) = 0 ∨ A (29 + h) - 1 < t then l else l ++ [h]
theorem duT_len (A : Nat → Int) (h : Nat) (t : Int) (l : List Nat) : (duT A h t l).length ≤ l.length + 1 ∧ l.length ≤ (duT A h t l).length := by
  unfold duT; split
  · omega
  · simp
/-- a row holds a list -/
def lrow (f : Nat → Int) (l : List Nat) : Prop := ∀ (i : Nat) (x : Nat), l[i]? = some x → f i = (x : Int)
theorem lrow_nil (f : Nat → Int) : lrow f [] := fun i x h => by simp at h
theorem lrow_push {f : Nat → Int} {l : List Nat} (h : lrow f l) (x : Nat) : lrow (va_up f l.length (x : Int)) (l ++ [x]) := by
  intro i y hy
  by_cases e : i = l.length
  · subst e
    rw [va_up_self]
    simp at hy
    rw [hy]
  · rw [va_up_ne _ _ e]
    by_cases q : i < l.length
    · rw [List.getElem?_append_left q] at hy; exact h i y hy
    · rw [List.getElem?_eq_none (by simp; omega)] at hy
      cases hy
theorem sR_ne (σ : gS) {b x : Nat} (k : Nat) (z : Int) (h : x ≠ b) : (sR σ b k z).2.1 x = σ.2.1 x := up2_ne _ _ _ h
abbrev cEnd (σ : gS) (A F : Nat → Int) (l : List Nat) (σ' : gS) : Prop := ∃ σ2 F2, σ' = ms σ2 A F2 ∧ eqX σ σ2 ∧ fS F F2 ∧ F2 35 = ((l.length : Nat) : Int) ∧ lrow (σ2.2.1 396) l ∧ σ2.2.1 397 = σ.2.1 397
set_option maxHeartbeats 4000000 in
set_option maxRecDepth 100000 in
theorem m_isDue {d h : Nat} (hh : h < 8) {t : Int} (ht : 0 ≤ t ∧ t ≤ 1000) (σ : gS) (A F : Nat → Int) (h26 : 0 ≤ F 26) (hdu : ∀ k, k < 8 → 0 ≤ A (29 + k) ∧ A (29 + k) ≤ 31) {l : List Nat} (hF : F 35 = ((l.length : Nat) : Int)) (hl8 : l.length < 8) (hl : lrow (σ.2.1 396) l) : sC mX7_isDue d [.ref 384, .int (iZ (h : Int)), .int (iZ t)] (ms σ A F) (fun r σ' => r = some (.int (iZ (if A (29 + h) = 0 ∨ t ≤ A (29 + h) - 1 then 1 else 0))) ∧ cEnd σ A F (duT A h t l) σ') := by
  have hd8 := hdu h hh
  refine sC_of rfl (Nat.le_of_ble_eq_true rfl) ?_
  show sE g_tt _ _ _ 0 [some (.ref 384), some (.int (iZ (h : Int))), some (.int (iZ t))] [] (ms σ A F)
  refine q_aload_n dX7_isDue_0 rfl rfl ?_
  refine sg7 (kf := 0) (v := .ref 385) dX7_isDue_1 flX7_7 (show kd 384 = 7 from rfl) (by decide) rfl ?_
  refine z_bipush dX7_isDue_4 (by decide +kernel) ?_
  refine q_iload_n dX7_isDue_6 rfl rfl ?_
  refine z_iadd dX7_isDue_7 ?_
  refine s_iald (n := 1583) (x := A (29 + h)) dX7_isDue_8 (show kd 385 = 100 + 1583 from rfl) (by omega) (by omega) (by decide) rfl ?_
  refine z_if_ne (tgt := 14) dX7_isDue_9 (by decide) (by unfold inR at *; omega) (fun c_1 => ?_) (fun c_1 => ?_)
  · refine q_aload_n dX7_isDue_14 rfl rfl ?_
    refine sg7 (kf := 0) (v := .ref 385) dX7_isDue_15 flX7_7 (show kd 384 = 7 from rfl) (by decide) rfl ?_
    refine z_bipush dX7_isDue_18 (by decide +kernel) ?_
    refine q_iload_n dX7_isDue_20 rfl rfl ?_
    refine z_iadd dX7_isDue_21 ?_
    refine s_iald (n := 1583) (x := A (29 + h)) dX7_isDue_22 (show kd 385 = 100 + 1583 from rfl) (by omega) (by omega) (by decide) rfl ?_
    refine z_iconst dX7_isDue_23 ?_
    refine z_isub dX7_isDue_24 ?_
    refine q_iload_n dX7_isDue_25 rfl rfl ?_
    refine z_icmp_ge (tgt := 31) dX7_isDue_26 (by decide) (by unfold inR at *; omega) (by unfold inR at *; omega) (fun c_2 => ?_) (fun c_2 => ?_)
    · refine q_aload_n dX7_isDue_31 rfl rfl ?_
      refine sg7 (kf := 33) (v := .ref 396) dX7_isDue_32 flX7_56 (show kd 384 = 7 from rfl) (by decide) rfl ?_
      refine q_aload_n dX7_isDue_35 rfl rfl ?_
      refine sg7 (kf := 35) (v := .int (iZ ((l.length : Nat) : Int))) dX7_isDue_36 flX7_436 (show kd 384 = 7 from rfl) (by decide) (by show some (Value.int (iZ (F 35))) = _; rw [hF]) ?_
      refine q_iload_n dX7_isDue_39 rfl rfl ?_
      refine mo_ist (n := 8) dX7_isDue_40 (show kd 396 = 100 + 8 from rfl) (by decide) (by omega) (by omega) (by decide) ?_
      refine q_aload_n dX7_isDue_41 rfl rfl ?_
      refine q_dup dX7_isDue_42 rfl ?_
      refine sg7 (kf := 35) (v := .int (iZ ((l.length : Nat) : Int))) dX7_isDue_43 flX7_436 (show kd 384 = 7 from rfl) (by decide) (by show some (Value.int (iZ (F 35))) = _; rw [hF]) ?_
      refine z_iconst dX7_isDue_46 ?_
      refine z_iadd dX7_isDue_47 ?_
      refine mp (kf := 35) dX7_isDue_48 flX7_436 (by decide) ?_
      refine z_iconst dX7_isDue_51 ?_
      exact s_zret dX7_isDue_52 rfl (by omega) ⟨by (repeat (first | rw [if_pos (by omega)] | rw [if_neg (by omega)])), _, _, rfl, eqX_R σ (by decide) _ _, fS_up (fS_rf h26) (by omega) _, by unfold duT; rw [if_neg (by omega), va_up_self]; simp, by unfold duT; rw [if_neg (by omega)]; show lrow (up2 σ.2.1 396 l.length (h : Int) 396) _; rw [up2_eq]; exact lrow_push hl h, sR_ne _ _ _ (by decide)⟩
    · refine z_iconst dX7_isDue_29 ?_
      exact s_zret dX7_isDue_30 rfl (by omega) ⟨by (repeat (first | rw [if_pos (by omega)] | rw [if_neg (by omega)])), σ, F, rfl, eqX_rf σ, fS_rf h26, by unfold duT; rw [if_pos (by omega)]; exact hF, by unfold duT; rw [if_pos (by omega)]; exact hl, rfl⟩
  · refine z_iconst dX7_isDue_12 ?_
    exact s_zret dX7_isDue_13 rfl (by omega) ⟨by (repeat (first | rw [if_pos (by omega)] | rw [if_neg (by omega)])), σ, F, rfl, eqX_rf σ, fS_rf h26, by unfold duT; rw [if_pos (by omega)]; exact hF, by unfold duT; rw [if_pos (by omega)]; exact hl, rfl⟩
/-- where a round goes next -/
def rbT (tu k lo hi : Nat) : Int := if tu.testBit k then (hi : Int) + 1 else (lo : Int) - 1
def dst (x y : Nat) : Int := if (x : Int) - (y : Int) < 0 then -((x : Int) - (y : Int)) else (x : Int) - (y : Int)
/-- a round that goes on by the turns tu: when it is done, whom it has been to -/
def mRb (A : Nat → Int) (tu left : Nat) : Nat → Nat → Nat → Nat → Nat → Int → List Nat → Option (Int × List Nat)
  | 0, _, _, _, _, _, _ => none
  | f + 1, k, lo, hi, now, t, l =>
    if left ≤ l.length then some (t, l)
    else if k = 7 ∨ ¬ (0 ≤ rbT tu k lo hi ∧ rbT tu k lo hi < 8) then none
    else if A (29 + (rbT tu k lo hi).toNat) = 0 ∨ t + dst (rbT tu k lo hi).toNat now ≤ A (29 + (rbT tu k lo hi).toNat) - 1 then
      mRb A tu left f (k + 1) (if tu.testBit k then lo else (rbT tu k lo hi).toNat) (if tu.testBit k then (rbT tu k lo hi).toNat else hi) (rbT tu k lo hi).toNat (t + dst (rbT tu k lo hi).toNat now) (duT A (rbT tu k lo hi).toNat (t + dst (rbT tu k lo hi).toNat now) l)
    else none
/-- a round from a house -/
def mRd (A : Nat → Int) (left fr tu : Nat) : Option (Int × List Nat) :=
  if A (29 + fr) = 0 ∨ 0 ≤ A (29 + fr) - 1 then mRb A tu left 8 0 fr fr fr 0 (duT A fr 0 []) else none
def oT (x : Option (Int × List Nat)) : Int := match x with
  | none => -1
  | some q => q.1
def oL (x : Option (Int × List Nat)) : List Nat := match x with
  | none => []
  | some q => q.2
abbrev cRes (σ : gS) (A F : Nat → Int) (x : Option (Int × List Nat)) (σ' : gS) : Prop := ∃ σ2 F2, σ' = ms σ2 A F2 ∧ eqX σ σ2 ∧ fS F F2 ∧ σ2.2.1 397 = σ.2.1 397 ∧ (x ≠ none → F2 35 = (((oL x).length : Nat) : Int) ∧ lrow (σ2.2.1 396) (oL x))
set_option maxHeartbeats 4000000 in
set_option maxRecDepth 100000 in
theorem lp_roundBy {d tu left : Nat} {fr : Int} (hd : 2 ≤ d) (htu : tu < 128) (hlf : left ≤ 1000) (σ : gS) (A F : Nat → Int) (hdu : ∀ k, k < 8 → 0 ≤ A (29 + k) ∧ A (29 + k) ≤ 31) : ∀ (f : Nat) (k lo hi now : Nat) (t : Int) (l : List Nat) (σ1 : gS) (F1 : Nat → Int) (l9 : Option Value), k ≤ 7 → lo < 8 → hi < 8 → now < 8 → (0 ≤ t ∧ t ≤ 8 * (k : Int)) → l.length ≤ k + 1 → F1 35 = ((l.length : Nat) : Int) → lrow (σ1.2.1 396) l → eqX σ σ1 → fS F F1 → σ1.2.1 397 = σ.2.1 397 → 7 - (k : Int) < (f : Int) → sE g_tt mX7_roundBy d (fun r σ' => r = some (.int (iZ (oT (mRb A tu left (8 - k) k lo hi now t l)))) ∧ cRes σ A F (mRb A tu left (8 - k) k lo hi now t l) σ') 39 [some (.ref 384), some (.int (iZ fr)), some (.int (iZ (tu : Int))), some (.int (iZ (left : Int))), some (.int (iZ (lo : Int))), some (.int (iZ (hi : Int))), some (.int (iZ (now : Int))), some (.int (iZ t)), some (.int (iZ (k : Int))), l9] [] (ms σ1 A F1) := by
  intro f
  induction f with
  | zero =>
    intro k lo hi now t l σ1 F1 l9 hk hlo hhi hno ht hll hl1 hl2 hE1 hF1 h971 hf
    exact absurd hf (by omega)
  | succ f ih =>
    intro k lo hi now t l σ1 F1 l9 hk hlo hhi hno ht hll hl1 hl2 hE1 hF1 h971 hf
    by_cases hle : left ≤ l.length
    · refine q_aload_n dX7_roundBy_39 rfl rfl ?_
      refine sg7 (kf := 35) (v := .int (iZ ((l.length : Nat) : Int))) dX7_roundBy_40 flX7_436 (show kd 384 = 7 from rfl) (by decide) (by show some (Value.int (iZ (F1 35))) = _; rw [hl1]) ?_
      refine q_iload_n dX7_roundBy_43 rfl rfl ?_
      refine z_icmp_ge (tgt := 142) dX7_roundBy_44 (by decide) (by unfold inR at *; omega) (by unfold inR at *; omega) (fun c_1 => ?_) (fun c_1 => ?_)
      · refine q_iload dX7_roundBy_142 rfl ?_
        exact s_iretZ dX7_roundBy_144 rfl ⟨by rw [show 8 - k = (8 - (k + 1)) + 1 by omega, mRb, if_pos (by omega)]; rfl, σ1, F1, rfl, hE1, hF1, h971, by rw [show 8 - k = (8 - (k + 1)) + 1 by omega, mRb, if_pos (by omega)]; exact fun _ => ⟨hl1, hl2⟩⟩
      · exfalso
        omega
    · by_cases hb : tu.testBit k = true
      · have et : rbT tu k lo hi = (hi : Int) + 1 := if_pos hb
        by_cases hx : k = 7 ∨ ¬ (0 ≤ (hi : Int) + 1 ∧ (hi : Int) + 1 < 8)
        · refine q_aload_n dX7_roundBy_39 rfl rfl ?_
          refine sg7 (kf := 35) (v := .int (iZ ((l.length : Nat) : Int))) dX7_roundBy_40 flX7_436 (show kd 384 = 7 from rfl) (by decide) (by show some (Value.int (iZ (F1 35))) = _; rw [hl1]) ?_
          refine q_iload_n dX7_roundBy_43 rfl rfl ?_
          refine z_icmp_ge (tgt := 142) dX7_roundBy_44 (by decide) (by unfold inR at *; omega) (by unfold inR at *; omega) (fun c_1 => ?_) (fun c_1 => ?_)
          · exfalso
            omega
          · refine q_iload_n dX7_roundBy_47 rfl rfl ?_
            refine q_iload dX7_roundBy_48 rfl ?_
            refine s_callS (As := [.int (iZ (tu : Int)), .int (iZ (k : Int))]) (S := []) dX7_roundBy_50 okX7_has mlX7_228 rfl (by omega) rfl (Nat.le_of_ble_eq_true rfl) (m_has (d := d - 1) (m := tu) (k := k) (by unfold inR; omega) (by omega) (ms σ1 A F1)) (fun v_ σ_ hq => ?_)
            obtain ⟨rfl, e9⟩ := hq
            have e9 := e9.symm
            subst e9
            refine z_top (y := 1) (if_pos hb) ?_
            show sE g_tt _ _ _ 53 [some (.ref 384), some (.int (iZ fr)), some (.int (iZ (tu : Int))), some (.int (iZ (left : Int))), some (.int (iZ (lo : Int))), some (.int (iZ (hi : Int))), some (.int (iZ (now : Int))), some (.int (iZ t)), some (.int (iZ (k : Int))), l9] [.int (iZ 1)] (ms σ1 A F1)
            refine z_if_eq (tgt := 63) dX7_roundBy_53 (by decide) (by unfold inR at *; omega) (fun c_2 => ?_) (fun c_2 => ?_)
            · exfalso
              revert c_2
              decide
            · refine q_iload dX7_roundBy_56 rfl ?_
              refine z_iconst dX7_roundBy_58 ?_
              refine z_iadd dX7_roundBy_59 ?_
              refine q_goto (tgt := 67) dX7_roundBy_60 (by decide) ?_
              refine q_istore dX7_roundBy_67 (by decide) ?_
              show sE g_tt _ _ _ 69 [some (.ref 384), some (.int (iZ fr)), some (.int (iZ (tu : Int))), some (.int (iZ (left : Int))), some (.int (iZ (lo : Int))), some (.int (iZ (hi : Int))), some (.int (iZ (now : Int))), some (.int (iZ t)), some (.int (iZ (k : Int))), some (.int (iZ ((hi : Int) + 1)))] [] (ms σ1 A F1)
              refine q_iload dX7_roundBy_69 rfl ?_
              refine z_bipush dX7_roundBy_71 (by decide +kernel) ?_
              refine z_icmp_eq (tgt := 84) dX7_roundBy_73 (by decide) (by unfold inR at *; omega) (by unfold inR at *; omega) (fun c_3 => ?_) (fun c_3 => ?_)
              · refine z_iconst dX7_roundBy_84 ?_
                exact s_iretZ dX7_roundBy_85 rfl ⟨by rw [show 8 - k = (8 - (k + 1)) + 1 by omega, mRb, if_neg (by omega), if_pos (by rw [et]; omega)]; rfl, σ1, F1, rfl, hE1, hF1, h971, by rw [show 8 - k = (8 - (k + 1)) + 1 by omega, mRb, if_neg (by omega), if_pos (by rw [et]; omega)]; exact fun q => absurd rfl q⟩
              · refine q_iload dX7_roundBy_76 rfl ?_
                refine s_callS (As := [.int (iZ ((hi : Int) + 1))]) (S := []) dX7_roundBy_78 okX7_isHouse mlX7_70 rfl (by omega) rfl (Nat.le_of_ble_eq_true rfl) (m_isHouse (d := d - 1) (by omega) (h := (hi : Int) + 1) (by unfold inR at *; omega) (ms σ1 A F1)) (fun v_ σ_ hq => ?_)
                obtain ⟨rfl, e9⟩ := hq
                have e9 := e9.symm
                subst e9
                show sE g_tt _ _ _ 81 [some (.ref 384), some (.int (iZ fr)), some (.int (iZ (tu : Int))), some (.int (iZ (left : Int))), some (.int (iZ (lo : Int))), some (.int (iZ (hi : Int))), some (.int (iZ (now : Int))), some (.int (iZ t)), some (.int (iZ (k : Int))), some (.int (iZ ((hi : Int) + 1)))] [.int (iZ (if 0 ≤ (hi : Int) + 1 ∧ (hi : Int) + 1 < 8 then 1 else 0))] (ms σ1 A F1)
                refine z_if_ne (tgt := 86) dX7_roundBy_81 (by decide) inR_01 (fun c_4 => ?_) (fun c_4 => ?_)
                · have c_4 := if01_1 c_4
                  exfalso
                  omega
                · have c_4 := if01_0 c_4
                  refine z_iconst dX7_roundBy_84 ?_
                  exact s_iretZ dX7_roundBy_85 rfl ⟨by rw [show 8 - k = (8 - (k + 1)) + 1 by omega, mRb, if_neg (by omega), if_pos (by rw [et]; omega)]; rfl, σ1, F1, rfl, hE1, hF1, h971, by rw [show 8 - k = (8 - (k + 1)) + 1 by omega, mRb, if_neg (by omega), if_pos (by rw [et]; omega)]; exact fun q => absurd rfl q⟩
        · obtain ⟨x, ex⟩ : ∃ x : Nat, (hi : Int) + 1 = (x : Int) := ⟨((hi : Int) + 1).toNat, by omega⟩
          have hx8 : x < 8 := by omega
          have dr : 0 ≤ dst x now ∧ dst x now ≤ 8 := by unfold dst; split <;> omega
          refine q_aload_n dX7_roundBy_39 rfl rfl ?_
          refine sg7 (kf := 35) (v := .int (iZ ((l.length : Nat) : Int))) dX7_roundBy_40 flX7_436 (show kd 384 = 7 from rfl) (by decide) (by show some (Value.int (iZ (F1 35))) = _; rw [hl1]) ?_
          refine q_iload_n dX7_roundBy_43 rfl rfl ?_
          refine z_icmp_ge (tgt := 142) dX7_roundBy_44 (by decide) (by unfold inR at *; omega) (by unfold inR at *; omega) (fun c_1 => ?_) (fun c_1 => ?_)
          · exfalso
            omega
          · refine q_iload_n dX7_roundBy_47 rfl rfl ?_
            refine q_iload dX7_roundBy_48 rfl ?_
            refine s_callS (As := [.int (iZ (tu : Int)), .int (iZ (k : Int))]) (S := []) dX7_roundBy_50 okX7_has mlX7_228 rfl (by omega) rfl (Nat.le_of_ble_eq_true rfl) (m_has (d := d - 1) (m := tu) (k := k) (by unfold inR; omega) (by omega) (ms σ1 A F1)) (fun v_ σ_ hq => ?_)
            obtain ⟨rfl, e9⟩ := hq
            have e9 := e9.symm
            subst e9
            refine z_top (y := 1) (if_pos hb) ?_
            show sE g_tt _ _ _ 53 [some (.ref 384), some (.int (iZ fr)), some (.int (iZ (tu : Int))), some (.int (iZ (left : Int))), some (.int (iZ (lo : Int))), some (.int (iZ (hi : Int))), some (.int (iZ (now : Int))), some (.int (iZ t)), some (.int (iZ (k : Int))), l9] [.int (iZ 1)] (ms σ1 A F1)
            refine z_if_eq (tgt := 63) dX7_roundBy_53 (by decide) (by unfold inR at *; omega) (fun c_2 => ?_) (fun c_2 => ?_)
            · exfalso
              revert c_2
              decide
            · refine q_iload dX7_roundBy_56 rfl ?_
              refine z_iconst dX7_roundBy_58 ?_
              refine z_iadd dX7_roundBy_59 ?_
              refine z_top (y := (x : Int)) ex ?_
              refine q_goto (tgt := 67) dX7_roundBy_60 (by decide) ?_
              refine q_istore dX7_roundBy_67 (by decide) ?_
              show sE g_tt _ _ _ 69 [some (.ref 384), some (.int (iZ fr)), some (.int (iZ (tu : Int))), some (.int (iZ (left : Int))), some (.int (iZ (lo : Int))), some (.int (iZ (hi : Int))), some (.int (iZ (now : Int))), some (.int (iZ t)), some (.int (iZ (k : Int))), some (.int (iZ (x : Int)))] [] (ms σ1 A F1)
              refine q_iload dX7_roundBy_69 rfl ?_
              refine z_bipush dX7_roundBy_71 (by decide +kernel) ?_
              refine z_icmp_eq (tgt := 84) dX7_roundBy_73 (by decide) (by unfold inR at *; omega) (by unfold inR at *; omega) (fun c_3 => ?_) (fun c_3 => ?_)
              · exfalso
                omega
              · refine q_iload dX7_roundBy_76 rfl ?_
                refine s_callS (As := [.int (iZ (x : Int))]) (S := []) dX7_roundBy_78 okX7_isHouse mlX7_70 rfl (by omega) rfl (Nat.le_of_ble_eq_true rfl) (m_isHouse (d := d - 1) (by omega) (h := (x : Int)) (by unfold inR at *; omega) (ms σ1 A F1)) (fun v_ σ_ hq => ?_)
                obtain ⟨rfl, e9⟩ := hq
                have e9 := e9.symm
                subst e9
                show sE g_tt _ _ _ 81 [some (.ref 384), some (.int (iZ fr)), some (.int (iZ (tu : Int))), some (.int (iZ (left : Int))), some (.int (iZ (lo : Int))), some (.int (iZ (hi : Int))), some (.int (iZ (now : Int))), some (.int (iZ t)), some (.int (iZ (k : Int))), some (.int (iZ (x : Int)))] [.int (iZ (if 0 ≤ (x : Int) ∧ (x : Int) < 8 then 1 else 0))] (ms σ1 A F1)
                refine z_if_ne (tgt := 86) dX7_roundBy_81 (by decide) inR_01 (fun c_4 => ?_) (fun c_4 => ?_)
                · have c_4 := if01_1 c_4
                  refine q_iload dX7_roundBy_86 rfl ?_
                  refine q_iload dX7_roundBy_88 rfl ?_
                  refine q_iload dX7_roundBy_90 rfl ?_
                  refine z_isub dX7_roundBy_92 ?_
                  refine s_callS (As := [.int (iZ ((x : Int) - (now : Int)))]) (S := [.int (iZ t)]) dX7_roundBy_93 okX7_size mlX7_382 rfl (by omega) rfl (Nat.le_of_ble_eq_true rfl) (m_size (d := d - 1) (v := (x : Int) - (now : Int)) (by unfold inR; omega) (ms σ1 A F1)) (fun v_ σ_ hq => ?_)
                  obtain ⟨rfl, e9⟩ := hq
                  have e9 := e9.symm
                  subst e9
                  refine z_top (y := dst x now) rfl ?_
                  show sE g_tt _ _ _ 96 [some (.ref 384), some (.int (iZ fr)), some (.int (iZ (tu : Int))), some (.int (iZ (left : Int))), some (.int (iZ (lo : Int))), some (.int (iZ (hi : Int))), some (.int (iZ (now : Int))), some (.int (iZ t)), some (.int (iZ (k : Int))), some (.int (iZ (x : Int)))] [.int (iZ (dst x now)), .int (iZ t)] (ms σ1 A F1)
                  refine z_iadd dX7_roundBy_96 ?_
                  refine q_istore dX7_roundBy_97 (by decide) ?_
                  show sE g_tt _ _ _ 99 [some (.ref 384), some (.int (iZ fr)), some (.int (iZ (tu : Int))), some (.int (iZ (left : Int))), some (.int (iZ (lo : Int))), some (.int (iZ (hi : Int))), some (.int (iZ (now : Int))), some (.int (iZ (t + (dst x now)))), some (.int (iZ (k : Int))), some (.int (iZ (x : Int)))] [] (ms σ1 A F1)
                  refine q_iload dX7_roundBy_99 rfl ?_
                  refine q_istore dX7_roundBy_101 (by decide) ?_
                  show sE g_tt _ _ _ 103 [some (.ref 384), some (.int (iZ fr)), some (.int (iZ (tu : Int))), some (.int (iZ (left : Int))), some (.int (iZ (lo : Int))), some (.int (iZ (hi : Int))), some (.int (iZ (x : Int))), some (.int (iZ (t + (dst x now)))), some (.int (iZ (k : Int))), some (.int (iZ (x : Int)))] [] (ms σ1 A F1)
                  refine q_iload_n dX7_roundBy_103 rfl rfl ?_
                  refine q_iload dX7_roundBy_104 rfl ?_
                  refine s_callS (As := [.int (iZ (tu : Int)), .int (iZ (k : Int))]) (S := []) dX7_roundBy_106 okX7_has mlX7_228 rfl (by omega) rfl (Nat.le_of_ble_eq_true rfl) (m_has (d := d - 1) (m := tu) (k := k) (by unfold inR; omega) (by omega) (ms σ1 A F1)) (fun v_ σ_ hq => ?_)
                  obtain ⟨rfl, e9⟩ := hq
                  have e9 := e9.symm
                  subst e9
                  refine z_top (y := 1) (if_pos hb) ?_
                  show sE g_tt _ _ _ 109 [some (.ref 384), some (.int (iZ fr)), some (.int (iZ (tu : Int))), some (.int (iZ (left : Int))), some (.int (iZ (lo : Int))), some (.int (iZ (hi : Int))), some (.int (iZ (x : Int))), some (.int (iZ (t + (dst x now)))), some (.int (iZ (k : Int))), some (.int (iZ (x : Int)))] [.int (iZ 1)] (ms σ1 A F1)
                  refine z_if_eq (tgt := 119) dX7_roundBy_109 (by decide) (by unfold inR at *; omega) (fun c_5 => ?_) (fun c_5 => ?_)
                  · exfalso
                    revert c_5
                    decide
                  · refine q_iload dX7_roundBy_112 rfl ?_
                    refine q_istore dX7_roundBy_114 (by decide) ?_
                    show sE g_tt _ _ _ 116 [some (.ref 384), some (.int (iZ fr)), some (.int (iZ (tu : Int))), some (.int (iZ (left : Int))), some (.int (iZ (lo : Int))), some (.int (iZ (x : Int))), some (.int (iZ (x : Int))), some (.int (iZ (t + (dst x now)))), some (.int (iZ (k : Int))), some (.int (iZ (x : Int)))] [] (ms σ1 A F1)
                    refine q_goto (tgt := 123) dX7_roundBy_116 (by decide) ?_
                    refine q_aload_n dX7_roundBy_123 rfl rfl ?_
                    refine q_iload dX7_roundBy_124 rfl ?_
                    refine q_iload dX7_roundBy_126 rfl ?_
                    refine s_callV (ci := 7) (a := 384) (As := [.int (iZ (x : Int)), .int (iZ (t + (dst x now)))]) (S := []) dX7_roundBy_128 okX7_isDue mlX7_442 rfl (by omega) rfl (Nat.le_of_ble_eq_true rfl) (show kd 384 = 7 from rfl) (by decide) rfl (m_isDue (d := d - 1) (h := x) (t := t + dst x now) hx8 (by omega) σ1 A F1 hF1.2 hdu (l := l) hl1 (by omega) hl2) (fun v_ σ_ hq => ?_)
                    obtain ⟨rfl, σ2, F2, e9, hE2, hF2, hn2, hw2, h97⟩ := hq
                    subst e9
                    have hE3 := eqX_tr hE1 hE2
                    have hF3 := fS_tr hF1 hF2
                    show sE g_tt _ _ _ 131 [some (.ref 384), some (.int (iZ fr)), some (.int (iZ (tu : Int))), some (.int (iZ (left : Int))), some (.int (iZ (lo : Int))), some (.int (iZ (x : Int))), some (.int (iZ (x : Int))), some (.int (iZ (t + (dst x now)))), some (.int (iZ (k : Int))), some (.int (iZ (x : Int)))] [.int (iZ (if A (29 + x) = 0 ∨ t + dst x now ≤ A (29 + x) - 1 then 1 else 0))] (ms σ2 A F2)
                    refine z_if_ne (tgt := 136) dX7_roundBy_131 (by decide) inR_01 (fun c_6 => ?_) (fun c_6 => ?_)
                    · have c_6 := if01_1 c_6
                      refine z_iinc dX7_roundBy_136 rfl (by decide) ?_
                      show sE g_tt _ _ _ 139 [some (.ref 384), some (.int (iZ fr)), some (.int (iZ (tu : Int))), some (.int (iZ (left : Int))), some (.int (iZ (lo : Int))), some (.int (iZ (x : Int))), some (.int (iZ (x : Int))), some (.int (iZ (t + (dst x now)))), some (.int (iZ ((k : Int) + 1))), some (.int (iZ (x : Int)))] [] (ms σ2 A F2)
                      refine q_goto (tgt := 39) dX7_roundBy_139 (by decide) ?_
                      rw [show 8 - k = (8 - (k + 1)) + 1 by omega, mRb, if_neg (by omega), if_neg (by rw [et, ex]; omega), et, ex, Int.toNat_natCast, if_pos (by omega), if_pos hb, if_pos hb]
                      exact ih (k + 1) lo x x (t + dst x now) (duT A x (t + dst x now) l) σ2 F2 (some (.int (iZ (x : Int)))) (by omega) (by omega) (by omega) (by omega) (by omega) (by have := duT_len A x (t + dst x now) l; omega) hn2 hw2 hE3 hF3 (h97.trans h971) (by omega)
                    · have c_6 := if01_0 c_6
                      refine z_iconst dX7_roundBy_134 ?_
                      exact s_iretZ dX7_roundBy_135 rfl ⟨by rw [show 8 - k = (8 - (k + 1)) + 1 by omega, mRb, if_neg (by omega), if_neg (by rw [et, ex]; omega), et, ex, Int.toNat_natCast, if_neg (by omega)]; rfl, σ2, F2, rfl, hE3, hF3, h97.trans h971, by rw [show 8 - k = (8 - (k + 1)) + 1 by omega, mRb, if_neg (by omega), if_neg (by rw [et, ex]; omega), et, ex, Int.toNat_natCast, if_neg (by omega)]; exact fun q => absurd rfl q⟩
                · have c_4 := if01_0 c_4
                  exfalso
                  omega
      · have et : rbT tu k lo hi = (lo : Int) - 1 := if_neg hb
        by_cases hx : k = 7 ∨ ¬ (0 ≤ (lo : Int) - 1 ∧ (lo : Int) - 1 < 8)
        · refine q_aload_n dX7_roundBy_39 rfl rfl ?_
          refine sg7 (kf := 35) (v := .int (iZ ((l.length : Nat) : Int))) dX7_roundBy_40 flX7_436 (show kd 384 = 7 from rfl) (by decide) (by show some (Value.int (iZ (F1 35))) = _; rw [hl1]) ?_
          refine q_iload_n dX7_roundBy_43 rfl rfl ?_
          refine z_icmp_ge (tgt := 142) dX7_roundBy_44 (by decide) (by unfold inR at *; omega) (by unfold inR at *; omega) (fun c_1 => ?_) (fun c_1 => ?_)
          · exfalso
            omega
          · refine q_iload_n dX7_roundBy_47 rfl rfl ?_
            refine q_iload dX7_roundBy_48 rfl ?_
            refine s_callS (As := [.int (iZ (tu : Int)), .int (iZ (k : Int))]) (S := []) dX7_roundBy_50 okX7_has mlX7_228 rfl (by omega) rfl (Nat.le_of_ble_eq_true rfl) (m_has (d := d - 1) (m := tu) (k := k) (by unfold inR; omega) (by omega) (ms σ1 A F1)) (fun v_ σ_ hq => ?_)
            obtain ⟨rfl, e9⟩ := hq
            have e9 := e9.symm
            subst e9
            refine z_top (y := 0) (if_neg hb) ?_
            show sE g_tt _ _ _ 53 [some (.ref 384), some (.int (iZ fr)), some (.int (iZ (tu : Int))), some (.int (iZ (left : Int))), some (.int (iZ (lo : Int))), some (.int (iZ (hi : Int))), some (.int (iZ (now : Int))), some (.int (iZ t)), some (.int (iZ (k : Int))), l9] [.int (iZ 0)] (ms σ1 A F1)
            refine z_if_eq (tgt := 63) dX7_roundBy_53 (by decide) (by unfold inR at *; omega) (fun c_2 => ?_) (fun c_2 => ?_)
            · refine q_iload dX7_roundBy_63 rfl ?_
              refine z_iconst dX7_roundBy_65 ?_
              refine z_isub dX7_roundBy_66 ?_
              refine q_istore dX7_roundBy_67 (by decide) ?_
              show sE g_tt _ _ _ 69 [some (.ref 384), some (.int (iZ fr)), some (.int (iZ (tu : Int))), some (.int (iZ (left : Int))), some (.int (iZ (lo : Int))), some (.int (iZ (hi : Int))), some (.int (iZ (now : Int))), some (.int (iZ t)), some (.int (iZ (k : Int))), some (.int (iZ ((lo : Int) - 1)))] [] (ms σ1 A F1)
              refine q_iload dX7_roundBy_69 rfl ?_
              refine z_bipush dX7_roundBy_71 (by decide +kernel) ?_
              refine z_icmp_eq (tgt := 84) dX7_roundBy_73 (by decide) (by unfold inR at *; omega) (by unfold inR at *; omega) (fun c_3 => ?_) (fun c_3 => ?_)
              · refine z_iconst dX7_roundBy_84 ?_
                exact s_iretZ dX7_roundBy_85 rfl ⟨by rw [show 8 - k = (8 - (k + 1)) + 1 by omega, mRb, if_neg (by omega), if_pos (by rw [et]; omega)]; rfl, σ1, F1, rfl, hE1, hF1, h971, by rw [show 8 - k = (8 - (k + 1)) + 1 by omega, mRb, if_neg (by omega), if_pos (by rw [et]; omega)]; exact fun q => absurd rfl q⟩
              · refine q_iload dX7_roundBy_76 rfl ?_
                refine s_callS (As := [.int (iZ ((lo : Int) - 1))]) (S := []) dX7_roundBy_78 okX7_isHouse mlX7_70 rfl (by omega) rfl (Nat.le_of_ble_eq_true rfl) (m_isHouse (d := d - 1) (by omega) (h := (lo : Int) - 1) (by unfold inR at *; omega) (ms σ1 A F1)) (fun v_ σ_ hq => ?_)
                obtain ⟨rfl, e9⟩ := hq
                have e9 := e9.symm
                subst e9
                show sE g_tt _ _ _ 81 [some (.ref 384), some (.int (iZ fr)), some (.int (iZ (tu : Int))), some (.int (iZ (left : Int))), some (.int (iZ (lo : Int))), some (.int (iZ (hi : Int))), some (.int (iZ (now : Int))), some (.int (iZ t)), some (.int (iZ (k : Int))), some (.int (iZ ((lo : Int) - 1)))] [.int (iZ (if 0 ≤ (lo : Int) - 1 ∧ (lo : Int) - 1 < 8 then 1 else 0))] (ms σ1 A F1)
                refine z_if_ne (tgt := 86) dX7_roundBy_81 (by decide) inR_01 (fun c_4 => ?_) (fun c_4 => ?_)
                · have c_4 := if01_1 c_4
                  exfalso
                  omega
                · have c_4 := if01_0 c_4
                  refine z_iconst dX7_roundBy_84 ?_
                  exact s_iretZ dX7_roundBy_85 rfl ⟨by rw [show 8 - k = (8 - (k + 1)) + 1 by omega, mRb, if_neg (by omega), if_pos (by rw [et]; omega)]; rfl, σ1, F1, rfl, hE1, hF1, h971, by rw [show 8 - k = (8 - (k + 1)) + 1 by omega, mRb, if_neg (by omega), if_pos (by rw [et]; omega)]; exact fun q => absurd rfl q⟩
            · exfalso
              revert c_2
              decide
        · obtain ⟨x, ex⟩ : ∃ x : Nat, (lo : Int) - 1 = (x : Int) := ⟨((lo : Int) - 1).toNat, by omega⟩
          have hx8 : x < 8 := by omega
          have dr : 0 ≤ dst x now ∧ dst x now ≤ 8 := by unfold dst; split <;> omega
          refine q_aload_n dX7_roundBy_39 rfl rfl ?_
          refine sg7 (kf := 35) (v := .int (iZ ((l.length : Nat) : Int))) dX7_roundBy_40 flX7_436 (show kd 384 = 7 from rfl) (by decide) (by show some (Value.int (iZ (F1 35))) = _; rw [hl1]) ?_
          refine q_iload_n dX7_roundBy_43 rfl rfl ?_
          refine z_icmp_ge (tgt := 142) dX7_roundBy_44 (by decide) (by unfold inR at *; omega) (by unfold inR at *; omega) (fun c_1 => ?_) (fun c_1 => ?_)
          · exfalso
            omega
          · refine q_iload_n dX7_roundBy_47 rfl rfl ?_
            refine q_iload dX7_roundBy_48 rfl ?_
            refine s_callS (As := [.int (iZ (tu : Int)), .int (iZ (k : Int))]) (S := []) dX7_roundBy_50 okX7_has mlX7_228 rfl (by omega) rfl (Nat.le_of_ble_eq_true rfl) (m_has (d := d - 1) (m := tu) (k := k) (by unfold inR; omega) (by omega) (ms σ1 A F1)) (fun v_ σ_ hq => ?_)
            obtain ⟨rfl, e9⟩ := hq
            have e9 := e9.symm
            subst e9
            refine z_top (y := 0) (if_neg hb) ?_
            show sE g_tt _ _ _ 53 [some (.ref 384), some (.int (iZ fr)), some (.int (iZ (tu : Int))), some (.int (iZ (left : Int))), some (.int (iZ (lo : Int))), some (.int (iZ (hi : Int))), some (.int (iZ (now : Int))), some (.int (iZ t)), some (.int (iZ (k : Int))), l9] [.int (iZ 0)] (ms σ1 A F1)
            refine z_if_eq (tgt := 63) dX7_roundBy_53 (by decide) (by unfold inR at *; omega) (fun c_2 => ?_) (fun c_2 => ?_)
            · refine q_iload dX7_roundBy_63 rfl ?_
              refine z_iconst dX7_roundBy_65 ?_
              refine z_isub dX7_roundBy_66 ?_
              refine z_top (y := (x : Int)) ex ?_
              refine q_istore dX7_roundBy_67 (by decide) ?_
              show sE g_tt _ _ _ 69 [some (.ref 384), some (.int (iZ fr)), some (.int (iZ (tu : Int))), some (.int (iZ (left : Int))), some (.int (iZ (lo : Int))), some (.int (iZ (hi : Int))), some (.int (iZ (now : Int))), some (.int (iZ t)), some (.int (iZ (k : Int))), some (.int (iZ (x : Int)))] [] (ms σ1 A F1)
              refine q_iload dX7_roundBy_69 rfl ?_
              refine z_bipush dX7_roundBy_71 (by decide +kernel) ?_
              refine z_icmp_eq (tgt := 84) dX7_roundBy_73 (by decide) (by unfold inR at *; omega) (by unfold inR at *; omega) (fun c_3 => ?_) (fun c_3 => ?_)
              · exfalso
                omega
              · refine q_iload dX7_roundBy_76 rfl ?_
                refine s_callS (As := [.int (iZ (x : Int))]) (S := []) dX7_roundBy_78 okX7_isHouse mlX7_70 rfl (by omega) rfl (Nat.le_of_ble_eq_true rfl) (m_isHouse (d := d - 1) (by omega) (h := (x : Int)) (by unfold inR at *; omega) (ms σ1 A F1)) (fun v_ σ_ hq => ?_)
                obtain ⟨rfl, e9⟩ := hq
                have e9 := e9.symm
                subst e9
                show sE g_tt _ _ _ 81 [some (.ref 384), some (.int (iZ fr)), some (.int (iZ (tu : Int))), some (.int (iZ (left : Int))), some (.int (iZ (lo : Int))), some (.int (iZ (hi : Int))), some (.int (iZ (now : Int))), some (.int (iZ t)), some (.int (iZ (k : Int))), some (.int (iZ (x : Int)))] [.int (iZ (if 0 ≤ (x : Int) ∧ (x : Int) < 8 then 1 else 0))] (ms σ1 A F1)
                refine z_if_ne (tgt := 86) dX7_roundBy_81 (by decide) inR_01 (fun c_4 => ?_) (fun c_4 => ?_)
                · have c_4 := if01_1 c_4
                  refine q_iload dX7_roundBy_86 rfl ?_
                  refine q_iload dX7_roundBy_88 rfl ?_
                  refine q_iload dX7_roundBy_90 rfl ?_
                  refine z_isub dX7_roundBy_92 ?_
                  refine s_callS (As := [.int (iZ ((x : Int) - (now : Int)))]) (S := [.int (iZ t)]) dX7_roundBy_93 okX7_size mlX7_382 rfl (by omega) rfl (Nat.le_of_ble_eq_true rfl) (m_size (d := d - 1) (v := (x : Int) - (now : Int)) (by unfold inR; omega) (ms σ1 A F1)) (fun v_ σ_ hq => ?_)
                  obtain ⟨rfl, e9⟩ := hq
                  have e9 := e9.symm
                  subst e9
                  refine z_top (y := dst x now) rfl ?_
                  show sE g_tt _ _ _ 96 [some (.ref 384), some (.int (iZ fr)), some (.int (iZ (tu : Int))), some (.int (iZ (left : Int))), some (.int (iZ (lo : Int))), some (.int (iZ (hi : Int))), some (.int (iZ (now : Int))), some (.int (iZ t)), some (.int (iZ (k : Int))), some (.int (iZ (x : Int)))] [.int (iZ (dst x now)), .int (iZ t)] (ms σ1 A F1)
                  refine z_iadd dX7_roundBy_96 ?_
                  refine q_istore dX7_roundBy_97 (by decide) ?_
                  show sE g_tt _ _ _ 99 [some (.ref 384), some (.int (iZ fr)), some (.int (iZ (tu : Int))), some (.int (iZ (left : Int))), some (.int (iZ (lo : Int))), some (.int (iZ (hi : Int))), some (.int (iZ (now : Int))), some (.int (iZ (t + (dst x now)))), some (.int (iZ (k : Int))), some (.int (iZ (x : Int)))] [] (ms σ1 A F1)
                  refine q_iload dX7_roundBy_99 rfl ?_
                  refine q_istore dX7_roundBy_101 (by decide) ?_
                  show sE g_tt _ _ _ 103 [some (.ref 384), some (.int (iZ fr)), some (.int (iZ (tu : Int))), some (.int (iZ (left : Int))), some (.int (iZ (lo : Int))), some (.int (iZ (hi : Int))), some (.int (iZ (x : Int))), some (.int (iZ (t + (dst x now)))), some (.int (iZ (k : Int))), some (.int (iZ (x : Int)))] [] (ms σ1 A F1)
                  refine q_iload_n dX7_roundBy_103 rfl rfl ?_
                  refine q_iload dX7_roundBy_104 rfl ?_
                  refine s_callS (As := [.int (iZ (tu : Int)), .int (iZ (k : Int))]) (S := []) dX7_roundBy_106 okX7_has mlX7_228 rfl (by omega) rfl (Nat.le_of_ble_eq_true rfl) (m_has (d := d - 1) (m := tu) (k := k) (by unfold inR; omega) (by omega) (ms σ1 A F1)) (fun v_ σ_ hq => ?_)
                  obtain ⟨rfl, e9⟩ := hq
                  have e9 := e9.symm
                  subst e9
                  refine z_top (y := 0) (if_neg hb) ?_
                  show sE g_tt _ _ _ 109 [some (.ref 384), some (.int (iZ fr)), some (.int (iZ (tu : Int))), some (.int (iZ (left : Int))), some (.int (iZ (lo : Int))), some (.int (iZ (hi : Int))), some (.int (iZ (x : Int))), some (.int (iZ (t + (dst x now)))), some (.int (iZ (k : Int))), some (.int (iZ (x : Int)))] [.int (iZ 0)] (ms σ1 A F1)
                  refine z_if_eq (tgt := 119) dX7_roundBy_109 (by decide) (by unfold inR at *; omega) (fun c_5 => ?_) (fun c_5 => ?_)
                  · refine q_iload dX7_roundBy_119 rfl ?_
                    refine q_istore dX7_roundBy_121 (by decide) ?_
                    show sE g_tt _ _ _ 123 [some (.ref 384), some (.int (iZ fr)), some (.int (iZ (tu : Int))), some (.int (iZ (left : Int))), some (.int (iZ (x : Int))), some (.int (iZ (hi : Int))), some (.int (iZ (x : Int))), some (.int (iZ (t + (dst x now)))), some (.int (iZ (k : Int))), some (.int (iZ (x : Int)))] [] (ms σ1 A F1)
                    refine q_aload_n dX7_roundBy_123 rfl rfl ?_
                    refine q_iload dX7_roundBy_124 rfl ?_
                    refine q_iload dX7_roundBy_126 rfl ?_
                    refine s_callV (ci := 7) (a := 384) (As := [.int (iZ (x : Int)), .int (iZ (t + (dst x now)))]) (S := []) dX7_roundBy_128 okX7_isDue mlX7_442 rfl (by omega) rfl (Nat.le_of_ble_eq_true rfl) (show kd 384 = 7 from rfl) (by decide) rfl (m_isDue (d := d - 1) (h := x) (t := t + dst x now) hx8 (by omega) σ1 A F1 hF1.2 hdu (l := l) hl1 (by omega) hl2) (fun v_ σ_ hq => ?_)
                    obtain ⟨rfl, σ2, F2, e9, hE2, hF2, hn2, hw2, h97⟩ := hq
                    subst e9
                    have hE3 := eqX_tr hE1 hE2
                    have hF3 := fS_tr hF1 hF2
                    show sE g_tt _ _ _ 131 [some (.ref 384), some (.int (iZ fr)), some (.int (iZ (tu : Int))), some (.int (iZ (left : Int))), some (.int (iZ (x : Int))), some (.int (iZ (hi : Int))), some (.int (iZ (x : Int))), some (.int (iZ (t + (dst x now)))), some (.int (iZ (k : Int))), some (.int (iZ (x : Int)))] [.int (iZ (if A (29 + x) = 0 ∨ t + dst x now ≤ A (29 + x) - 1 then 1 else 0))] (ms σ2 A F2)
                    refine z_if_ne (tgt := 136) dX7_roundBy_131 (by decide) inR_01 (fun c_6 => ?_) (fun c_6 => ?_)
                    · have c_6 := if01_1 c_6
                      refine z_iinc dX7_roundBy_136 rfl (by decide) ?_
                      show sE g_tt _ _ _ 139 [some (.ref 384), some (.int (iZ fr)), some (.int (iZ (tu : Int))), some (.int (iZ (left : Int))), some (.int (iZ (x : Int))), some (.int (iZ (hi : Int))), some (.int (iZ (x : Int))), some (.int (iZ (t + (dst x now)))), some (.int (iZ ((k : Int) + 1))), some (.int (iZ (x : Int)))] [] (ms σ2 A F2)
                      refine q_goto (tgt := 39) dX7_roundBy_139 (by decide) ?_
                      rw [show 8 - k = (8 - (k + 1)) + 1 by omega, mRb, if_neg (by omega), if_neg (by rw [et, ex]; omega), et, ex, Int.toNat_natCast, if_pos (by omega), if_neg hb, if_neg hb]
                      exact ih (k + 1) x hi x (t + dst x now) (duT A x (t + dst x now) l) σ2 F2 (some (.int (iZ (x : Int)))) (by omega) (by omega) (by omega) (by omega) (by omega) (by have := duT_len A x (t + dst x now) l; omega) hn2 hw2 hE3 hF3 (h97.trans h971) (by omega)
                    · have c_6 := if01_0 c_6
                      refine z_iconst dX7_roundBy_134 ?_
                      exact s_iretZ dX7_roundBy_135 rfl ⟨by rw [show 8 - k = (8 - (k + 1)) + 1 by omega, mRb, if_neg (by omega), if_neg (by rw [et, ex]; omega), et, ex, Int.toNat_natCast, if_neg (by omega)]; rfl, σ2, F2, rfl, hE3, hF3, h97.trans h971, by rw [show 8 - k = (8 - (k + 1)) + 1 by omega, mRb, if_neg (by omega), if_neg (by rw [et, ex]; omega), et, ex, Int.toNat_natCast, if_neg (by omega)]; exact fun q => absurd rfl q⟩
                  · exfalso
                    revert c_5
                    decide
                · have c_4 := if01_0 c_4
                  exfalso
                  omega
            · exfalso
              revert c_2
              decide
theorem mSick_lt (A : Nat → Int) : mSick A 8 < 256 := by
  have h : ∀ n, mSick A n < 2 ^ n := by
    intro n
    induction n with
    | zero => exact Nat.one_pos
    | succ n ih =>
      rw [mSick]
      refine Nat.or_lt_two_pow (Nat.lt_of_lt_of_le ih (Nat.pow_le_pow_right (by decide) (by omega))) ?_
      split
      · exact Nat.pow_lt_pow_right (by decide) (by omega)
      · exact Nat.two_pow_pos _
  exact h 8
theorem mBits_lt : ∀ n m : Nat, m < 256 → mBits n m ≤ n := fun n m _ => mBits_le n m
set_option maxHeartbeats 4000000 in
set_option maxRecDepth 100000 in
theorem m_roundBy {d fr tu : Nat} (hd : 3 ≤ d) (hfr : fr < 8) (htu : tu < 128) (σ : gS) (A F : Nat → Int) (h26 : 0 ≤ F 26) (hdu : ∀ k, k < 8 → 0 ≤ A (29 + k) ∧ A (29 + k) ≤ 31) : sC mX7_roundBy d [.ref 384, .int (iZ (fr : Int)), .int (iZ (tu : Int))] (ms σ A F) (fun r σ' => r = some (.int (iZ (oT (mRd A (mBits ((mSick A 8) + 1) (mSick A 8)) fr tu)))) ∧ cRes σ A F (mRd A (mBits ((mSick A 8) + 1) (mSick A 8)) fr tu) σ') := by
  refine sC_of rfl (Nat.le_of_ble_eq_true rfl) ?_
  show sE g_tt _ _ _ 0 [some (.ref 384), some (.int (iZ (fr : Int))), some (.int (iZ (tu : Int))), none, none, none, none, none, none, none] [] (ms σ A F)
  refine q_aload_n dX7_roundBy_0 rfl rfl ?_
  refine s_callV (ci := 7) (a := 384) (As := []) (S := []) dX7_roundBy_1 okX7_sick mlX7_439 rfl (by omega) rfl (Nat.le_of_ble_eq_true rfl) (show kd 384 = 7 from rfl) (by decide) rfl (m_sick (d := d - 1) σ A F (fun k hk => by have := hdu k hk; unfold inR; omega)) (fun v_ σ_ hq => ?_)
  obtain ⟨rfl, e9⟩ := hq
  have e9 := e9.symm
  subst e9
  show sE g_tt _ _ _ 4 [some (.ref 384), some (.int (iZ (fr : Int))), some (.int (iZ (tu : Int))), none, none, none, none, none, none, none] [.int (iZ (((mSick A 8) : Nat) : Int))] (ms σ A F)
  refine s_callS (As := [.int (iZ (((mSick A 8) : Nat) : Int))]) (S := []) dX7_roundBy_4 okX7_bits mlX7_277 rfl (by omega) rfl (Nat.le_of_ble_eq_true rfl) (m_bits (d := d - 1) (m := (mSick A 8)) (by have := mSick_lt A; omega) (ms σ A F)) (fun v_ σ_ hq => ?_)
  obtain ⟨rfl, e9⟩ := hq
  have e9 := e9.symm
  subst e9
  show sE g_tt _ _ _ 7 [some (.ref 384), some (.int (iZ (fr : Int))), some (.int (iZ (tu : Int))), none, none, none, none, none, none, none] [.int (iZ (((mBits ((mSick A 8) + 1) (mSick A 8)) : Nat) : Int))] (ms σ A F)
  refine q_istore_n dX7_roundBy_7 rfl (by decide) ?_
  show sE g_tt _ _ _ 8 [some (.ref 384), some (.int (iZ (fr : Int))), some (.int (iZ (tu : Int))), some (.int (iZ (((mBits ((mSick A 8) + 1) (mSick A 8)) : Nat) : Int))), none, none, none, none, none, none] [] (ms σ A F)
  refine q_iload_n dX7_roundBy_8 rfl rfl ?_
  refine q_istore dX7_roundBy_9 (by decide) ?_
  show sE g_tt _ _ _ 11 [some (.ref 384), some (.int (iZ (fr : Int))), some (.int (iZ (tu : Int))), some (.int (iZ (((mBits ((mSick A 8) + 1) (mSick A 8)) : Nat) : Int))), some (.int (iZ (fr : Int))), none, none, none, none, none] [] (ms σ A F)
  refine q_iload_n dX7_roundBy_11 rfl rfl ?_
  refine q_istore dX7_roundBy_12 (by decide) ?_
  show sE g_tt _ _ _ 14 [some (.ref 384), some (.int (iZ (fr : Int))), some (.int (iZ (tu : Int))), some (.int (iZ (((mBits ((mSick A 8) + 1) (mSick A 8)) : Nat) : Int))), some (.int (iZ (fr : Int))), some (.int (iZ (fr : Int))), none, none, none, none] [] (ms σ A F)
  refine q_iload_n dX7_roundBy_14 rfl rfl ?_
  refine q_istore dX7_roundBy_15 (by decide) ?_
  show sE g_tt _ _ _ 17 [some (.ref 384), some (.int (iZ (fr : Int))), some (.int (iZ (tu : Int))), some (.int (iZ (((mBits ((mSick A 8) + 1) (mSick A 8)) : Nat) : Int))), some (.int (iZ (fr : Int))), some (.int (iZ (fr : Int))), some (.int (iZ (fr : Int))), none, none, none] [] (ms σ A F)
  refine z_iconst dX7_roundBy_17 ?_
  refine q_istore dX7_roundBy_18 (by decide) ?_
  show sE g_tt _ _ _ 20 [some (.ref 384), some (.int (iZ (fr : Int))), some (.int (iZ (tu : Int))), some (.int (iZ (((mBits ((mSick A 8) + 1) (mSick A 8)) : Nat) : Int))), some (.int (iZ (fr : Int))), some (.int (iZ (fr : Int))), some (.int (iZ (fr : Int))), some (.int (iZ 0)), none, none] [] (ms σ A F)
  refine q_aload_n dX7_roundBy_20 rfl rfl ?_
  refine z_iconst dX7_roundBy_21 ?_
  refine mp (kf := 35) dX7_roundBy_22 flX7_436 (by decide) ?_
  refine q_aload_n dX7_roundBy_25 rfl rfl ?_
  refine q_iload_n dX7_roundBy_26 rfl rfl ?_
  refine z_iconst dX7_roundBy_27 ?_
  refine s_callV (ci := 7) (a := 384) (As := [.int (iZ (fr : Int)), .int (iZ 0)]) (S := []) dX7_roundBy_28 okX7_isDue mlX7_442 rfl (by omega) rfl (Nat.le_of_ble_eq_true rfl) (show kd 384 = 7 from rfl) (by decide) rfl (m_isDue (d := d - 1) (h := fr) (t := 0) hfr (by omega) σ A (va_up F 35 0) h26 hdu (l := []) rfl (by decide) (lrow_nil _)) (fun v_ σ_ hq => ?_)
  obtain ⟨rfl, σ2, F2, e9, hE2, hF2, hn2, hw2, h97⟩ := hq
  subst e9
  have hF3 : fS F F2 := fS_tr (fS_up (fS_rf h26) (by omega) 0) hF2
  show sE g_tt _ _ _ 31 [some (.ref 384), some (.int (iZ (fr : Int))), some (.int (iZ (tu : Int))), some (.int (iZ (((mBits ((mSick A 8) + 1) (mSick A 8)) : Nat) : Int))), some (.int (iZ (fr : Int))), some (.int (iZ (fr : Int))), some (.int (iZ (fr : Int))), some (.int (iZ 0)), none, none] [.int (iZ (if A (29 + fr) = 0 ∨ 0 ≤ A (29 + fr) - 1 then 1 else 0))] (ms σ2 A F2)
  refine z_if_ne (tgt := 36) dX7_roundBy_31 (by decide) inR_01 (fun c_1 => ?_) (fun c_1 => ?_)
  · have c_1 := if01_1 c_1
    refine z_iconst dX7_roundBy_36 ?_
    refine q_istore dX7_roundBy_37 (by decide) ?_
    show sE g_tt _ _ _ 39 [some (.ref 384), some (.int (iZ (fr : Int))), some (.int (iZ (tu : Int))), some (.int (iZ (((mBits ((mSick A 8) + 1) (mSick A 8)) : Nat) : Int))), some (.int (iZ (fr : Int))), some (.int (iZ (fr : Int))), some (.int (iZ (fr : Int))), some (.int (iZ 0)), some (.int (iZ 0)), none] [] (ms σ2 A F2)
    unfold mRd
    rw [if_pos (by omega)]
    exact lp_roundBy (by omega) htu (by have := mSick_lt A; have := mBits_le ((mSick A 8) + 1) (mSick A 8); omega) σ A F hdu 8 0 fr fr fr 0 (duT A fr 0 []) σ2 F2 _ (by omega) hfr hfr hfr (by omega) (by have := (duT_len A fr 0 []).1; simpa using this) hn2 hw2 hE2 hF3 h97 (by omega)
  · have c_1 := if01_0 c_1
    refine z_iconst dX7_roundBy_34 ?_
    exact s_iretZ dX7_roundBy_35 rfl ⟨by unfold mRd; rw [if_neg (by omega)]; rfl, σ2, F2, rfl, hE2, hF3, h97, by unfold mRd; rw [if_neg (by omega)]; exact fun q => absurd rfl q⟩
