/-! ===== text() of the class ===== -/
theorem kd_sl {tx : Nat} (h : tx < 4) : kd (340 + 6 * tx) = 4 := by
  rcases (by omega : tx = 0 ∨ tx = 1 ∨ tx = 2 ∨ tx = 3) with e | e | e | e <;> subst e <;> rfl
theorem tkA_ran (b : Nat → Int) (n k : Nat) : 0 ≤ tkA b n k ∧ tkA b n k ≤ 40 := by
  show 0 ≤ tkT b n (tkS b n k) ∧ tkT b n (tkS b n k) ≤ 40
  unfold tkT
  split
  · exact ⟨by decide, by decide⟩
  split
  · have := fW_ran b (tkS b n k) (lEnd b n (n - tkS b n k) (tkS b n k) - tkS b n k) 25 (Nat.le_refl _)
    omega
  split
  · exact ⟨by decide, by decide⟩
  split
  · exact ⟨by decide, by decide⟩
  split
  · exact ⟨by decide, by decide⟩
  have := (sIx_c (b (tkS b n k))).2.2
  split
  · exact ⟨by decide, by decide⟩
  · omega
theorem tk_end {b : Nat → Int} {n k : Nat} (h : tkS b n k = n) : tkA b n k = 39 := by
  show tkT b n (tkS b n k) = 39
  unfold tkT
  rw [if_pos (by omega)]
theorem rdK_lx {σ σ1 : gS} {b : Nat → Int} {n k x : Nat} (hx : kd x = 4) (hk : k ≤ n) (hn3 : n ≤ 300) (he : tkS b n k = n) (lx : lxR σ σ1 (k + 1) n (tkA b n) (stA b n) (nuA b n)) : rdK σ1 x k (tkA b n) (stA b n) (nuA b n) :=
  ⟨hx, by rw [lx.2.2.1]; omega, by omega, tk_end he, fun i hi => ⟨(lx.2.2.2.2 i (by omega)).1, (lx.2.2.2.2 i (by omega)).2.1, (lx.2.2.2.2 i (by omega)).2.2, nuA_ran b n i, ⟨by show 0 ≤ ((tkS b n i : Nat) : Int); omega, by have := (tkS_ran b n i).2; show ((tkS b n i : Nat) : Int) ≤ 300; omega⟩, tkA_ran b n i⟩⟩
/-- the text at x as it was read -/
def txF (σ : gS) (x : Nat) (tk nu : Nat → Int) (cs : List Nat) : Prop := σ.1 x 9 = ((cs.length : Nat) : Int) ∧ cs.length ≤ 24 ∧ clsC tk nu (σ.2.1 (x + 2)) (σ.2.1 (x + 3)) (σ.2.1 (x + 4)) cs ∧ ∃ L : Nat, σ.1 x 1 = (L : Int) ∧ L ≤ 300 ∧ lawC tk nu (σ.1 x) (σ.2.1 (x + 1)) L 0 2 3 cs ∧ lawC tk nu (σ.1 x) (σ.2.1 (x + 1)) L 1 4 5 cs ∧ (σ.1 x 10 = 0 ∨ σ.1 x 10 = 1) ∧ (σ.1 x 10 = 0 → lwK tk 0 cs ≠ 0 → (lwE tk nu 0 (lwK tk 0 cs)).2.2.2 = 0)
theorem txF_of {σ : gS} {x n : Nat} {tk st nu : Nat → Int} {so : Int} {B : rB} {cs : List Nat} (h : cTI σ x n tk st nu so B cs) : txF σ x tk nu cs := by
  obtain ⟨K, rd, ok, b0, i9, i24, ic, l0, l1, fr⟩ := h
  have e1 := rd.2.2.2.2.2.2.2.2.1
  have e10 := rd.2.2.2.2.2.2.2.2.2.1
  have eC := rd.2.2.2.2.2.2.2.2.2.2.1
  refine ⟨i9, i24, ic, B.2.2.2.1, e1, ok.2.2.1, ?_, ?_, ?_, ?_⟩
  · rw [eC]; exact l0
  · rw [eC]; exact l1
  · rw [e10]; exact ok.2.2.2.2.2
  · rw [e10]; exact fr
theorem txF_cong {σ σ1 : gS} {x : Nat} {tk nu : Nat → Int} {cs : List Nat} (h : txF σ x tk nu cs) (e : σ1.1 x = σ.1 x) (e1 : σ1.2.1 = σ.2.1) : txF σ1 x tk nu cs := by
  unfold txF at *
  rw [e, e1]
  exact h
def xtP (x a : Nat) : Prop := lexP a ∨ txP x a
def txQ (b : Nat → Int) (n tx : Nat) (σ : gS) (q : Int × Nat × List Nat) (r : Option Value) (σ' : gS) : Prop := r = some (.int (iZ (if q.1 = 0 then (tx : Int) else -1))) ∧ ∃ σ2, σ' = (if q.1 = 0 then sI σ2 1 7 ((tx : Int) + 1) else σ2) ∧ chg (xtP (340 + 6 * tx)) σ σ2 ∧ σ2.2.2.2.2 333 2 = some 328 ∧ σ2.1 328 1 = 0 ∧ (σ2.1 333 0 = q.1 ∧ σ2.1 333 1 = if q.1 = 0 then -1 else stA b n q.2.1) ∧ (∀ i, i < 300 → 0 ≤ σ2.2.1 ((340 + 6 * tx) + 1) i ∧ σ2.2.1 ((340 + 6 * tx) + 1) i ≤ 1000000) ∧ (inR (σ.1 (340 + 6 * tx) 3) → inR (σ.1 (340 + 6 * tx) 5) → inR (σ2.1 (340 + 6 * tx) 3) ∧ inR (σ2.1 (340 + 6 * tx) 5)) ∧ (q.1 = 0 → txF σ2 (340 + 6 * tx) (tkA b n) (nuA b n) q.2.2) ∧ ∃ k, k ≤ n ∧ tkS b n k = n
/-- the tape emptied, the text counted -/
theorem tx_fin {b : Nat → Int} {n tx k : Nat} {σ σ2 σ3 : gS} (htx : tx < 4) (lx : chg lexP σ σ2) {q : Int × Nat × List Nat} (rq : riQ σ2 (340 + 6 * tx) k (tkA b n) (stA b n) (nuA b n) q σ3) : chg (xtP (340 + 6 * tx)) σ (sI σ3 328 1 0) ∧ (sI σ3 328 1 0).1 328 1 = 0 ∧ (sI σ3 328 1 0).1 1 = σ.1 1 ∧ ((sI σ3 328 1 0).1 333 0 = q.1 ∧ (sI σ3 328 1 0).1 333 1 = if q.1 = 0 then -1 else stA b n q.2.1) ∧ (∀ i, i < 300 → 0 ≤ (sI σ3 328 1 0).2.1 ((340 + 6 * tx) + 1) i ∧ (sI σ3 328 1 0).2.1 ((340 + 6 * tx) + 1) i ≤ 1000000) ∧ (inR (σ.1 (340 + 6 * tx) 3) → inR (σ.1 (340 + 6 * tx) 5) → inR ((sI σ3 328 1 0).1 (340 + 6 * tx) 3) ∧ inR ((sI σ3 328 1 0).1 (340 + 6 * tx) 5)) ∧ (q.1 = 0 → txF (sI σ3 328 1 0) (340 + 6 * tx) (tkA b n) (nuA b n) q.2.2) := by
  obtain ⟨c1, _, ⟨f0, f1⟩, rC, r35, good⟩ := rq
  have e : ∀ a, a ≠ 328 → (sI σ3 328 1 0).1 a = σ3.1 a := fun a h => up2_ne (a := 328) (x := a) σ3.1 1 (0 : Int) h
  have ex : (sI σ3 328 1 0).1 (340 + 6 * tx) = σ3.1 (340 + 6 * tx) := e _ (by omega)
  have e3 : (sI σ3 328 1 0).1 333 = σ3.1 333 := e 333 (by decide)
  have s2 : σ2.1 (340 + 6 * tx) = σ.1 (340 + 6 * tx) := (lx.1 (340 + 6 * tx) (by unfold lexP; omega)).1
  refine ⟨chg_tr (chg_tr (chg_mono lx (fun a h => Or.inl h)) (chg_mono c1 (fun a h => Or.inr h))) (chg_mono (chg_sI σ3 328 1 0) (fun a h => Or.inl (Or.inl h))), up2_at σ3.1 328 1 0, ?_, ?_, rC, ?_, fun z => ?_⟩
  · rw [e 1 (by decide), (c1.1 1 (by unfold txP; omega)).1, (lx.1 1 (by unfold lexP; omega)).1]
  · rw [e3]; exact ⟨f0, f1⟩
  · rw [ex]
    intro a b
    exact r35 (by rw [s2]; exact a) (by rw [s2]; exact b)
  · obtain ⟨B, so, I⟩ := good z
    exact txF_cong (txF_of I) ex rfl
set_option maxHeartbeats 4000000 in
set_option maxRecDepth 100000 in
theorem x_text {d : Nat} (hd : 86 ≤ d) (σ : gS) {b : Nat → Int} {n tx : Nat} (h7 : σ.1 1 7 = (tx : Int)) (htx : tx < 4) (h321 : ∀ i, i < 4 → σ.2.2.2.2 321 i = some (340 + 6 * i)) (hT : σ.2.2.2.2 333 2 = some 328) (hn : σ.1 328 1 = (n : Int)) (hn3 : n ≤ 300) (hb : σ.2.1 329 = b) (hb8 : ∀ i, i < n → 0 ≤ b i ∧ b i < 256) (hC : ∀ i, i < 300 → 0 ≤ σ.2.1 ((340 + 6 * tx) + 1) i ∧ σ.2.1 ((340 + 6 * tx) + 1) i ≤ 1000000) : sC mX6_text d [.ref 0] σ (txQ b n tx σ (txE (tkA b n) (nuA b n) 301 0 [])) := by
  refine sC_of rfl (Nat.le_of_ble_eq_true rfl) ?_
  show sE g_tt _ _ _ 0 [some (.ref 0), none, none] [] σ
  refine q_aload_n dX6_text_0 rfl rfl ?_
  refine sg6 (kf := 0) (v := .ref 1) dX6_text_1 flX6_10 (show kd 0 = 6 from rfl) (by decide) rfl ?_
  refine sg5 (kf := 7) (v := .int (iZ (tx : Int))) dX6_text_4 flX6_94 (show kd 1 = 5 from rfl) (by decide) (by show some (Value.int (iZ (σ.1 1 7))) = _; rw [h7]) ?_
  refine q_istore_n dX6_text_7 rfl (by decide) ?_
  show sE g_tt _ _ _ 8 [some (.ref 0), some (.int (iZ (tx : Int))), none] [] σ
  refine q_iload_n dX6_text_8 rfl rfl ?_
  refine z_if_lt (tgt := 17) dX6_text_9 (by decide) (by unfold inR; omega) (fun c_1 => ?_) (fun c_1 => ?_)
  · exfalso
    omega
  · refine q_iload_n dX6_text_12 rfl rfl ?_
    refine z_iconst dX6_text_13 ?_
    refine z_icmp_lt (tgt := 19) dX6_text_14 (by decide) (by unfold inR; omega) (by unfold inR; omega) (fun c_2 => ?_) (fun c_2 => ?_)
    · refine q_aload_n dX6_text_19 rfl rfl ?_
      refine sg6 (kf := 4) (v := .ref 328) dX6_text_20 flX6_33 (show kd 0 = 6 from rfl) (by decide) rfl ?_
      refine s_callV (ci := 3) (a := 328) (As := []) (S := []) dX6_text_23 okX3_scan mlX6_96 rfl (by omega) rfl (Nat.le_of_ble_eq_true rfl) (show kd 328 = 3 from rfl) (by decide) rfl (x_scan (d := d - 1) (by omega) σ hn hn3 hb hb8) (fun v_ σ_ hq => ?_)
      obtain ⟨rfl, k, hk, hke, lx⟩ := hq
      rename gS => σ2
      have K := rdK_lx (kd_sl htx) hk hn3 hke lx
      have hC2 : ∀ i, i < 300 → 0 ≤ σ2.2.1 ((340 + 6 * tx) + 1) i ∧ σ2.2.1 ((340 + 6 * tx) + 1) i ≤ 1000000 := by rw [(lx.1.1 ((340 + 6 * tx) + 1) (by unfold lexP; omega)).2.1]; exact hC
      have hT2 : σ2.2.2.2.2 333 2 = some 328 := by rw [(lx.1.1 333 (by unfold lexP; omega)).2.2.1]; exact hT
      show sE g_tt _ _ _ 26 [some (.ref 0), some (.int (iZ (tx : Int))), none] [] σ2
      refine q_aload_n dX6_text_26 rfl rfl ?_
      refine sg6 (kf := 5) (v := .ref 333) dX6_text_27 flX6_42 (show kd 0 = 6 from rfl) (by decide) rfl ?_
      refine q_aload_n dX6_text_30 rfl rfl ?_
      refine sg6 (kf := 2) (v := .ref 321) dX6_text_31 flX6_21 (show kd 0 = 6 from rfl) (by decide) rfl ?_
      refine q_iload_n dX6_text_34 rfl rfl ?_
      refine s_aaldT (n := 4) (x := (340 + 6 * tx)) dX6_text_35 (show kd 321 = 400000 + 4 from rfl) (by omega) (by omega) (by decide) (by rw [(lx.1.1 321 (by unfold lexP; omega)).2.2.1]; exact h321 tx htx) ?_
      refine s_callV (ci := 1) (a := 333) (As := [.ref (340 + 6 * tx)]) (S := []) dX6_text_36 okX1_readInto mlX6_99 rfl (by omega) rfl (Nat.le_of_ble_eq_true rfl) (show kd 333 = 1 from rfl) (by decide) rfl (x_readInto (d := d - 1) (by omega) K hT2 (nuA_ran b n) hC2) (fun v_ σ_ hq => ?_)
      obtain ⟨rfl, rq⟩ := hq
      rename gS => σ3
      obtain ⟨a1, a2, a3, a4, a5, a6, a7⟩ := tx_fin htx lx.1 rq
      show sE g_tt _ _ _ 39 [some (.ref 0), some (.int (iZ (tx : Int))), none] [.int (iZ (if (txE (tkA b n) (nuA b n) 301 0 []).1 = 0 then 1 else 0))] σ3
      refine q_istore_n dX6_text_39 rfl (by decide) ?_
      show sE g_tt _ _ _ 40 [some (.ref 0), some (.int (iZ (tx : Int))), some (.int (iZ (if (txE (tkA b n) (nuA b n) 301 0 []).1 = 0 then 1 else 0)))] [] σ3
      refine q_aload_n dX6_text_40 rfl rfl ?_
      refine sg6 (kf := 4) (v := .ref 328) dX6_text_41 flX6_33 (show kd 0 = 6 from rfl) (by decide) rfl ?_
      refine z_iconst dX6_text_44 ?_
      refine sp3 (kf := 1) dX6_text_45 flX6_88 (show kd 328 = 3 from rfl) (by decide) ?_
      refine q_iload_n dX6_text_48 rfl rfl ?_
      refine z_if_ne (tgt := 54) dX6_text_49 (by decide) inR_01 (fun c_3 => ?_) (fun c_3 => ?_)
      · have c_3 := if01_1 c_3
        refine q_aload_n dX6_text_54 rfl rfl ?_
        refine sg6 (kf := 0) (v := .ref 1) dX6_text_55 flX6_10 (show kd 0 = 6 from rfl) (by decide) rfl ?_
        refine q_iload_n dX6_text_58 rfl rfl ?_
        refine z_iconst dX6_text_59 ?_
        refine z_iadd dX6_text_60 ?_
        refine sp5 (kf := 7) dX6_text_61 flX6_94 (show kd 1 = 5 from rfl) (by decide) ?_
        refine q_iload_n dX6_text_64 rfl rfl ?_
        exact s_iretZ dX6_text_65 rfl (show txQ b n tx σ (txE (tkA b n) (nuA b n) 301 0 []) _ _ by
          have q : (txE (tkA b n) (nuA b n) 301 0 []).1 = 0 := by first | assumption | omega
          unfold txQ
          rw [if_pos q]
          exact ⟨rfl, sI σ3 328 1 0, (if_pos q).symm, a1, rq.2.1, a2, a4, a5, a6, a7, k, hk, hke⟩)
      · have c_3 := if01_0 c_3
        refine z_iconst dX6_text_52 ?_
        exact s_iretZ dX6_text_53 rfl (show txQ b n tx σ (txE (tkA b n) (nuA b n) 301 0 []) _ _ by
          have q : ¬ (txE (tkA b n) (nuA b n) 301 0 []).1 = 0 := by first | assumption | omega
          unfold txQ
          rw [if_neg q]
          exact ⟨rfl, sI σ3 328 1 0, (if_neg q).symm, a1, rq.2.1, a2, a4, a5, a6, a7, k, hk, hke⟩)
    · exfalso
      omega
set_option maxHeartbeats 4000000 in
set_option maxRecDepth 100000 in
theorem x_text0 {d : Nat} (σ : gS) (h7 : σ.1 1 7 = 4) : sC mX6_text d [.ref 0] σ (fun r σ' => r = some (.int (iZ (-1))) ∧ σ' = σ) := by
  refine sC_of rfl (Nat.le_of_ble_eq_true rfl) ?_
  show sE g_tt _ _ _ 0 [some (.ref 0), none, none] [] σ
  refine q_aload_n dX6_text_0 rfl rfl ?_
  refine sg6 (kf := 0) (v := .ref 1) dX6_text_1 flX6_10 (show kd 0 = 6 from rfl) (by decide) rfl ?_
  refine sg5 (kf := 7) (v := .int (iZ 4)) dX6_text_4 flX6_94 (show kd 1 = 5 from rfl) (by decide) (by show some (Value.int (iZ (σ.1 1 7))) = _; rw [h7]) ?_
  refine q_istore_n dX6_text_7 rfl (by decide) ?_
  show sE g_tt _ _ _ 8 [some (.ref 0), some (.int (iZ 4)), none] [] σ
  refine q_iload_n dX6_text_8 rfl rfl ?_
  refine z_if_lt (tgt := 17) dX6_text_9 (by decide) (by unfold inR; decide) (fun c_1 => ?_) (fun c_1 => ?_)
  · exfalso
    revert c_1
    decide
  · refine q_iload_n dX6_text_12 rfl rfl ?_
    refine z_iconst dX6_text_13 ?_
    refine z_icmp_lt (tgt := 19) dX6_text_14 (by decide) (by unfold inR; decide) (by unfold inR; decide) (fun c_2 => ?_) (fun c_2 => ?_)
    · exfalso
      revert c_2
      decide
    · refine z_iconst dX6_text_17 ?_
      exact s_iretZ dX6_text_18 rfl ⟨rfl, rfl⟩
