/-! ===== the cart of the class ===== -/
theorem q_iushr {Y : gY} {M : gM} {d : Nat} {b : gB} {Q : Option Value → gH → Prop} {pc : Nat} {L : List (Option Value)} {S : List Value} {h : gH} {x y : Int32} (hd : decode M.2.1 pc = .ok (.iushr, 1)) (k : gE Y M d b Q (pc + 1) L (.int ((x.toUInt32 >>> (y.toUInt32 &&& Int32.toUInt32 31)).toInt32) :: S) h) : gE Y M d b Q pc L (.int y :: .int x :: S) h :=
  g_pure (fun p l e R s m args below meth c H locs cells slots Z ls r hC hL k9 => lv_iushr hC.1 hC.2.1 hd rfl k9) k
theorem q_ldcw {Y : gY} {M : gM} {d : Nat} {b : gB} {Q : Option Value → gH → Prop} {pc : Nat} {L : List (Option Value)} {S : List Value} {h : gH} {i : Nat} {v : Int32} (hd : decode M.2.1 pc = .ok (.ldc_w i, 3)) (hw : Cond.constant M.1.cls i v ∈ g_W) (k : gE Y M d b Q (pc + 3) L (.int v :: S) h) : gE Y M d b Q pc L S h :=
  g_pure (fun p l e R s m args below meth c H locs cells slots Z ls r hC hL k9 => lv_ldcw hC.1 hC.2.1 hC.2.2.2.2.1 (hC.2.2.2.2.2.1 _ hw) hd k9) k
def ush (x y : Int32) : Int32 := (x.toUInt32 >>> (y.toUInt32 &&& Int32.toUInt32 31)).toInt32
def bc1 (x : Int32) : Int32 := x - (ush x 1 &&& 1431655765)
def bc2 (x : Int32) : Int32 := (x &&& 858993459) + (ush x 2 &&& 858993459)
def bc3 (x : Int32) : Int32 := (x + ush x 4) &&& 252645135
def bc4 (x : Int32) : Int32 := x + ush x 8
def bc5 (x : Int32) : Int32 := x + ush x 16
def bcA (x : Int32) : Int32 := bc5 (bc4 (bc3 (bc2 (bc1 x)))) &&& 63
theorem bcA_pc : ∀ n : Nat, n < 128 → bcA (iZ (n : Int)) = iZ ((pcB 7 n : Nat) : Int) := by decide +kernel
set_option maxHeartbeats 4000000 in
set_option maxRecDepth 100000 in
theorem x_bitCount {d n : Nat} (hn : n < 128) (σ : gS) : sC mJ6_bitCount_0f7a4 d [.int (iZ (n : Int))] σ (fun r σ' => r = some (.int (iZ ((pcB 7 n : Nat) : Int))) ∧ σ' = σ) := by
  refine sC_of rfl (Nat.le_of_ble_eq_true rfl) ?_
  show sE g_tt _ _ _ 0 [some (.int (iZ (n : Int)))] [] σ
  refine q_iload_n dJ6_bitCount_0f7a4_0 rfl rfl ?_
  refine q_iload_n dJ6_bitCount_0f7a4_1 rfl rfl ?_
  refine q_iconst (v := 1) dJ6_bitCount_0f7a4_2 (by decide +kernel) ?_
  refine q_iushr dJ6_bitCount_0f7a4_3 ?_
  refine q_ldcw dJ6_bitCount_0f7a4_4 kcJ6_265 ?_
  refine q_iand dJ6_bitCount_0f7a4_7 ?_
  refine q_isub dJ6_bitCount_0f7a4_8 ?_
  refine q_istore_n dJ6_bitCount_0f7a4_9 rfl (by decide) ?_
  show sE g_tt _ _ _ 10 [some (.int (bc1 (iZ (n : Int))))] [] σ
  generalize hx1 : bc1 (iZ (n : Int)) = x1
  refine q_iload_n dJ6_bitCount_0f7a4_10 rfl rfl ?_
  refine q_ldcw dJ6_bitCount_0f7a4_11 kcJ6_266 ?_
  refine q_iand dJ6_bitCount_0f7a4_14 ?_
  refine q_iload_n dJ6_bitCount_0f7a4_15 rfl rfl ?_
  refine q_iconst (v := 2) dJ6_bitCount_0f7a4_16 (by decide +kernel) ?_
  refine q_iushr dJ6_bitCount_0f7a4_17 ?_
  refine q_ldcw dJ6_bitCount_0f7a4_18 kcJ6_266 ?_
  refine q_iand dJ6_bitCount_0f7a4_21 ?_
  refine q_iadd dJ6_bitCount_0f7a4_22 ?_
  refine q_istore_n dJ6_bitCount_0f7a4_23 rfl (by decide) ?_
  show sE g_tt _ _ _ 24 [some (.int (bc2 x1))] [] σ
  generalize hx2 : bc2 x1 = x2
  refine q_iload_n dJ6_bitCount_0f7a4_24 rfl rfl ?_
  refine q_iload_n dJ6_bitCount_0f7a4_25 rfl rfl ?_
  refine q_iconst (v := 4) dJ6_bitCount_0f7a4_26 (by decide +kernel) ?_
  refine q_iushr dJ6_bitCount_0f7a4_27 ?_
  refine q_iadd dJ6_bitCount_0f7a4_28 ?_
  refine q_ldcw dJ6_bitCount_0f7a4_29 kcJ6_267 ?_
  refine q_iand dJ6_bitCount_0f7a4_32 ?_
  refine q_istore_n dJ6_bitCount_0f7a4_33 rfl (by decide) ?_
  show sE g_tt _ _ _ 34 [some (.int (bc3 x2))] [] σ
  generalize hx3 : bc3 x2 = x3
  refine q_iload_n dJ6_bitCount_0f7a4_34 rfl rfl ?_
  refine q_iload_n dJ6_bitCount_0f7a4_35 rfl rfl ?_
  refine q_bipush (v := 8) dJ6_bitCount_0f7a4_36 (by decide +kernel) ?_
  refine q_iushr dJ6_bitCount_0f7a4_38 ?_
  refine q_iadd dJ6_bitCount_0f7a4_39 ?_
  refine q_istore_n dJ6_bitCount_0f7a4_40 rfl (by decide) ?_
  show sE g_tt _ _ _ 41 [some (.int (bc4 x3))] [] σ
  generalize hx4 : bc4 x3 = x4
  refine q_iload_n dJ6_bitCount_0f7a4_41 rfl rfl ?_
  refine q_iload_n dJ6_bitCount_0f7a4_42 rfl rfl ?_
  refine q_bipush (v := 16) dJ6_bitCount_0f7a4_43 (by decide +kernel) ?_
  refine q_iushr dJ6_bitCount_0f7a4_45 ?_
  refine q_iadd dJ6_bitCount_0f7a4_46 ?_
  refine q_istore_n dJ6_bitCount_0f7a4_47 rfl (by decide) ?_
  show sE g_tt _ _ _ 48 [some (.int (bc5 x4))] [] σ
  generalize hx5 : bc5 x4 = x5
  refine q_iload_n dJ6_bitCount_0f7a4_48 rfl rfl ?_
  refine q_bipush (v := 63) dJ6_bitCount_0f7a4_49 (by decide +kernel) ?_
  refine q_iand dJ6_bitCount_0f7a4_51 ?_
  refine s_iret dJ6_bitCount_0f7a4_52 rfl ⟨?_, rfl⟩
  rw [← hx5, ← hx4, ← hx3, ← hx2, ← hx1, ← bcA_pc n hn]
  rfl
def crtP (a : Nat) : Prop := a = 337 ∨ a = 339
/-- a round under way: its order so far, the best one as it was -/
def crtR (σ σ' : gS) (l : List Nat) : Prop := chg crtP σ σ' ∧ σ'.1 337 1 = σ.1 337 1 ∧ σ'.1 337 2 = σ.1 337 2 ∧ σ'.1 337 4 = ((l.length : Nat) : Int) ∧ lrow (σ'.2.1 339) l
def dueR (σ : gS) (A : Nat → Int) : Prop := ∀ h, h < 8 → σ.2.1 8 h = A (29 + h) - 1
theorem dueR_ch {σ σ' : gS} {A : Nat → Int} (h : dueR σ A) (c : chg crtP σ σ') : dueR σ' A := fun k hk => by rw [(c.1 8 (by unfold crtP; omega)).2.1]; exact h k hk
theorem chg_2 {σ : gS} {k j : Nat} {z w : Int} : chg crtP σ (sI (sR σ 339 k z) 337 j w) := chg_tr (chg_mono (chg_sR σ 339 k z) (fun a q => Or.inr q)) (chg_mono (chg_sI _ 337 j w) (fun a q => Or.inl q))
theorem crt_push {σ : gS} {l : List Nat} (hl : lrow (σ.2.1 339) l) (h : Nat) : crtR σ (sI (sR σ 339 l.length (h : Int)) 337 4 (((l.length : Nat) : Int) + 1)) (l ++ [h]) := by
  refine ⟨chg_2, up2_k (a := 337) (k := 4) (j := 1) σ.1 (((l.length : Nat) : Int) + 1) (by decide), up2_k (a := 337) (k := 4) (j := 2) σ.1 (((l.length : Nat) : Int) + 1) (by decide), (up2_at σ.1 337 4 (((l.length : Nat) : Int) + 1)).trans (by rw [List.length_append, List.length_singleton]; omega), ?_⟩
  have e : (sI (sR σ 339 l.length (h : Int)) 337 4 (((l.length : Nat) : Int) + 1)).2.1 339 = va_up (σ.2.1 339) l.length (h : Int) := up2_eq σ.2.1 339 l.length _
  rw [e]
  exact lrow_push hl h
set_option maxHeartbeats 4000000 in
set_option maxRecDepth 100000 in
theorem x_visit {d h : Nat} (hh : h < 8) (σ : gS) {A : Nat → Int} (hdu : ∀ k, k < 8 → 0 ≤ A (29 + k) ∧ A (29 + k) ≤ 31) (hd8 : dueR σ A) {l : List Nat} (hF : σ.1 337 4 = ((l.length : Nat) : Int)) (hl8 : l.length < 8) (hl : lrow (σ.2.1 339) l) : sC mX0_visit d [.ref 337, .ref 8, .int (iZ (h : Int))] σ (fun r σ' => r = none ∧ crtR σ σ' (if A (29 + h) = 0 then l else l ++ [h])) := by
  have dh := hdu h hh
  refine sC_of rfl (Nat.le_of_ble_eq_true rfl) ?_
  show sE g_tt _ _ _ 0 [some (.ref 337), some (.ref 8), some (.int (iZ (h : Int)))] [] σ
  refine q_aload_n dX0_visit_0 rfl rfl ?_
  refine q_iload_n dX0_visit_1 rfl rfl ?_
  refine s_iald (n := 8) (x := A (29 + h) - 1) dX0_visit_2 (show kd 8 = 100 + 8 from rfl) (by omega) (by omega) (by decide) (hd8 h hh) ?_
  refine z_iconst dX0_visit_3 ?_
  refine z_icmp_eq (tgt := 36) dX0_visit_4 (by decide) (by unfold inR at *; omega) (by unfold inR at *; omega) (fun c_1 => ?_) (fun c_1 => ?_)
  · exact s_vret dX0_visit_36 rfl ⟨rfl, by rw [if_pos (by omega)]; exact ⟨chg_rf _ _, rfl, rfl, hF, hl⟩⟩
  · refine q_aload_n dX0_visit_7 rfl rfl ?_
    refine sg0 (kf := 4) (v := .int (iZ ((l.length : Nat) : Int))) dX0_visit_8 flX0_25 (show kd 337 = 0 from rfl) (by decide) (by show some (Value.int (iZ (σ.1 337 4))) = _; rw [hF]) ?_
    refine z_bipush dX0_visit_11 (by decide +kernel) ?_
    refine z_icmp_ge (tgt := 36) dX0_visit_13 (by decide) (by unfold inR at *; omega) (by unfold inR at *; omega) (fun c_2 => ?_) (fun c_2 => ?_)
    · exfalso
      omega
    · refine q_aload_n dX0_visit_16 rfl rfl ?_
      refine sg0 (kf := 3) (v := .ref 339) dX0_visit_17 flX0_22 (show kd 337 = 0 from rfl) (by decide) rfl ?_
      refine q_aload_n dX0_visit_20 rfl rfl ?_
      refine sg0 (kf := 4) (v := .int (iZ ((l.length : Nat) : Int))) dX0_visit_21 flX0_25 (show kd 337 = 0 from rfl) (by decide) (by show some (Value.int (iZ (σ.1 337 4))) = _; rw [hF]) ?_
      refine q_iload_n dX0_visit_24 rfl rfl ?_
      refine s_iast (n := 8) dX0_visit_25 (show kd 339 = 100 + 8 from rfl) (by omega) (by omega) (by decide) ?_
      refine q_aload_n dX0_visit_26 rfl rfl ?_
      refine q_dup dX0_visit_27 rfl ?_
      refine sg0 (kf := 4) (v := .int (iZ ((l.length : Nat) : Int))) dX0_visit_28 flX0_25 (show kd 337 = 0 from rfl) (by decide) (by show some (Value.int (iZ ((sR σ 339 l.length (h : Int)).1 337 4))) = _; rw [show (sR σ 339 l.length (h : Int)).1 337 4 = ((l.length : Nat) : Int) from hF]) ?_
      refine z_iconst dX0_visit_31 ?_
      refine z_iadd dX0_visit_32 ?_
      refine sp0 (kf := 4) dX0_visit_33 flX0_25 (show kd 337 = 0 from rfl) (by decide) ?_
      exact s_vret dX0_visit_36 rfl ⟨rfl, by rw [if_neg (by omega)]; exact crt_push hl h⟩
