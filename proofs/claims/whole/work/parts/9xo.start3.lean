/-! ===== the constructor of Town ===== -/
def sTr (p i : Nat) : va_E := .inl (3, 30, .inr (.inr (.inr (.inr (fun j => if j < i then some (p + 10 + 5 * j) else none)))))
def dUr (k : Nat) : va_E := .inl (0, 8, .inl (fun j => iZ (if j < k then -1 else 0)))
abbrev gT (g : Nat → va_E) (p i k : Nat) : Nat → va_E := va_up (va_up g (p + 6) (sTr p i)) (p + 7) (dUr k)
theorem va_cm {f : Nat → va_E} {a b : Nat} {x y : va_E} (h : a ≠ b) : va_up (va_up f a x) b y = va_up (va_up f b y) a x := by
  funext i
  by_cases e : i = b
  · rw [e, va_up_self, va_up_ne _ _ (fun z => h z.symm), va_up_self]
  · rw [va_up_ne _ _ e]
    by_cases e2 : i = a
    · rw [e2, va_up_self, va_up_self]
    · rw [va_up_ne _ _ e2, va_up_ne _ _ e2, va_up_ne _ _ e]
theorem sTr_0 (p : Nat) : sTr p 0 = .inl (3, 30, .inr (.inr (.inr (.inr (fun _ => none))))) := by
  unfold sTr
  have e : (fun j => if j < 0 then some (p + 10 + 5 * j) else none) = fun _ => none := by funext j; rw [if_neg (by omega)]
  rw [e]
theorem dUr_0 : dUr 0 = .inl (0, 8, .inl (fun _ => 0)) := by
  unfold dUr
  have e : (fun j => iZ (if j < 0 then -1 else 0)) = fun _ => 0 := by funext j; rw [if_neg (by omega)]; exact iZ_0
  rw [e]
theorem sTr_s (p i : Nat) : va_up (fun j => if j < i then some (p + 10 + 5 * j) else none) i (some (p + 10 + 5 * i)) = fun j => if j < i + 1 then some (p + 10 + 5 * j) else none := by
  funext j
  by_cases e : j = i
  · rw [e, va_up_self, if_pos (by omega)]
  · rw [va_up_ne _ _ e]
    by_cases q : j < i
    · rw [if_pos q, if_pos (by omega)]
    · rw [if_neg q, if_neg (by omega)]
theorem dUr_s (k : Nat) : upd (fun j => iZ (if j < k then -1 else 0)) k (iZ (-1)) = fun j => iZ (if j < k + 1 then -1 else 0) := by
  rw [iZ_upd]
  funext j
  by_cases e : j = k
  · rw [e, va_up_self, if_pos (by omega)]
  · rw [va_up_ne _ _ e]
    by_cases q : j < k
    · rw [if_pos q, if_pos (by omega)]
    · rw [if_neg q, if_neg (by omega)]
/-- the places of a town -/
def tpl (p : Nat) : Prop := p = 1 ∨ p = 161
theorem tpl_k {p : Nat} (h : tpl p) : kd p = 5 ∧ kd (p + 1) = 2 ∧ kd (p + 6) = 300000 + 30 ∧ kd (p + 7) = 100 + 8 ∧ kd (p + 8) = 100 + 8 ∧ kd (p + 9) = 100 + 8 ∧ ∀ i, i < 30 → kd (p + 10 + 5 * i) = 2 := by
  rcases h with e | e <;> subst e
  · exact ⟨rfl, rfl, rfl, rfl, rfl, rfl, by decide +kernel⟩
  · exact ⟨rfl, rfl, rfl, rfl, rfl, rfl, by decide +kernel⟩
theorem F0_5 {p : Nat} (h : kd p = 5) : F0c p = .inr (5, [.ref (p + 1), .ref (p + 6), .int (iZ 0), .ref (p + 7), .ref (p + 8), .ref (p + 9), .int (iZ 0), .int (iZ 0), .int (iZ (-1))]) := by
  rw [F0_o h (by decide)]
  have e : I0 p = fun j => if j = 8 then -1 else 0 := by funext j; unfold I0; rw [if_neg (by omega), if_neg (by omega), if_neg (by omega), if_neg (by omega), if_pos h]
  rw [e]
  rfl
theorem F0_sTr {p : Nat} (h : tpl p) : F0c (p + 6) = sTr p 30 := by
  have k := (tpl_k h).2.2.1
  have e : T0 (p + 6) = fun j => if j < 30 then some (p + 10 + 5 * j) else none := by
    funext j
    unfold T0
    rw [if_pos (by unfold tpl at h; omega), show p + 6 + 4 = p + 10 by omega]
  unfold F0c sTr
  rw [hE_rS σ0 k (by decide)]
  show Sum.inl (3, 30, Sum.inr (Sum.inr (Sum.inr (Sum.inr (T0 (p + 6)))))) = _
  rw [e]
theorem F0_dUr {p : Nat} (h : tpl p) : F0c (p + 7) = dUr 8 := by
  have k := (tpl_k h).2.2.2.1
  unfold F0c dUr
  rw [hE_ri σ0 k (by decide)]
  have e : (fun j => iZ (σ0.2.1 (p + 7) j)) = fun j => iZ (if j < 8 then -1 else 0) := by
    funext j
    show iZ (R0 (p + 7) j) = _
    unfold R0
    rw [if_pos (by unfold tpl at h; omega)]
  rw [e]
theorem F0_tr {p : Nat} (h : tpl p) : F0c (p + 8) = .inl (0, 8, .inl (fun _ => 0)) ∧ F0c (p + 9) = .inl (0, 8, .inl (fun _ => 0)) := by
  have k := tpl_k h
  unfold tpl at h
  exact ⟨F0_r k.2.2.2.2.1 (by decide) (by omega), F0_r k.2.2.2.2.2.1 (by decide) (by omega)⟩
theorem lt2 {a b n : Nat} {x y : Value} (h1 : g_lt n x) (h2 : g_lt n y) : ∀ v, some v ∈ [some x, some y] → g_lt n v := by
  intro v hv
  simp only [List.mem_cons, Option.some.injEq, List.not_mem_nil, or_false] at hv
  rcases hv with rfl | rfl
  · exact h1
  · exact h2
theorem lt3 {n : Nat} {x y w : Value} (h1 : g_lt n x) (h2 : g_lt n y) (h3 : g_lt n w) : ∀ v ∈ [x, y, w], g_lt n v := by
  intro v hv
  simp only [List.mem_cons, List.not_mem_nil, or_false] at hv
  rcases hv with rfl | rfl | rfl
  · exact h1
  · exact h2
  · exact h3
theorem lt2s {n : Nat} {x y : Value} (h1 : g_lt n x) (h2 : g_lt n y) : ∀ v ∈ [x, y], g_lt n v := by
  intro v hv
  simp only [List.mem_cons, List.not_mem_nil, or_false] at hv
  rcases hv with rfl | rfl
  · exact h1
  · exact h2
theorem ltu {s n : Nat} (h : s < n) : ∀ v, some v ∈ [some (Value.ref s), none] → g_lt n v := by
  intro v hv
  simp only [List.mem_cons, Option.some.injEq, List.not_mem_nil, or_false] at hv
  rcases hv with rfl | hv
  · exact Or.inl h
  · cases hv
theorem ce_d2 {n : Nat} : g_ce n (.inr (2, d2)) := by
  intro v hv
  simp only [List.mem_cons, List.not_mem_nil, or_false] at hv
  rcases hv with rfl | rfl | rfl | rfl | rfl | rfl | rfl | rfl | rfl | rfl | rfl | rfl <;> trivial
theorem ce_d4 {n : Nat} : g_ce n (.inr (4, d4)) := by
  intro v hv
  simp only [List.mem_cons, List.not_mem_nil, or_false] at hv
  rcases hv with rfl | rfl | rfl | rfl | rfl | rfl | rfl | rfl | rfl | rfl | rfl | rfl <;> trivial
theorem ty_d2 : ∀ j, j < 12 → defaultValue (tyX2 j) = vp_V d2 j := by decide +kernel
theorem ty_d4 : ∀ j, j < 12 → defaultValue (tyX4 j) = vp_V d4 j := by decide +kernel
theorem ce_sTr {p i n : Nat} (h : p + 10 + 5 * i ≤ n) : g_ce n (sTr p i) := by
  intro j a e
  have e : (if j < i then some (p + 10 + 5 * j) else none) = some a := e
  by_cases q : j < i
  · rw [if_pos q] at e
    have := Option.some.inj e
    omega
  · rw [if_neg q] at e
    cases e
theorem lp_dues {d : Nat} (hd : 2 ≤ d) {g : Nat → va_E} {p z : Nat} (hp : tpl p) (hg : ∀ a, p ≤ a → a < p + 160 → g a = F0c a) : ∀ (m k : Nat), k ≤ 8 → 8 - k < m → gE g_tt mX5_init d (p + 1, z, p + 160, z + 2007) (fun v h' => v = none ∧ h' = (g, p + 160, z + 2007)) 100 [some (.ref p), some (.int (iZ (k : Int)))] [] (va_up (gT g p 30 k) p (.inr (5, [.ref (p + 1), .ref (p + 6), .int (iZ 0), .ref (p + 7), .ref (p + 8), .ref (p + 9), .int (iZ 0), .int (iZ 0), .int (iZ (-1))])), p + 160, z + 2007) := by
  have kk := tpl_k hp
  have hp9 : p ≤ 161 := by unfold tpl at hp; omega
  intro m
  induction m with
  | zero => intro k a b; exact absurd b (by omega)
  | succ m ih =>
    intro k a b
    refine q_iload_n dX5_init_100 rfl rfl ?_
    refine z_bipush dX5_init_101 (by decide +kernel) ?_
    refine z_icmp_ge (tgt := 119) dX5_init_103 (by decide) (by unfold inR; omega) (by unfold inR; omega) (fun c => ?_) (fun c => ?_)
    · refine q_vret dX5_init_119 rfl ⟨rfl, rfl⟩ ⟨rfl, ?_⟩
      rw [show k = 8 by omega]
      have e1 : va_up g (p + 6) (sTr p 30) = g := va_same ((hg _ (by omega) (by omega)).trans (F0_sTr hp))
      have e2 : va_up g (p + 7) (dUr 8) = g := va_same ((hg _ (by omega) (by omega)).trans (F0_dUr hp))
      show (va_up (va_up (va_up g (p + 6) (sTr p 30)) (p + 7) (dUr 8)) p _, _, _) = _
      rw [e1, e2, va_same ((hg p (by omega) (by omega)).trans (F0_5 kk.1))]
    · refine q_aload_n dX5_init_106 rfl rfl ?_
      refine q_get (C := RX5) (T := TX5) (N := 9) (ci := 5) (kf := 3) (v := .ref (p + 7)) dX5_init_107 flX5_26 uwX5 rfl (by decide) (by show p < p + 160; omega) (va_up_self _ _ _) rfl ?_
      refine q_iload_n dX5_init_110 rfl rfl ?_
      refine z_iconst dX5_init_111 ?_
      refine q_iast (n := 8) (f := fun j => iZ (if j < k then -1 else 0)) dX5_init_112 (by show p + 7 < p + 160; omega) ((va_up_ne _ _ (by omega)).trans (va_up_self _ _ _)) (iZ_in (by omega) (by omega) (by decide)) ?_
      have e : g_put (va_up (gT g p 30 k) p (.inr (5, [.ref (p + 1), .ref (p + 6), .int (iZ 0), .ref (p + 7), .ref (p + 8), .ref (p + 9), .int (iZ 0), .int (iZ 0), .int (iZ (-1))])), p + 160, z + 2007) (p + 7) (.inl (0, 8, .inl (upd (fun j => iZ (if j < k then -1 else 0)) (iZ (k : Int)).toNatClampNeg (iZ (-1))))) = (va_up (gT g p 30 (k + 1)) p (.inr (5, [.ref (p + 1), .ref (p + 6), .int (iZ 0), .ref (p + 7), .ref (p + 8), .ref (p + 9), .int (iZ 0), .int (iZ 0), .int (iZ (-1))])), p + 160, z + 2007) := by
        unfold g_put
        rw [iZ_clamp (z := (k : Int)) ⟨by omega, by omega⟩, Int.toNat_natCast, dUr_s]
        show (va_up (va_up (va_up (va_up g (p + 6) (sTr p 30)) (p + 7) (dUr k)) p _) (p + 7) _, _, _) = _
        rw [va_cm (by omega), bx_uu]
        rfl
      rw [e]
      refine z_iinc dX5_init_113 rfl (by decide) ?_
      show gE g_tt _ _ _ _ 116 [some (.ref p), some (.int (iZ ((k : Int) + 1)))] [] _
      refine q_goto (tgt := 100) dX5_init_116 (by decide) ?_
      have q := ih (k + 1) (by omega) (by omega)
      rw [show ((k + 1 : Nat) : Int) = (k : Int) + 1 by omega] at q
      exact q
theorem lp_steps {d : Nat} (hd : 2 ≤ d) {g : Nat → va_E} {p z : Nat} (hp : tpl p) (hg : ∀ a, p ≤ a → a < p + 160 → g a = F0c a) : ∀ (m i : Nat), i ≤ 30 → 30 - i < m → cls (va_up (gT g p i 0) p (.inr (5, [.ref (p + 1), .ref (p + 6), .int (iZ 0), .ref (p + 7), .ref (p + 8), .ref (p + 9), .int (iZ 0), .int (iZ 0), .int (iZ (-1))])), p + 10 + 5 * i, z + 117 + 63 * i) → gE g_tt mX5_init d (p + 1, z, p + 160, z + 2007) (fun v h' => v = none ∧ h' = (g, p + 160, z + 2007)) 70 [some (.ref p), some (.int (iZ (i : Int)))] [] (va_up (gT g p i 0) p (.inr (5, [.ref (p + 1), .ref (p + 6), .int (iZ 0), .ref (p + 7), .ref (p + 8), .ref (p + 9), .int (iZ 0), .int (iZ 0), .int (iZ (-1))])), p + 10 + 5 * i, z + 117 + 63 * i) := by
  have kk := tpl_k hp
  have hp9 : p ≤ 161 := by unfold tpl at hp; omega
  intro m
  induction m with
  | zero => intro i a b; exact absurd b (by omega)
  | succ m ih =>
    intro i a b K
    refine q_iload_n dX5_init_70 rfl rfl ?_
    refine q_aload_n dX5_init_71 rfl rfl ?_
    refine q_get (C := RX5) (T := TX5) (N := 9) (ci := 5) (kf := 1) (v := .ref (p + 6)) dX5_init_72 flX5_18 uwX5 rfl (by decide) (by show p < p + 10 + 5 * i; omega) (va_up_self _ _ _) rfl ?_
    refine q_alen (t := 3) (n := 30) (v := iZ 30) dX5_init_75 (by decide) (by show p + 6 < p + 10 + 5 * i; omega) ((va_up_ne _ _ (by omega)).trans ((va_up_ne _ _ (by omega)).trans (va_up_self _ _ _))) (show Int32.ofNat 30 = iZ 30 by decide +kernel) ?_
    refine z_icmp_ge (tgt := 98) dX5_init_76 (by decide) (by unfold inR; omega) (by unfold inR; omega) (fun c => ?_) (fun c => ?_)
    · have e : i = 30 := by omega
      subst e
      refine z_iconst dX5_init_98 ?_
      refine q_istore_n dX5_init_99 rfl (by decide) ?_
      exact lp_dues hd hp hg 9 0 (by omega) (by omega)
    · refine q_aload_n dX5_init_79 rfl rfl ?_
      refine q_get (C := RX5) (T := TX5) (N := 9) (ci := 5) (kf := 1) (v := .ref (p + 6)) dX5_init_80 flX5_18 uwX5 rfl (by decide) (by show p < p + 10 + 5 * i; omega) (va_up_self _ _ _) rfl ?_
      refine q_iload_n dX5_init_83 rfl rfl ?_
      refine q_new (C := RX2) (T := TX2) (N := 12) (ci := 2) (fs := d2) dX5_init_84 clX5_9 niX2 inRX2 uwX2 tyX2 tyX2_ok rfl ty_d2 (fun _ => rfl) ce_d2 (by show p + 10 + 5 * i < 1000000; omega) (by show p + 10 + 5 * i + 1 ≤ p + 160 ∧ z + 117 + 63 * i + 12 ≤ z + 2007; omega) K (lt2s trivial (Or.inl (show (p + 6 : Nat) < p + 10 + 5 * i by omega))) (lt2 (a := 0) (b := 0) (Or.inl (show (p : Nat) < p + 10 + 5 * i by omega)) trivial) tt_Y ?_
      refine q_dup dX5_init_87 rfl ?_
      have K1 : cls (va_up (va_up (gT g p i 0) p (.inr (5, [.ref (p + 1), .ref (p + 6), .int (iZ 0), .ref (p + 7), .ref (p + 8), .ref (p + 9), .int (iZ 0), .int (iZ 0), .int (iZ (-1))]))) (p + 10 + 5 * i) (.inr (2, d2)), p + 10 + 5 * i + 1, z + 117 + 63 * i + 12) := cls_newx K ce_d2
      have hgs : ∀ a, p + 10 + 5 * i ≤ a → a < p + 10 + 5 * i + 5 → va_up (gT g p i 0) p (.inr (5, [.ref (p + 1), .ref (p + 6), .int (iZ 0), .ref (p + 7), .ref (p + 8), .ref (p + 9), .int (iZ 0), .int (iZ 0), .int (iZ (-1))])) a = F0c a := fun a x y => (va_up_ne _ _ (by omega)).trans ((va_up_ne _ _ (by omega)).trans ((va_up_ne _ _ (by omega)).trans (hg a (by omega) (by omega))))
      refine q_callIN (h := (va_up (va_up (gT g p i 0) p (.inr (5, [.ref (p + 1), .ref (p + 6), .int (iZ 0), .ref (p + 7), .ref (p + 8), .ref (p + 9), .int (iZ 0), .int (iZ 0), .int (iZ (-1))]))) (p + 10 + 5 * i) (.inr (2, d2)), p + 10 + 5 * i + 1, z + 117 + 63 * i + 12)) (M' := mX2_init) (d' := d - 1) (a := p + 10 + 5 * i) (As := []) (S := [.ref (p + 10 + 5 * i), .int (iZ (i : Int)), .ref (p + 6)]) (B1 := p + 10 + 5 * i + 5) (B2 := z + 117 + 63 * i + 12 + 51) (host := RX6) dX5_init_88 okX2_init (by decide +kernel) rfl (by omega) rfl (Nat.le_of_ble_eq_true rfl) ⟨by show p + 10 + 5 * i + 1 ≤ _; omega, by show z + 117 + 63 * i + 12 ≤ _; omega, by show _ ≤ p + 160; omega, by show _ ≤ z + 2007; omega⟩ (lt3 (Or.inl (show (p + 10 + 5 * i : Nat) < p + 10 + 5 * i + 1 by omega)) trivial (Or.inl (show (p + 6 : Nat) < p + 10 + 5 * i + 1 by omega))) (lt2 (a := 0) (b := 0) (Or.inl (show (p : Nat) < p + 10 + 5 * i + 1 by omega)) trivial) tt_Y (k_st (by omega) (kk.2.2.2.2.2.2 i (by omega)) hgs K1) (fun v h' hq e1 e2 => ?_)
      obtain ⟨rfl, rfl⟩ := hq
      show gE g_tt _ _ _ _ 91 _ [.ref (p + 10 + 5 * i), .int (iZ (i : Int)), .ref (p + 6)] _
      refine q_aast (t := 3) (C := RX2) (T := TX2) (N := 12) (ci := 2) (n := 30) (f := fun j => if j < i then some (p + 10 + 5 * j) else none) dX5_init_91 (Or.inl ⟨rfl, rfl⟩) rfl (by show p + 6 < p + 10 + 5 * i + 5; omega) ((va_up_ne _ _ (by omega)).trans ((va_up_ne _ _ (by omega)).trans (va_up_self _ _ _))) (by show p + 10 + 5 * i < p + 10 + 5 * i + 5; omega) ((hgs _ (by omega) (by omega)).trans (F0_2 (kk.2.2.2.2.2.2 i (by omega)))) (iZ_in (by omega) (by omega) (by decide)) ?_
      have e : g_put (va_up (gT g p i 0) p (.inr (5, [.ref (p + 1), .ref (p + 6), .int (iZ 0), .ref (p + 7), .ref (p + 8), .ref (p + 9), .int (iZ 0), .int (iZ 0), .int (iZ (-1))])), p + 10 + 5 * i + 5, z + 117 + 63 * i + 12 + 51) (p + 6) (.inl (3, 30, .inr (.inr (.inr (.inr (va_up (fun j => if j < i then some (p + 10 + 5 * j) else none) (iZ (i : Int)).toNatClampNeg (some (p + 10 + 5 * i)))))))) = (va_up (gT g p (i + 1) 0) p (.inr (5, [.ref (p + 1), .ref (p + 6), .int (iZ 0), .ref (p + 7), .ref (p + 8), .ref (p + 9), .int (iZ 0), .int (iZ 0), .int (iZ (-1))])), p + 10 + 5 * (i + 1), z + 117 + 63 * (i + 1)) := by
        unfold g_put
        rw [iZ_clamp (z := (i : Int)) ⟨by omega, by omega⟩, Int.toNat_natCast, sTr_s]
        show (va_up (va_up (va_up (va_up g (p + 6) (sTr p i)) (p + 7) (dUr 0)) p _) (p + 6) _, _, _) = _
        rw [va_cm (a := p) (by omega), va_cm (a := p + 7) (by omega), bx_uu, show p + 10 + 5 * i + 5 = p + 10 + 5 * (i + 1) by omega, show z + 117 + 63 * i + 12 + 51 = z + 117 + 63 * (i + 1) by omega]
        rfl
      rw [e]
      have K2 : cls (va_up (gT g p (i + 1) 0) p (.inr (5, [.ref (p + 1), .ref (p + 6), .int (iZ 0), .ref (p + 7), .ref (p + 8), .ref (p + 9), .int (iZ 0), .int (iZ 0), .int (iZ (-1))])), p + 10 + 5 * (i + 1), z + 117 + 63 * (i + 1)) := by
        have Kb : cls (va_up (gT g p i 0) p (.inr (5, [.ref (p + 1), .ref (p + 6), .int (iZ 0), .ref (p + 7), .ref (p + 8), .ref (p + 9), .int (iZ 0), .int (iZ 0), .int (iZ (-1))])), p + 10 + 5 * i + 5, z + 117 + 63 * i + 12 + 51) := cls_blk K (ce_2 (kk.2.2.2.2.2.2 i (by omega)) hgs) (by omega)
        intro j hj
        have hj : j < p + 10 + 5 * (i + 1) := hj
        show g_ce (p + 10 + 5 * (i + 1)) (va_up (gT g p (i + 1) 0) p (.inr (5, [.ref (p + 1), .ref (p + 6), .int (iZ 0), .ref (p + 7), .ref (p + 8), .ref (p + 9), .int (iZ 0), .int (iZ 0), .int (iZ (-1))])) j)
        by_cases z6 : j = p + 6
        · rw [z6, va_up_ne _ _ (by omega)]
          show g_ce _ (va_up (va_up g (p + 6) (sTr p (i + 1))) (p + 7) (dUr 0) (p + 6))
          rw [va_up_ne _ _ (by omega), va_up_self]
          exact ce_sTr (by omega)
        · have k := Kb j (by show j < p + 10 + 5 * i + 5; omega)
          have k : g_ce (p + 10 + 5 * i + 5) (va_up (gT g p i 0) p (.inr (5, [.ref (p + 1), .ref (p + 6), .int (iZ 0), .ref (p + 7), .ref (p + 8), .ref (p + 9), .int (iZ 0), .int (iZ 0), .int (iZ (-1))])) j) := k
          rw [show p + 10 + 5 * i + 5 = p + 10 + 5 * (i + 1) by omega] at k
          by_cases zp : j = p
          · rw [zp, va_up_self] at k ⊢
            exact k
          · rw [va_up_ne _ _ zp] at k ⊢
            have k : g_ce (p + 10 + 5 * (i + 1)) (va_up (va_up g (p + 6) (sTr p i)) (p + 7) (dUr 0) j) := k
            show g_ce (p + 10 + 5 * (i + 1)) (va_up (va_up g (p + 6) (sTr p (i + 1))) (p + 7) (dUr 0) j)
            by_cases z7 : j = p + 7
            · rw [z7, va_up_self] at k ⊢
              exact k
            · rw [va_up_ne _ _ z7, va_up_ne _ _ z6] at k ⊢
              exact k
      refine z_iinc dX5_init_92 rfl (by decide) ?_
      show gE g_tt _ _ _ _ 95 [some (.ref p), some (.int (iZ ((i : Int) + 1)))] [] _
      refine q_goto (tgt := 70) dX5_init_95 (by decide) ?_
      have q := ih (i + 1) (by omega) (by omega) K2
      rw [show ((i + 1 : Nat) : Int) = (i : Int) + 1 by omega] at q
      exact q
set_option maxHeartbeats 4000000 in
set_option maxRecDepth 100000 in
theorem k_X5_init {d : Nat} (hd : 2 ≤ d) {g : Nat → va_E} {p z : Nat} (hp : tpl p) (hg : ∀ a, p ≤ a → a < p + 160 → g a = F0c a) (K : cls (va_up g p (.inr (5, [.null, .null, .int (iZ 0), .null, .null, .null, .int (iZ 0), .int (iZ 0), .int (iZ 0)])), p + 1, z)) : gC mX5_init d (p + 1, z, p + 160, z + 2007) [.ref p] (va_up g p (.inr (5, [.null, .null, .int (iZ 0), .null, .null, .null, .int (iZ 0), .int (iZ 0), .int (iZ 0)])), p + 1, z) (fun v h' => v = none ∧ h' = (g, p + 160, z + 2007)) := by
  have kk := tpl_k hp
  have hp9 : p ≤ 161 := by unfold tpl at hp; omega
  have tr := F0_tr hp
  refine gC_of (h := (va_up g p (.inr (5, [.null, .null, .int (iZ 0), .null, .null, .null, .int (iZ 0), .int (iZ 0), .int (iZ 0)])), p + 1, z)) rfl (Nat.le_of_ble_eq_true rfl) (by show p + 1 ≤ p + 160; omega) (by show z ≤ z + 2007; omega) ?_
  show gE g_tt _ _ _ _ 0 [some (.ref p), none] [] (va_up g p (.inr (5, [.null, .null, .int (iZ 0), .null, .null, .null, .int (iZ 0), .int (iZ 0), .int (iZ 0)])), p + 1, z)
  refine q_aload_n dX5_init_0 rfl rfl ?_
  refine q_obj dX5_init_1 mlX5_3 wi_obj wc_obj (by omega) (by decide) ?_
  refine q_aload_n dX5_init_4 rfl rfl ?_
  refine q_new (C := RX2) (T := TX2) (N := 12) (ci := 2) (fs := d2) dX5_init_5 clX5_9 niX2 inRX2 uwX2 tyX2 tyX2_ok rfl ty_d2 (fun _ => rfl) ce_d2 (by show p + 1 < 1000000; omega) (by show p + 1 + 1 ≤ p + 160 ∧ z + 12 ≤ z + 2007; omega) K (lt_one (by show p < p + 1; omega)) (ltu (by show p < p + 1; omega)) tt_Y ?_
  refine q_dup dX5_init_8 rfl ?_
  have K1 : cls (va_up (va_up g p (.inr (5, [.null, .null, .int (iZ 0), .null, .null, .null, .int (iZ 0), .int (iZ 0), .int (iZ 0)]))) (p + 1) (.inr (2, d2)), p + 1 + 1, z + 12) := cls_newx K ce_d2
  have hgs : ∀ a, p + 1 ≤ a → a < p + 1 + 5 → va_up g p (.inr (5, [.null, .null, .int (iZ 0), .null, .null, .null, .int (iZ 0), .int (iZ 0), .int (iZ 0)])) a = F0c a := fun a x y => (va_up_ne _ _ (by omega)).trans (hg a (by omega) (by omega))
  refine q_callIN (h := (va_up (va_up g p (.inr (5, [.null, .null, .int (iZ 0), .null, .null, .null, .int (iZ 0), .int (iZ 0), .int (iZ 0)]))) (p + 1) (.inr (2, d2)), p + 1 + 1, z + 12)) (M' := mX2_init) (d' := d - 1) (a := p + 1) (As := []) (S := [.ref (p + 1), .ref p]) (B1 := p + 1 + 5) (B2 := z + 12 + 51) (host := RX6) dX5_init_9 okX2_init (by decide +kernel) rfl (by omega) rfl (Nat.le_of_ble_eq_true rfl) ⟨by show p + 1 + 1 ≤ _; omega, by show z + 12 ≤ _; omega, by show _ ≤ p + 160; omega, by show _ ≤ z + 2007; omega⟩ (lt2s (Or.inl (show (p + 1 : Nat) < p + 1 + 1 by omega)) (Or.inl (show (p : Nat) < p + 1 + 1 by omega))) (ltu (by show p < p + 1 + 1; omega)) tt_Y (k_st (by omega) kk.2.1 hgs K1) (fun v h' hq e1 e2 => ?_)
  obtain ⟨rfl, rfl⟩ := hq
  have K : cls (va_up g p (.inr (5, [.null, .null, .int (iZ 0), .null, .null, .null, .int (iZ 0), .int (iZ 0), .int (iZ 0)])), p + 6, z + 12 + 51) := cls_blk K (ce_2 kk.2.1 hgs) (by omega)
  show gE g_tt _ _ _ _ 12 [some (.ref p), none] [.ref (p + 1), .ref p] (va_up g p (.inr (5, [.null, .null, .int (iZ 0), .null, .null, .null, .int (iZ 0), .int (iZ 0), .int (iZ 0)])), p + 6, z + 12 + 51)
  refine r_putF (C := RX5) (T := TX5) (N := 9) (ci := 5) (kf := 0) (ty := tyX5 0) (fs' := [.ref (p + 1), .null, .int (iZ 0), .null, .null, .null, .int (iZ 0), .int (iZ 0), .int (iZ 0)]) dX5_init_12 flX5_12 uwX5 tyX5 tyX5_ok nmX5 rfl (by decide) rfl rfl rfl rfl (by omega) (show 0 < 9 by decide) (fun _ => rfl) (fun _ => rfl) rfl K (Or.inl (show (p + 1 : Nat) < p + 6 by omega)) (fun K => ?_)
  refine q_aload_n dX5_init_15 rfl rfl ?_
  refine z_bipush dX5_init_16 (by decide +kernel) ?_
  refine q_newR (t := 3) (C := RX2) (N := 30) dX5_init_18 (Or.inl ⟨rfl, rfl⟩) clX5_9 (by decide) (by decide +kernel) (by decide) (by show p + 6 < 1000000; omega) (by show p + 6 + 1 ≤ p + 160 ∧ z + 12 + 51 + 30 ≤ z + 2007; omega) K (lt_one (by show p < p + 6; omega)) (ltu (by show p < p + 6; omega)) tt_Y ?_
  have e1 : va_up (va_up g p (.inr (5, [.ref (p + 1), .null, .int (iZ 0), .null, .null, .null, .int (iZ 0), .int (iZ 0), .int (iZ 0)]))) (p + 6) (.inl (3, 30, .inr (.inr (.inr (.inr (fun _ => none)))))) = va_up (va_up g (p + 6) (sTr p 0)) p (.inr (5, [.ref (p + 1), .null, .int (iZ 0), .null, .null, .null, .int (iZ 0), .int (iZ 0), .int (iZ 0)])) := by rw [va_cm (by omega), ← sTr_0 p]
  have K : cls (va_up (va_up g (p + 6) (sTr p 0)) p (.inr (5, [.ref (p + 1), .null, .int (iZ 0), .null, .null, .null, .int (iZ 0), .int (iZ 0), .int (iZ 0)])), p + 7, z + 12 + 51 + 30) := by rw [← e1]; exact cls_newx K (by intro j a e; cases e)
  show gE g_tt _ _ _ _ 21 [some (.ref p), none] [.ref (p + 6), .ref p] (va_up (va_up g p (.inr (5, [.ref (p + 1), .null, .int (iZ 0), .null, .null, .null, .int (iZ 0), .int (iZ 0), .int (iZ 0)]))) (p + 6) (.inl (3, 30, .inr (.inr (.inr (.inr (fun _ => none)))))), p + 7, z + 12 + 51 + 30)
  rw [e1]
  refine r_putF (C := RX5) (T := TX5) (N := 9) (ci := 5) (kf := 1) (ty := tyX5 1) (fs' := [.ref (p + 1), .ref (p + 6), .int (iZ 0), .null, .null, .null, .int (iZ 0), .int (iZ 0), .int (iZ 0)]) dX5_init_21 flX5_18 uwX5 tyX5 tyX5_ok nmX5 rfl (by decide) rfl rfl rfl rfl (by omega) (show 1 < 9 by decide) (fun _ => rfl) (fun _ => rfl) rfl K (Or.inl (show (p + 6 : Nat) < p + 7 by omega)) (fun K => ?_)
  refine q_aload_n dX5_init_24 rfl rfl ?_
  refine z_iconst dX5_init_25 ?_
  refine r_put (C := RX5) (T := TX5) (N := 9) (ci := 5) (kf := 2) (ty := tyX5 2) (fs' := [.ref (p + 1), .ref (p + 6), .int (iZ 0), .null, .null, .null, .int (iZ 0), .int (iZ 0), .int (iZ 0)]) dX5_init_26 flX5_22 uwX5 tyX5 tyX5_ok nmX5 rfl (by decide) rfl rfl (by omega) (show 2 < 9 by decide) (fun _ => rfl) (fun _ => rfl) rfl K trivial (fun K => ?_)
  refine q_aload_n dX5_init_29 rfl rfl ?_
  refine z_bipush dX5_init_30 (by decide +kernel) ?_
  refine q_newI (N := 8) dX5_init_32 ac_int (by decide) (by decide +kernel) (by decide) (by show p + 7 < 1000000; omega) (by show p + 7 + 1 ≤ p + 160 ∧ z + 12 + 51 + 30 + 8 ≤ z + 2007; omega) K (lt_one (by show p < p + 7; omega)) (ltu (by show p < p + 7; omega)) tt_Y ?_
  have e2 : va_up (va_up (va_up g (p + 6) (sTr p 0)) p (.inr (5, [.ref (p + 1), .ref (p + 6), .int (iZ 0), .null, .null, .null, .int (iZ 0), .int (iZ 0), .int (iZ 0)]))) (p + 7) (.inl (0, 8, .inl (fun _ => 0))) = va_up (gT g p 0 0) p (.inr (5, [.ref (p + 1), .ref (p + 6), .int (iZ 0), .null, .null, .null, .int (iZ 0), .int (iZ 0), .int (iZ 0)])) := by rw [va_cm (by omega), ← dUr_0]
  have K : cls (va_up (gT g p 0 0) p (.inr (5, [.ref (p + 1), .ref (p + 6), .int (iZ 0), .null, .null, .null, .int (iZ 0), .int (iZ 0), .int (iZ 0)])), p + 8, z + 12 + 51 + 30 + 8) := by rw [← e2]; exact cls_newx K trivial
  show gE g_tt _ _ _ _ 34 [some (.ref p), none] [.ref (p + 7), .ref p] (va_up (va_up (va_up g (p + 6) (sTr p 0)) p (.inr (5, [.ref (p + 1), .ref (p + 6), .int (iZ 0), .null, .null, .null, .int (iZ 0), .int (iZ 0), .int (iZ 0)]))) (p + 7) (.inl (0, 8, .inl (fun _ => 0))), p + 8, z + 12 + 51 + 30 + 8)
  rw [e2]
  refine r_putF (C := RX5) (T := TX5) (N := 9) (ci := 5) (kf := 3) (ty := tyX5 3) (fs' := [.ref (p + 1), .ref (p + 6), .int (iZ 0), .ref (p + 7), .null, .null, .int (iZ 0), .int (iZ 0), .int (iZ 0)]) dX5_init_34 flX5_26 uwX5 tyX5 tyX5_ok nmX5 rfl (by decide) rfl rfl rfl rfl (by omega) (show 3 < 9 by decide) (fun _ => rfl) (fun _ => rfl) rfl K (Or.inl (show (p + 7 : Nat) < p + 8 by omega)) (fun K => ?_)
  refine q_aload_n dX5_init_37 rfl rfl ?_
  refine z_bipush dX5_init_38 (by decide +kernel) ?_
  refine r_newI (n := p + 8) dX5_init_40 ac_int (by decide) (by decide +kernel) (by decide) ((va_up_ne _ _ (by omega)).trans ((va_up_ne _ _ (by omega)).trans ((va_up_ne _ _ (by omega)).trans ((hg _ (by omega) (by omega)).trans tr.1)))) (by omega) (by show p + 8 + 1 ≤ p + 160 ∧ z + 12 + 51 + 30 + 8 + 8 ≤ z + 2007; omega) K (lt_one (by omega)) (ltu (by omega)) tt_Y (fun K => ?_)
  refine r_putF (C := RX5) (T := TX5) (N := 9) (ci := 5) (kf := 4) (ty := tyX5 4) (fs' := [.ref (p + 1), .ref (p + 6), .int (iZ 0), .ref (p + 7), .ref (p + 8), .null, .int (iZ 0), .int (iZ 0), .int (iZ 0)]) dX5_init_42 flX5_30 uwX5 tyX5 tyX5_ok nmX5 rfl (by decide) rfl rfl rfl rfl (by omega) (show 4 < 9 by decide) (fun _ => rfl) (fun _ => rfl) rfl K (Or.inl (show (p + 8 : Nat) < p + 9 by omega)) (fun K => ?_)
  refine q_aload_n dX5_init_45 rfl rfl ?_
  refine z_bipush dX5_init_46 (by decide +kernel) ?_
  refine r_newI (n := p + 9) dX5_init_48 ac_int (by decide) (by decide +kernel) (by decide) ((va_up_ne _ _ (by omega)).trans ((va_up_ne _ _ (by omega)).trans ((va_up_ne _ _ (by omega)).trans ((hg _ (by omega) (by omega)).trans tr.2)))) (by omega) (by show p + 9 + 1 ≤ p + 160 ∧ z + 12 + 51 + 30 + 8 + 8 + 8 ≤ z + 2007; omega) K (lt_one (by omega)) (ltu (by omega)) tt_Y (fun K => ?_)
  refine r_putF (C := RX5) (T := TX5) (N := 9) (ci := 5) (kf := 5) (ty := tyX5 5) (fs' := [.ref (p + 1), .ref (p + 6), .int (iZ 0), .ref (p + 7), .ref (p + 8), .ref (p + 9), .int (iZ 0), .int (iZ 0), .int (iZ 0)]) dX5_init_50 flX5_33 uwX5 tyX5 tyX5_ok nmX5 rfl (by decide) rfl rfl rfl rfl (by omega) (show 5 < 9 by decide) (fun _ => rfl) (fun _ => rfl) rfl K (Or.inl (show (p + 9 : Nat) < p + 10 by omega)) (fun K => ?_)
  refine q_aload_n dX5_init_53 rfl rfl ?_
  refine z_iconst dX5_init_54 ?_
  refine r_put (C := RX5) (T := TX5) (N := 9) (ci := 5) (kf := 6) (ty := tyX5 6) (fs' := [.ref (p + 1), .ref (p + 6), .int (iZ 0), .ref (p + 7), .ref (p + 8), .ref (p + 9), .int (iZ 0), .int (iZ 0), .int (iZ 0)]) dX5_init_55 flX5_36 uwX5 tyX5 tyX5_ok nmX5 rfl (by decide) rfl rfl (by omega) (show 6 < 9 by decide) (fun _ => rfl) (fun _ => rfl) rfl K trivial (fun K => ?_)
  refine q_aload_n dX5_init_58 rfl rfl ?_
  refine z_iconst dX5_init_59 ?_
  refine r_put (C := RX5) (T := TX5) (N := 9) (ci := 5) (kf := 7) (ty := tyX5 7) (fs' := [.ref (p + 1), .ref (p + 6), .int (iZ 0), .ref (p + 7), .ref (p + 8), .ref (p + 9), .int (iZ 0), .int (iZ 0), .int (iZ 0)]) dX5_init_60 flX5_39 uwX5 tyX5 tyX5_ok nmX5 rfl (by decide) rfl rfl (by omega) (show 7 < 9 by decide) (fun _ => rfl) (fun _ => rfl) rfl K trivial (fun K => ?_)
  refine q_aload_n dX5_init_63 rfl rfl ?_
  refine z_iconst dX5_init_64 ?_
  refine r_put (C := RX5) (T := TX5) (N := 9) (ci := 5) (kf := 8) (ty := tyX5 8) (fs' := [.ref (p + 1), .ref (p + 6), .int (iZ 0), .ref (p + 7), .ref (p + 8), .ref (p + 9), .int (iZ 0), .int (iZ 0), .int (iZ (-1))]) dX5_init_65 flX5_42 uwX5 tyX5 tyX5_ok nmX5 rfl (by decide) rfl rfl (by omega) (show 8 < 9 by decide) (fun _ => rfl) (fun _ => rfl) rfl K trivial (fun K => ?_)
  refine z_iconst dX5_init_68 ?_
  refine q_istore_n dX5_init_69 rfl (by decide) ?_
  have ez : z + 12 + 51 + 30 + 8 + 8 + 8 = z + 117 + 63 * 0 := by omega
  have q := lp_steps (z := z) hd hp hg 31 0 (by omega) (by omega) (by rw [← ez]; exact K)
  rw [← ez] at q
  exact q
