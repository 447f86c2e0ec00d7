/-! ===== towns and rows: steps kept, taken back, kindness and people told ===== -/
theorem sI_at (σ : gS) (a k : Nat) (z : Int) : (sI σ a k z).1 a k = z := up2_at _ _ _ _
theorem sI_k (σ : gS) (a : Nat) {k j : Nat} (z : Int) (h : j ≠ k) : (sI σ a k z).1 a j = σ.1 a j := up2_k _ _ h
theorem sI_ne (σ : gS) {a b : Nat} (k : Nat) (z : Int) (h : b ≠ a) : (sI σ a k z).1 b = σ.1 b := up2_ne _ _ _ h
def inT (a : Nat) : Prop := 1 ≤ a ∧ a < 161
theorem okR_gd {c nt : Int} {A : Nat → Int} (h : okR c nt A) : gd c nt A := h.1
theorem ud_05 {c nt : Int} {A : Nat → Int} (h : okR c nt A) {i : Nat} (hi : (i : Int) < A 3) : ud A i 0 ≤ 5 ∧ ud A i 10 ≤ 30 := by
  have g := (h.2.2.2.2.2.2.2.2.1 i hi).2.1
  exact ⟨g.1.2, g.2.2.2.2.1.2⟩
theorem idx_keep {A : Nat → Int} (h0 : 0 ≤ A 3) (h30 : A 3 ≤ 30) {i : Nat} (hi : idx i) : mKeep A i = A i := mKeep_o A h0 h30 (by unfold idx at hi; omega)
theorem c_keep {d : Nat} (hd : 2 ≤ d) (σ : gS) {A : Nat → Int} {c nt : Int} (ok : okR c nt A) (tw : twR σ 1 A) : sC mX5_keepStep d [.ref 1] σ (fun r σ' => r = none ∧ chg inT σ σ' ∧ twR σ' 1 (mKeep A)) := by
  obtain ⟨t1, t2, t3, t4, π, hπ, hin, hst⟩ := tw
  have g := ok.1
  have g0 := g.1
  have h3 := ok.2.2.2.1
  have n3 : σ.1 1 2 = A 3 := t2.1
  refine sC_imp ?_ (c_keepStep hd σ π hπ (by omega) (by omega))
  rintro v σ' ⟨e1, y, K', H', E', f', gg, e2, htr, hcase⟩
  rw [n3] at e2 hcase
  have py : 11 ≤ y ∧ y + 5 ≤ 161 ∧ kd y = 2 := by
    by_cases q : A 3 = 30
    · rw [if_pos q] at hcase; rw [hcase.2.2]; exact (hπ 0 (by omega)).2
    · rw [if_neg q] at hcase; rw [hcase.2]; exact (hπ _ (by omega)).2
  have c1 : chg (fun a => a = 1 ∨ a = 7 ∨ (y ≤ a ∧ a < y + 5)) σ σ' := by
    rw [e2]
    exact chg_tr (chg_mono (chg_sTw σ 7 gg) (fun a q => Or.inr (Or.inl q))) (chg_tr (chg_mono (chg_st _ y K' H' E' _ f') (fun a q => Or.inr (Or.inr q))) (chg_mono (chg_sI _ 1 2 _) (fun a q => Or.inl q)))
  have m3 := mKeep_3 A h3.1 h3.2
  have mo : ∀ i, (i < 53 ∧ i ≠ 3) ∨ 1553 ≤ i → mKeep A i = A i := fun i hi => mKeep_o A h3.1 h3.2 hi
  have f1 : ∀ k, k ≠ 2 → σ'.1 1 k = σ.1 1 k := fun k hk => by
    rw [e2, sI_k _ _ _ hk, st_o1 _ _ _ _ _ _ (by omega)]
    rfl
  have f2 : σ'.1 1 2 = mKeep A 3 := by
    rw [e2, m3, sI_at]
    split <;> omega
  have T7 : σ'.2.2.2.2 7 = gg := by
    rw [e2]
    exact sTw_at σ 7 gg
  have ty : trS 1 σ' y A := by
    rw [e2]
    refine trS_ch (trS_st (htr 1 A g.1.2 (fun _ => g.2.2.2.2.1.2) t1)) (chg_sI _ 1 2 _) (fun a x z => by omega)
  have tk : ∀ i, i < 30 → π i ≠ y → ∀ B, trS 1 σ (π i) B → trS 1 σ' (π i) B := fun i hi hne B hB => by
    have a := hπ i hi
    have b := kd_two py.2.2 a.2.2.2 hne
    exact trS_ch hB c1 (fun a x z => by omega)
  refine ⟨e1, chg_mono c1 (fun a q => by unfold inT; omega), ?_⟩
  refine ⟨?_, ⟨f2, ?_, ?_, ?_⟩, fun h hh => ?_, fun i hi => ?_, ?_⟩
  · exact trS_cong (trS_ch t1 c1 (fun a x z => by omega)) g.1.2 (fun _ => g.2.2.2.2.1.2) (fun i hi => idx_keep h3.1 h3.2 hi)
  · rw [f1 6 (by decide), mo 4 (by omega)]; exact t2.2.1
  · rw [f1 7 (by decide), mo 1 (by omega)]; exact t2.2.2.1
  · rw [f1 8 (by decide), mo 2 (by omega)]; exact t2.2.2.2
  · rw [(c1.1 8 (by omega)).2.1, mo _ (by omega)]; exact t3 h hh
  · rw [mo 4 (by omega)] at hi
    have i8 := ok.2.2.2.2.1
    rw [(c1.1 9 (by omega)).2.1, (c1.1 10 (by omega)).2.1, mo _ (by omega), mo _ (by omega)]; exact t4 i hi
  · by_cases q : A 3 = 30
    · rw [if_pos q] at hcase
      have ek : mKeep A = mKeepT (mEld A) := by rw [mKeep_eq, if_pos q]
      have b3 : mEld A 3 = ((29 : Nat) : Int) := by rw [mEld_at, if_pos rfl, q]; rfl
      have b0 : mEld A 0 = A 0 := by rw [mEld_at, if_neg (by omega), if_neg (by omega)]
      refine ⟨fun i => if i < 29 then π (i + 1) else π 0, fun i hi => ?_, fun i j hi hj e => ?_, fun i hi => ?_⟩
      · show σ'.2.2.2.2 7 i = some (if i < 29 then π (i + 1) else π 0) ∧ 1 + 10 ≤ (if i < 29 then π (i + 1) else π 0) ∧ (if i < 29 then π (i + 1) else π 0) + 5 ≤ 1 + 160 ∧ kd (if i < 29 then π (i + 1) else π 0) = 2
        rw [T7]
        by_cases z : i < 29
        · rw [if_pos z]; exact ⟨hcase.1 i z, (hπ (i + 1) (by omega)).2⟩
        · rw [if_neg z, show i = 29 by omega]; exact ⟨hcase.2.1, (hπ 0 (by omega)).2⟩
      · by_cases z : i < 29
        · by_cases z2 : j < 29
          · simp only [if_pos z, if_pos z2] at e
            have := hin _ _ (by omega) (by omega) e
            omega
          · simp only [if_pos z, if_neg z2] at e
            have := hin _ _ (by omega) (by omega) e
            omega
        · by_cases z2 : j < 29
          · simp only [if_neg z, if_pos z2] at e
            have := hin _ _ (by omega) (by omega) e
            omega
          · omega
      · rw [m3, if_pos q] at hi
        by_cases z : i < 29
        · simp only [if_pos z]
          have hb : trS 1 σ' (π (i + 1)) (ud A (i + 1)) := tk (i + 1) (by omega) (fun e => by rw [hcase.2.2] at e; have := hin _ _ (by omega) (by omega) e; omega) _ (hst (i + 1) (by omega))
          have u5 := ud_05 ok (i := i + 1) (by omega)
          refine trS_cong hb u5.1 (fun _ => u5.2) (fun j hj => ?_)
          rw [ek, ud_keepT (mEld A) b3 (by omega) (by omega) (by omega) z hj, ud_eld A g.1.2 z hj]
        · simp only [if_neg z]
          rw [← hcase.2.2, show i = 29 by omega]
          refine trS_cong ty g.1.2 (fun _ => g.2.2.2.2.1.2) (fun j hj => ?_)
          rw [ek, ud_keepN (mEld A) b3 (by omega) (by omega) (by omega) hj, mEld_at]
          unfold idx at hj
          rw [if_neg (by omega), if_neg (by omega)]
    · rw [if_neg q] at hcase
      have ek : mKeep A = mKeepT A := by rw [mKeep_eq, if_neg q]
      obtain ⟨n, hn⟩ : ∃ n : Nat, A 3 = (n : Int) := ⟨(A 3).toNat, by omega⟩
      have yn : y = π n := by rw [hcase.2, hn, Int.toNat_natCast]
      refine ⟨π, fun i hi => ?_, hin, fun i hi => ?_⟩
      · show σ'.2.2.2.2 7 i = some (π i) ∧ _
        rw [T7]; exact ⟨hcase.1 i hi, (hπ i hi).2⟩
      · rw [m3, if_neg q] at hi
        by_cases z : i < n
        · have hb : trS 1 σ' (π i) (ud A i) := tk i (by omega) (fun e => by rw [yn] at e; have := hin _ _ (by omega) (by omega) e; omega) _ (hst i (by omega))
          have u5 := ud_05 ok (i := i) (by omega)
          refine trS_cong hb u5.1 (fun _ => u5.2) (fun j hj => ?_)
          rw [ek, ud_keepT A hn (by omega) (by have := g.1; omega) g.1.2 z hj]
        · rw [show i = n by omega, ← yn]
          refine trS_cong ty g.1.2 (fun _ => g.2.2.2.2.1.2) (fun j hj => ?_)
          rw [ek, ud_keepN A hn (by omega) (by have := g.1; omega) g.1.2 hj]
set_option maxHeartbeats 4000000 in
set_option maxRecDepth 100000 in
theorem c_takeBack {d y : Nat} (hd : 2 ≤ d) (σ : gS) (h0 : 1 ≤ σ.1 1 2) (h30 : σ.1 1 2 ≤ 30) (hT : σ.2.2.2.2 7 (σ.1 1 2 - 1).toNat = some y) (hy : kd y = 2) (hy2 : y ≠ 2) : sC mX5_takeBack d [.ref 1] σ (fun r σ' => r = none ∧ ∃ K2 H2 E2 f2, σ' = st (sI σ 1 2 (σ.1 1 2 - 1)) 2 K2 H2 E2 ((sI σ 1 2 (σ.1 1 2 - 1)).2.1 (2 + 4)) f2 ∧ (∀ (on : Int) (A : Nat → Int), A 0 ≤ 5 → (¬ on = 0 → A 10 ≤ 30) → trS on (sI σ 1 2 (σ.1 1 2 - 1)) y A → trR on K2 H2 E2 f2 A)) := by
  refine sC_of rfl (Nat.le_of_ble_eq_true rfl) ?_
  show sE g_tt _ _ _ 0 [some (.ref 1)] [] σ
  refine q_aload_n dX5_takeBack_0 rfl rfl ?_
  refine sg5 (kf := 2) (v := .int (iZ (σ.1 1 2))) dX5_takeBack_1 flX5_22 (show kd 1 = 5 from rfl) (by decide) rfl ?_
  refine z_if_le (tgt := 33) dX5_takeBack_4 (by decide) (by unfold inR at *; omega) (fun c_1 => ?_) (fun c_1 => ?_)
  · exfalso
    omega
  · refine q_aload_n dX5_takeBack_7 rfl rfl ?_
    refine q_dup dX5_takeBack_8 rfl ?_
    refine sg5 (kf := 2) (v := .int (iZ (σ.1 1 2))) dX5_takeBack_9 flX5_22 (show kd 1 = 5 from rfl) (by decide) rfl ?_
    refine z_iconst dX5_takeBack_12 ?_
    refine z_isub dX5_takeBack_13 ?_
    refine sp5 (kf := 2) dX5_takeBack_14 flX5_22 (show kd 1 = 5 from rfl) (by decide) ?_
    refine q_aload_n dX5_takeBack_17 rfl rfl ?_
    refine sg5 (kf := 0) (v := .ref 2) dX5_takeBack_18 flX5_12 (show kd 1 = 5 from rfl) (by decide) rfl ?_
    refine q_aload_n dX5_takeBack_21 rfl rfl ?_
    refine sg5 (kf := 1) (v := .ref 7) dX5_takeBack_22 flX5_18 (show kd 1 = 5 from rfl) (by decide) rfl ?_
    refine q_aload_n dX5_takeBack_25 rfl rfl ?_
    refine sg5 (kf := 2) (v := .int (iZ (σ.1 1 2 - 1))) dX5_takeBack_26 flX5_22 (show kd 1 = 5 from rfl) (by decide) (by show some (Value.int (iZ (up2 σ.1 1 2 (σ.1 1 2 - 1) 1 2))) = _; rw [up2_at]) ?_
    refine s_aaldS (n := 30) (x := y) dX5_takeBack_29 (show kd 7 = 300000 + 30 from rfl) (by omega) (by omega) (by decide) hT ?_
    refine s_callV (ci := 2) (a := 2) (As := [.ref y]) (S := []) dX5_takeBack_30 okX2_take mlX5_45 rfl (by omega) rfl (Nat.le_of_ble_eq_true rfl) (show kd 2 = 2 from rfl) (by decide) rfl (c_takeS (d := d - 1) (s := 2) (o := y) (by omega) rfl (sI σ 1 2 (σ.1 1 2 - 1)) hy hy2) (fun v_ σ_ hq => ?_)
    obtain ⟨rfl, K2, H2, E2, f2, e9, htr, hm⟩ := hq
    subst e9
    show sE g_tt _ _ _ 33 [some (.ref 1)] [] (st (sI σ 1 2 (σ.1 1 2 - 1)) 2 K2 H2 E2 ((sI σ 1 2 (σ.1 1 2 - 1)).2.1 (2 + 4)) f2)
    exact s_vret dX5_takeBack_33 rfl ⟨rfl, K2, H2, E2, f2, rfl, htr⟩
theorem ud_lo (A : Nat → Int) {q : Nat} (hq : q < 30) (h5 : A 0 ≤ 5) {i : Nat} (hi : ¬ (5 ≤ i ∧ i < 24)) (h3 : i ≠ 3) (hb : i < 1553) : ud A q i = A i := by
  rw [ud_at A q i hq h5, if_neg (by omega), if_neg (by omega), if_neg (by omega), if_neg h3]
theorem ud_ud (A : Nat → Int) {q : Nat} (hq : q < 30) (h5 : A 0 ≤ 5) {i : Nat} (hi : i < q) {j : Nat} (hj : idx j) : ud (ud A q) i j = ud A i j := by
  have e : ∀ k, ¬ (5 ≤ k ∧ k < 24) → k ≠ 3 → k < 1553 → ud A q k = A k := fun k a b c => ud_lo A hq h5 a b c
  have e0 := e 0 (by omega) (by omega) (by omega)
  have ep : pz (ud A q) i = pz A i := by unfold pz; rw [e _ (by omega) (by omega) (by omega)]
  rw [ud_at (ud A q) i j (by omega) (by omega), ud_at A i j (by omega) h5, ep, e0]
  unfold idx at hj
  by_cases c1 : 1553 ≤ j ∧ j < 1583
  · rw [if_pos c1, if_pos c1]; exact e _ (by omega) (by omega) (by omega)
  · rw [if_neg c1, if_neg c1]
    by_cases c2 : 19 + pz A i ≤ j ∧ (j : Int) < 19 + A 0
    · rw [if_pos c2, if_pos c2]; exact e _ (by omega) (by omega) (by omega)
    · rw [if_neg c2, if_neg c2]
      by_cases c3 : 5 ≤ j ∧ j < 24
      · rw [if_pos c3, if_pos c3]; exact e _ (by omega) (by omega) (by omega)
      · rw [if_neg c3, if_neg c3, if_neg (by omega), if_neg (by omega)]; exact e _ (by omega) (by omega) (by omega)
theorem c_back1 {d q : Nat} (hd : 2 ≤ d) (σ : gS) {A : Nat → Int} {c nt : Int} (ok : okR c nt A) (tw : twR σ 1 A) (hq : A 3 = (q : Int) + 1) : sC mX5_takeBack d [.ref 1] σ (fun r σ' => r = none ∧ chg inT σ σ' ∧ twR σ' 1 (ud A q)) := by
  obtain ⟨t1, t2, t3, t4, π, hπ, hin, hst⟩ := tw
  have g := ok.1
  have g0 := g.1
  have h3 := ok.2.2.2.1
  have n3 : σ.1 1 2 = A 3 := t2.1
  have pq := hπ q (by omega)
  have u5 := ud_05 ok (i := q) (by omega)
  refine sC_imp ?_ (c_takeBack (y := π q) hd σ (by omega) (by omega) (by rw [n3, hq, show ((q : Int) + 1 - 1).toNat = q by omega]; exact pq.1) pq.2.2.2 (by omega))
  rintro v σ' ⟨e1, K', H', E', f', e2, htr⟩
  have c0 : chg (fun a => a = 1) σ (sI σ 1 2 (σ.1 1 2 - 1)) := chg_sI σ 1 2 _
  have c1 : chg (fun a => a = 1 ∨ (2 ≤ a ∧ a < 7)) σ σ' := by
    rw [e2]
    exact chg_tr (chg_mono c0 (fun a q => Or.inl q)) (chg_mono (chg_st _ 2 K' H' E' _ f') (fun a q => Or.inr (by omega)))
  have lo : ∀ i, ¬ (5 ≤ i ∧ i < 24) → i ≠ 3 → i < 1553 → ud A q i = A i := fun i a b z => ud_lo A (by omega) g.1.2 a b z
  have f1 : ∀ k, k ≠ 2 → σ'.1 1 k = σ.1 1 k := fun k hk => by
    rw [e2, st_o1 _ _ _ _ _ _ (by decide), sI_k _ _ _ hk]
  have f2 : σ'.1 1 2 = ud A q 3 := by
    rw [e2, st_o1 _ _ _ _ _ _ (by decide), sI_at, n3, hq, ud_at A q 3 (by omega) g.1.2, if_neg (by omega), if_neg (by omega), if_neg (by omega), if_pos rfl]; omega
  have u3 : ud A q 3 = (q : Int) := by rw [← f2, e2, st_o1 _ _ _ _ _ _ (by decide), sI_at]; omega
  refine ⟨e1, chg_mono c1 (fun a q => by unfold inT; omega), ?_, ⟨f2, ?_, ?_, ?_⟩, fun h hh => ?_, fun i hi => ?_, π, fun i hi => ?_, hin, fun i hi => ?_⟩
  · rw [e2]
    exact trS_st (htr 1 _ u5.1 (fun _ => u5.2) (trS_ch (hst q (by omega)) c0 (fun a x z => by omega)))
  · rw [f1 6 (by decide), lo 4 (by omega) (by omega) (by omega)]; exact t2.2.1
  · rw [f1 7 (by decide), lo 1 (by omega) (by omega) (by omega)]; exact t2.2.2.1
  · rw [f1 8 (by decide), lo 2 (by omega) (by omega) (by omega)]; exact t2.2.2.2
  · rw [(c1.1 8 (by omega)).2.1, lo _ (by omega) (by omega) (by omega)]; exact t3 h hh
  · rw [lo 4 (by omega) (by omega) (by omega)] at hi
    have i8 := ok.2.2.2.2.1
    rw [(c1.1 9 (by omega)).2.1, (c1.1 10 (by omega)).2.1, lo _ (by omega) (by omega) (by omega), lo _ (by omega) (by omega) (by omega)]; exact t4 i hi
  · rw [(c1.1 (1 + 6) (by omega)).2.2.1]; exact hπ i hi
  · rw [u3] at hi
    have pi := hπ i (by omega)
    have ui := ud_05 ok (i := i) (by omega)
    exact trS_cong (trS_ch (hst i (by omega)) c1 (fun a x z => by omega)) ui.1 (fun _ => ui.2) (fun j hj => ud_ud A (by omega) g.1.2 (by omega) hj)
