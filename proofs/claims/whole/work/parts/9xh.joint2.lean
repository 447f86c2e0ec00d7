/-! ===== each method, class and model side by side ===== -/
theorem j_person {d : Nat} {τ : gS} {W V : wF} {c : Int} (hd : 100 ≤ d) (hc : c ≤ 45000) (J : JM τ W V c ∧ JC τ W V) {a1 : Int} (r1 : inR a1) : jP mX6_person mX7_person d [.int (iZ a1)] τ (c + 80) := by
  have ok := J.1.1
  have oi := J.1.2.1
  have n4 := J.1.2.2.1.2.2
  have n0 : 0 ≤ (τ.2.1 385) 1 := Int.le_trans J.1.2.2.1.1 J.1.2.2.1.2.1
  have C := J.2.1
  have h23 := J.1.2.2.2.1.1
  have h26 := J.1.2.2.2.1.2.1
  obtain ⟨hW, hV⟩ := JM_W J.1
  have g := ok.1
  have g9 : gd 90000 ((τ.2.1 385) 1) (τ.2.1 385) := gd_mono g (by omega)
  have g10 : gd 100000 ((τ.2.1 385) 1) (τ.2.1 385) := gd_mono g (by omega)
  have g98 : gd 98000 ((τ.2.1 385) 1) (τ.2.1 385) := gd_mono g (by omega)
  have g88 : gd 88000 ((τ.2.1 385) 1) (τ.2.1 385) := gd_mono g (by omega)
  have g0 := g.1
  have aa3 := ok.2.2.2.1
  have i23 : inR ((τ.1 384) 23) := by rw [h23]; unfold inR; omega
  have okm : okR (c + 80) ((τ.2.1 385) 1) (τ.2.1 385) := okR_mono ok (by omega)
  refine j_cmd J (x_person (by omega) r1 τ (by omega) n4 ok oi C) (fun σ1 e7 e6 => qm_a h26 (m_person (by omega) r1 σ1 _ _ g0.1 g0.2)) ?_ (by omega)
  split
  · exact okm
  · rename_i q
    exact okR_mono (okR_per ok (by omega) (by omega) (by omega)) (by omega)
theorem j_kind {d : Nat} {τ : gS} {W V : wF} {c : Int} (hd : 100 ≤ d) (hc : c ≤ 45000) (J : JM τ W V c ∧ JC τ W V) {a1 a2 : Int} (r1 : inR a1) (r2 : inR a2) : jP mX6_kind mX7_kind d [.int (iZ a1), .int (iZ a2)] τ (c + 80) := by
  have ok := J.1.1
  have oi := J.1.2.1
  have n4 := J.1.2.2.1.2.2
  have n0 : 0 ≤ (τ.2.1 385) 1 := Int.le_trans J.1.2.2.1.1 J.1.2.2.1.2.1
  have C := J.2.1
  have h23 := J.1.2.2.2.1.1
  have h26 := J.1.2.2.2.1.2.1
  obtain ⟨hW, hV⟩ := JM_W J.1
  have g := ok.1
  have g9 : gd 90000 ((τ.2.1 385) 1) (τ.2.1 385) := gd_mono g (by omega)
  have g10 : gd 100000 ((τ.2.1 385) 1) (τ.2.1 385) := gd_mono g (by omega)
  have g98 : gd 98000 ((τ.2.1 385) 1) (τ.2.1 385) := gd_mono g (by omega)
  have g88 : gd 88000 ((τ.2.1 385) 1) (τ.2.1 385) := gd_mono g (by omega)
  have g0 := g.1
  have aa3 := ok.2.2.2.1
  have i23 : inR ((τ.1 384) 23) := by rw [h23]; unfold inR; omega
  have okm : okR (c + 80) ((τ.2.1 385) 1) (τ.2.1 385) := okR_mono ok (by omega)
  refine j_cmd J (x_kind (by omega) r1 r2 τ (by omega) n4 ok oi C) (fun σ1 e7 e6 => qm_a h26 (m_kind (by omega) r1 r2 σ1 _ _ aa3.1 aa3.2)) ?_ (by omega)
  split
  · exact okR_mono (okR_kind ok (by omega) (by omega) (by omega)) (by omega)
  · exact okm
theorem j_by {d : Nat} {τ : gS} {W V : wF} {c : Int} (hd : 100 ≤ d) (hc : c ≤ 45000) (J : JM τ W V c ∧ JC τ W V) {a1 : Int} (r1 : inR a1) : jP mX6_by mX7_by d [.int (iZ a1)] τ (c + 80) := by
  have ok := J.1.1
  have oi := J.1.2.1
  have n4 := J.1.2.2.1.2.2
  have n0 : 0 ≤ (τ.2.1 385) 1 := Int.le_trans J.1.2.2.1.1 J.1.2.2.1.2.1
  have C := J.2.1
  have h23 := J.1.2.2.2.1.1
  have h26 := J.1.2.2.2.1.2.1
  obtain ⟨hW, hV⟩ := JM_W J.1
  have g := ok.1
  have g9 : gd 90000 ((τ.2.1 385) 1) (τ.2.1 385) := gd_mono g (by omega)
  have g10 : gd 100000 ((τ.2.1 385) 1) (τ.2.1 385) := gd_mono g (by omega)
  have g98 : gd 98000 ((τ.2.1 385) 1) (τ.2.1 385) := gd_mono g (by omega)
  have g88 : gd 88000 ((τ.2.1 385) 1) (τ.2.1 385) := gd_mono g (by omega)
  have g0 := g.1
  have aa3 := ok.2.2.2.1
  have i23 : inR ((τ.1 384) 23) := by rw [h23]; unfold inR; omega
  have okm : okR (c + 80) ((τ.2.1 385) 1) (τ.2.1 385) := okR_mono ok (by omega)
  refine j_cmd J (x_by (by omega) r1 τ (by omega) n4 ok oi C n0) (fun σ1 e7 e6 => qm_a h26 (m_by (by omega) r1 σ1 _ _ n0 n4)) ?_ (by omega)
  split
  · have e : ∀ i, i ≠ 2 → va_up (τ.2.1 385) 2 a1 i = (τ.2.1 385) i := fun i h => va_up_ne _ _ h
    refine okR_mono (okR_mark ok (fun i h => e i (fun z => h (Or.inr (Or.inl z)))) (e 1 (by decide)) (by rw [va_up_self]; omega) (by rw [e 4 (by decide)]; exact ok.2.2.2.2.1) (fun h hh => by rw [e _ (by omega)]; exact ok.2.2.2.2.2.1 h hh) (fun i hi => ?_)) (by omega)
    rw [e 4 (by decide)] at hi
    rw [e _ (by omega), e _ (by omega)]
    exact ok.2.2.2.2.2.2.1 i hi
  · exact okm
theorem j_good {d : Nat} {τ : gS} {W V : wF} {c : Int} (hd : 100 ≤ d) (hc : c ≤ 45000) (J : JM τ W V c ∧ JC τ W V) {a1 a2 : Int} (r1 : inR a1) (r2 : inR a2) : jP mX6_good mX7_good d [.int (iZ a1), .int (iZ a2)] τ (c + 80) := by
  have ok := J.1.1
  have oi := J.1.2.1
  have n4 := J.1.2.2.1.2.2
  have n0 : 0 ≤ (τ.2.1 385) 1 := Int.le_trans J.1.2.2.1.1 J.1.2.2.1.2.1
  have C := J.2.1
  have h23 := J.1.2.2.2.1.1
  have h26 := J.1.2.2.2.1.2.1
  obtain ⟨hW, hV⟩ := JM_W J.1
  have g := ok.1
  have g9 : gd 90000 ((τ.2.1 385) 1) (τ.2.1 385) := gd_mono g (by omega)
  have g10 : gd 100000 ((τ.2.1 385) 1) (τ.2.1 385) := gd_mono g (by omega)
  have g98 : gd 98000 ((τ.2.1 385) 1) (τ.2.1 385) := gd_mono g (by omega)
  have g88 : gd 88000 ((τ.2.1 385) 1) (τ.2.1 385) := gd_mono g (by omega)
  have g0 := g.1
  have aa3 := ok.2.2.2.1
  have i23 : inR ((τ.1 384) 23) := by rw [h23]; unfold inR; omega
  have okm : okR (c + 80) ((τ.2.1 385) 1) (τ.2.1 385) := okR_mono ok (by omega)
  refine j_cmd J (x_good (by omega) r1 r2 τ (by omega) n4 ok oi C) (fun σ1 e7 e6 => qm_a h26 (m_good (by omega) r1 r2 σ1 _ _ g9 aa3.1 aa3.2)) ?_ (by omega)
  split
  · rename_i q
    have e : (11 + a1).toNat = 11 + a1.toNat := by omega
    rw [e] at q ⊢
    have k := mKeep_o (τ.2.1 385) aa3.1 aa3.2 (i := 11 + a1.toNat) (by omega)
    have k0 := g.2.2.1 a1.toNat (by omega)
    exact okR_mono (okR_good (okR_keep ok) (by omega) (by rw [k]; omega) (by rw [k]; omega)) (by omega)
  · exact okm
theorem j_thank {d : Nat} {τ : gS} {W V : wF} {c : Int} (hd : 100 ≤ d) (hc : c ≤ 45000) (J : JM τ W V c ∧ JC τ W V) {a1 : Int} (r1 : inR a1) : jP mX6_thank mX7_thank d [.int (iZ a1)] τ (c + 80) := by
  have ok := J.1.1
  have oi := J.1.2.1
  have n4 := J.1.2.2.1.2.2
  have n0 : 0 ≤ (τ.2.1 385) 1 := Int.le_trans J.1.2.2.1.1 J.1.2.2.1.2.1
  have C := J.2.1
  have h23 := J.1.2.2.2.1.1
  have h26 := J.1.2.2.2.1.2.1
  obtain ⟨hW, hV⟩ := JM_W J.1
  have g := ok.1
  have g9 : gd 90000 ((τ.2.1 385) 1) (τ.2.1 385) := gd_mono g (by omega)
  have g10 : gd 100000 ((τ.2.1 385) 1) (τ.2.1 385) := gd_mono g (by omega)
  have g98 : gd 98000 ((τ.2.1 385) 1) (τ.2.1 385) := gd_mono g (by omega)
  have g88 : gd 88000 ((τ.2.1 385) 1) (τ.2.1 385) := gd_mono g (by omega)
  have g0 := g.1
  have aa3 := ok.2.2.2.1
  have i23 : inR ((τ.1 384) 23) := by rw [h23]; unfold inR; omega
  have okm : okR (c + 80) ((τ.2.1 385) 1) (τ.2.1 385) := okR_mono ok (by omega)
  by_cases q : 0 ≤ a1 ∧ a1 < 8
  · obtain ⟨n1, e10⟩ : ∃ n : Nat, a1 = (n : Int) := ⟨a1.toNat, by omega⟩
    subst e10
    have mr := (mThank_r (mKeep (τ.2.1 385)) n1 (F := oF) (G := (τ.1 384)) (by rw [h23]; rfl)).1
    have hx := x_thank (h := n1) (d := d) (by omega) (by omega) τ (by omega) n4 ok oi C
    rw [mr] at hx
    have cl : clV 5 (n1 : Int) 0 := ⟨by omega, ⟨r1, by unfold inR; omega⟩, by omega, by omega, by omega, by omega, by omega⟩
    have k1 := okR_act (F := (τ.1 384)) hW hV (by omega) cl ok
    have k2 := (mAct_ok hW hV cl (F := (τ.1 384)) g (by have := okR_80 ok; omega) (by omega) aa3.1 aa3.2 h26).2.2.1
    unfold mAct at k1 k2
    rw [if_neg (by decide), if_neg (by decide), if_neg (by decide), if_pos rfl, Int.toNat_natCast] at k1 k2
    exact j_cmd J hx (fun σ1 e7 e6 => qm_b k2 (m_thank (by omega) (by omega) σ1 _ _ (by rw [e7]; exact hW) g9 aa3.1 aa3.2 i23 h26)) (okR_mono k1 (by omega)) (by omega)
  · exact j_cmd J (qx_same C (x_thank0 (by omega) r1 q τ)) (fun σ1 e7 e6 => (qm_a h26 (m_thank0 (by omega) r1 q σ1 _ _))) okm (by omega)
theorem j_settle {d : Nat} {τ : gS} {W V : wF} {c : Int} (hd : 100 ≤ d) (hc : c ≤ 45000) (J : JM τ W V c ∧ JC τ W V) : jP mX6_settle mX7_settle d [] τ (c + 80) := by
  have ok := J.1.1
  have oi := J.1.2.1
  have n4 := J.1.2.2.1.2.2
  have n0 : 0 ≤ (τ.2.1 385) 1 := Int.le_trans J.1.2.2.1.1 J.1.2.2.1.2.1
  have C := J.2.1
  have h23 := J.1.2.2.2.1.1
  have h26 := J.1.2.2.2.1.2.1
  obtain ⟨hW, hV⟩ := JM_W J.1
  have g := ok.1
  have g9 : gd 90000 ((τ.2.1 385) 1) (τ.2.1 385) := gd_mono g (by omega)
  have g10 : gd 100000 ((τ.2.1 385) 1) (τ.2.1 385) := gd_mono g (by omega)
  have g98 : gd 98000 ((τ.2.1 385) 1) (τ.2.1 385) := gd_mono g (by omega)
  have g88 : gd 88000 ((τ.2.1 385) 1) (τ.2.1 385) := gd_mono g (by omega)
  have g0 := g.1
  have aa3 := ok.2.2.2.1
  have i23 : inR ((τ.1 384) 23) := by rw [h23]; unfold inR; omega
  have okm : okR (c + 80) ((τ.2.1 385) 1) (τ.2.1 385) := okR_mono ok (by omega)
  have cl : clV 6 0 0 := ⟨by omega, ⟨by unfold inR; omega, by unfold inR; omega⟩, by omega, by omega, by omega, by omega, by omega⟩
  have k1 := okR_act (F := (τ.1 384)) hW hV (by omega) cl ok
  have k2 := (mAct_ok hW hV cl (F := (τ.1 384)) g (by have := okR_80 ok; omega) (by omega) aa3.1 aa3.2 h26).2.2.1
  unfold mAct at k1 k2
  rw [if_neg (by decide), if_neg (by decide), if_neg (by decide), if_neg (by decide), if_pos rfl] at k1 k2
  exact j_cmd J (x_settle (by omega) (τ.1 384) h23 τ (by omega) n4 ok oi C) (fun σ1 e7 e6 => qm_b k2 (m_settleC (by omega) σ1 _ _ (by rw [e7]; exact hW) g9 aa3.1 aa3.2 i23)) (okR_mono k1 (by omega)) (by omega)
theorem j_night {d : Nat} {τ : gS} {W V : wF} {c : Int} (hd : 100 ≤ d) (hc : c ≤ 45000) (J : JM τ W V c ∧ JC τ W V) {a1 : Int} (r1 : inR a1) : jP mX6_night mX7_night d [.int (iZ a1)] τ (c + 80) := by
  have ok := J.1.1
  have oi := J.1.2.1
  have n4 := J.1.2.2.1.2.2
  have n0 : 0 ≤ (τ.2.1 385) 1 := Int.le_trans J.1.2.2.1.1 J.1.2.2.1.2.1
  have C := J.2.1
  have h23 := J.1.2.2.2.1.1
  have h26 := J.1.2.2.2.1.2.1
  obtain ⟨hW, hV⟩ := JM_W J.1
  have g := ok.1
  have g9 : gd 90000 ((τ.2.1 385) 1) (τ.2.1 385) := gd_mono g (by omega)
  have g10 : gd 100000 ((τ.2.1 385) 1) (τ.2.1 385) := gd_mono g (by omega)
  have g98 : gd 98000 ((τ.2.1 385) 1) (τ.2.1 385) := gd_mono g (by omega)
  have g88 : gd 88000 ((τ.2.1 385) 1) (τ.2.1 385) := gd_mono g (by omega)
  have g0 := g.1
  have aa3 := ok.2.2.2.1
  have i23 : inR ((τ.1 384) 23) := by rw [h23]; unfold inR; omega
  have okm : okR (c + 80) ((τ.2.1 385) 1) (τ.2.1 385) := okR_mono ok (by omega)
  have k := mNi_ok (c := c) hW hV (by have := okR_80 ok; omega) (by omega) a1.toNat (τ.2.1 385) (va_up (τ.1 384) 24 0) g aa3.1 aa3.2 h26
  have k2 : fS (τ.1 384) (va_up (τ.1 384) 24 0) := fS_up (fS_rf h26) (Or.inl rfl) 0
  refine j_cmd J (x_night (by omega) r1 (τ.1 384) h23 τ (by omega) n4 ok oi C hW hV) (fun σ1 e7 e6 => qm_b ?_ (m_night (by omega) r1 σ1 _ _ (by rw [e7]; exact hW) (by rw [e7]; exact hV) g9 aa3.1 aa3.2 i23 h26)) ?_ (by omega)
  · split
    · exact fS_tr k2 k.2.2.2.1
    · exact fS_rf h26
  · split
    · exact okR_mono (okR_nights hW hV (by omega) _ _ _ ok) (by omega)
    · exact okm
theorem j_played {d : Nat} {τ : gS} {W V : wF} {c : Int} (hd : 100 ≤ d) (hc : c ≤ 45000) (J : JM τ W V c ∧ JC τ W V) {a1 : Int} (r1 : inR a1) : jP mX6_played mX7_played d [.int (iZ a1)] τ (c + 80) := by
  have ok := J.1.1
  have oi := J.1.2.1
  have n4 := J.1.2.2.1.2.2
  have n0 : 0 ≤ (τ.2.1 385) 1 := Int.le_trans J.1.2.2.1.1 J.1.2.2.1.2.1
  have C := J.2.1
  have h23 := J.1.2.2.2.1.1
  have h26 := J.1.2.2.2.1.2.1
  obtain ⟨hW, hV⟩ := JM_W J.1
  have g := ok.1
  have g9 : gd 90000 ((τ.2.1 385) 1) (τ.2.1 385) := gd_mono g (by omega)
  have g10 : gd 100000 ((τ.2.1 385) 1) (τ.2.1 385) := gd_mono g (by omega)
  have g98 : gd 98000 ((τ.2.1 385) 1) (τ.2.1 385) := gd_mono g (by omega)
  have g88 : gd 88000 ((τ.2.1 385) 1) (τ.2.1 385) := gd_mono g (by omega)
  have g0 := g.1
  have aa3 := ok.2.2.2.1
  have i23 : inR ((τ.1 384) 23) := by rw [h23]; unfold inR; omega
  have okm : okR (c + 80) ((τ.2.1 385) 1) (τ.2.1 385) := okR_mono ok (by omega)
  by_cases q : 0 ≤ a1 ∧ a1 < (τ.2.1 385) 1
  · obtain ⟨n1, e10⟩ : ∃ n : Nat, a1 = (n : Int) := ⟨a1.toNat, by omega⟩
    subst e10
    obtain ⟨N, sc⟩ := J.2.2.1 n1 q.2
    have cl := fun k hk => (sc.2.2.2.2 k hk).1
    have kp := okR_play hW hV (tx := n1) N 0 (τ.2.1 385) (τ.1 384) c (fun i _ b => cl i (by omega)) ok (by have := sc.2.1; omega) h26
    have N24 := sc.2.1
    exact j_cmd J (x_played (by omega) (by omega) (τ.1 384) h23 h26 τ (by omega) n4 ok oi C hW hV q.2 sc) (fun σ1 e7 e6 => qm_b kp.2 (m_played (by omega) σ1 _ _ (τ.2.1 387) e7 hW hV (by omega) sc.2.2.1 sc.2.1 cl q.2 n4 g88 aa3.1 aa3.2 i23 h26)) (okR_mono kp.1 (by omega)) (by omega)
  · exact j_cmd J (qx_same C (x_played0 (by omega) r1 τ (by omega) n4 ok oi C q)) (fun σ1 e7 e6 => (qm_a h26 (m_played0 (by omega) r1 σ1 _ _ n0 n4 q))) okm (by omega)
theorem j_years {d : Nat} {τ : gS} {W V : wF} {c : Int} (hd : 100 ≤ d) (hc : c ≤ 45000) (J : JM τ W V c ∧ JC τ W V) {a1 a2 : Int} (r1 : inR a1) (r2 : inR a2) : jP mX6_years mX7_years d [.int (iZ a1), .int (iZ a2)] τ (c + 80) := by
  have ok := J.1.1
  have oi := J.1.2.1
  have n4 := J.1.2.2.1.2.2
  have n0 : 0 ≤ (τ.2.1 385) 1 := Int.le_trans J.1.2.2.1.1 J.1.2.2.1.2.1
  have C := J.2.1
  have h23 := J.1.2.2.2.1.1
  have h26 := J.1.2.2.2.1.2.1
  obtain ⟨hW, hV⟩ := JM_W J.1
  have g := ok.1
  have g9 : gd 90000 ((τ.2.1 385) 1) (τ.2.1 385) := gd_mono g (by omega)
  have g10 : gd 100000 ((τ.2.1 385) 1) (τ.2.1 385) := gd_mono g (by omega)
  have g98 : gd 98000 ((τ.2.1 385) 1) (τ.2.1 385) := gd_mono g (by omega)
  have g88 : gd 88000 ((τ.2.1 385) 1) (τ.2.1 385) := gd_mono g (by omega)
  have g0 := g.1
  have aa3 := ok.2.2.2.1
  have i23 : inR ((τ.1 384) 23) := by rw [h23]; unfold inR; omega
  have okm : okR (c + 80) ((τ.2.1 385) 1) (τ.2.1 385) := okR_mono ok (by omega)
  refine j_cmd J (x_years (by omega) r1 r2 (τ.1 384) h23 τ (by omega) n4 ok oi C hW hV) (fun σ1 e7 e6 => qm_b ?_ (m_years (by omega) r1 r2 σ1 _ _ (by rw [e7]; exact hW) (by rw [e7]; exact hV) g88 aa3.1 aa3.2 i23 h26)) ?_ (by omega)
  · split
    · rename_i q
      exact (okR_yr hW hV a2.toNat _ (τ.1 384) c (okR_x (okR_keep ok) (by omega) (by omega)) (by omega) h26).2
    · exact fS_rf h26
  · split
    · rename_i q
      exact okR_mono (okR_yr hW hV a2.toNat _ (τ.1 384) c (okR_x (okR_keep ok) (by omega) (by omega)) (by omega) h26).1 (by omega)
    · exact okm
theorem j_undo {d : Nat} {τ : gS} {W V : wF} {c : Int} (hd : 100 ≤ d) (hc : c ≤ 45000) (J : JM τ W V c ∧ JC τ W V) : jP mX6_undo mX7_undo d [] τ (c + 80) := by
  have ok := J.1.1
  have oi := J.1.2.1
  have n4 := J.1.2.2.1.2.2
  have n0 : 0 ≤ (τ.2.1 385) 1 := Int.le_trans J.1.2.2.1.1 J.1.2.2.1.2.1
  have C := J.2.1
  have h23 := J.1.2.2.2.1.1
  have h26 := J.1.2.2.2.1.2.1
  obtain ⟨hW, hV⟩ := JM_W J.1
  have g := ok.1
  have g9 : gd 90000 ((τ.2.1 385) 1) (τ.2.1 385) := gd_mono g (by omega)
  have g10 : gd 100000 ((τ.2.1 385) 1) (τ.2.1 385) := gd_mono g (by omega)
  have g98 : gd 98000 ((τ.2.1 385) 1) (τ.2.1 385) := gd_mono g (by omega)
  have g88 : gd 88000 ((τ.2.1 385) 1) (τ.2.1 385) := gd_mono g (by omega)
  have g0 := g.1
  have aa3 := ok.2.2.2.1
  have i23 : inR ((τ.1 384) 23) := by rw [h23]; unfold inR; omega
  have okm : okR (c + 80) ((τ.2.1 385) 1) (τ.2.1 385) := okR_mono ok (by omega)
  by_cases q : (τ.2.1 385) 3 = 0
  · exact j_cmd J (qx_same C (x_undo0 τ (by omega) n4 ok oi C q)) (fun σ1 e7 e6 => (qm_a h26 (m_undo0 σ1 _ _ q))) okm (by omega)
  · obtain ⟨k, ek⟩ : ∃ k : Nat, (τ.2.1 385) 3 = (k : Int) + 1 := ⟨((τ.2.1 385) 3).toNat - 1, by omega⟩
    have kz := (ok.2.2.2.2.2.2.2.2.1 k (by omega)).1
    exact j_cmd J (x_undo (by omega) τ (by omega) n4 ok oi C ek) (fun σ1 e7 e6 => qm_a h26 (m_undo (p0 := pz (τ.2.1 385) k) σ1 _ _ ek (by omega) g0.1 g0.2 (by unfold pz; omega) (by unfold pz; omega))) (okR_mono (okR_undo ok ek) (by omega)) (by omega)
theorem j_need {d : Nat} {τ : gS} {W V : wF} {c : Int} (hd : 100 ≤ d) (hc : c ≤ 45000) (J : JM τ W V c ∧ JC τ W V) {a1 a2 : Int} (r1 : inR a1) (r2 : inR a2) : jP mX6_need mX7_need d [.int (iZ a1), .int (iZ a2)] τ (c + 80) := by
  have ok := J.1.1
  have oi := J.1.2.1
  have n4 := J.1.2.2.1.2.2
  have n0 : 0 ≤ (τ.2.1 385) 1 := Int.le_trans J.1.2.2.1.1 J.1.2.2.1.2.1
  have C := J.2.1
  have h23 := J.1.2.2.2.1.1
  have h26 := J.1.2.2.2.1.2.1
  obtain ⟨hW, hV⟩ := JM_W J.1
  have g := ok.1
  have g9 : gd 90000 ((τ.2.1 385) 1) (τ.2.1 385) := gd_mono g (by omega)
  have g10 : gd 100000 ((τ.2.1 385) 1) (τ.2.1 385) := gd_mono g (by omega)
  have g98 : gd 98000 ((τ.2.1 385) 1) (τ.2.1 385) := gd_mono g (by omega)
  have g88 : gd 88000 ((τ.2.1 385) 1) (τ.2.1 385) := gd_mono g (by omega)
  have g0 := g.1
  have aa3 := ok.2.2.2.1
  have i23 : inR ((τ.1 384) 23) := by rw [h23]; unfold inR; omega
  have okm : okR (c + 80) ((τ.2.1 385) 1) (τ.2.1 385) := okR_mono ok (by omega)
  refine j_cmd J (x_need (by omega) r1 r2 τ (by omega) n4 ok oi C) (fun σ1 e7 e6 => qm_a h26 (m_need (by omega) r1 r2 σ1 _ _)) ?_ (by omega)
  split
  · rename_i q
    have e : ∀ i, i ≠ (29 + a1).toNat → va_up (τ.2.1 385) (29 + a1).toNat (a2 + 1) i = (τ.2.1 385) i := fun i h => va_up_ne _ _ h
    refine okR_mono (okR_mark ok (fun i h => e i (fun z => h (by unfold mkI; omega))) (e 1 (by omega)) (by rw [e 2 (by omega), ← ok.2.2.1]; exact ok_2 ok) (by rw [e 4 (by omega)]; exact ok.2.2.2.2.1) (fun h hh => ?_) (fun i hi => ?_)) (by omega)
    · by_cases z : 29 + h = (29 + a1).toNat
      · rw [z, va_up_self]; omega
      · rw [e _ z]; exact ok.2.2.2.2.2.1 h hh
    · rw [e 4 (by omega)] at hi
      rw [e _ (by omega), e _ (by omega)]
      exact ok.2.2.2.2.2.2.1 i hi
  · exact okm
theorem j_said {d : Nat} {τ : gS} {W V : wF} {c : Int} (hd : 100 ≤ d) (hc : c ≤ 45000) (J : JM τ W V c ∧ JC τ W V) {a1 a2 : Int} (r1 : inR a1) (r2 : inR a2) : jP mX6_said mX7_said d [.int (iZ a1), .int (iZ a2)] τ (c + 80) := by
  have ok := J.1.1
  have oi := J.1.2.1
  have n4 := J.1.2.2.1.2.2
  have n0 : 0 ≤ (τ.2.1 385) 1 := Int.le_trans J.1.2.2.1.1 J.1.2.2.1.2.1
  have C := J.2.1
  have h23 := J.1.2.2.2.1.1
  have h26 := J.1.2.2.2.1.2.1
  obtain ⟨hW, hV⟩ := JM_W J.1
  have g := ok.1
  have g9 : gd 90000 ((τ.2.1 385) 1) (τ.2.1 385) := gd_mono g (by omega)
  have g10 : gd 100000 ((τ.2.1 385) 1) (τ.2.1 385) := gd_mono g (by omega)
  have g98 : gd 98000 ((τ.2.1 385) 1) (τ.2.1 385) := gd_mono g (by omega)
  have g88 : gd 88000 ((τ.2.1 385) 1) (τ.2.1 385) := gd_mono g (by omega)
  have g0 := g.1
  have aa3 := ok.2.2.2.1
  have i23 : inR ((τ.1 384) 23) := by rw [h23]; unfold inR; omega
  have okm : okR (c + 80) ((τ.2.1 385) 1) (τ.2.1 385) := okR_mono ok (by omega)
  have a4 := ok.2.2.2.2.1
  refine j_cmd J (x_said (by omega) r1 r2 τ (by omega) n4 ok oi C) (fun σ1 e7 e6 => qm_a h26 (m_said (by omega) r1 r2 σ1 _ _ a4.1 a4.2)) ?_ (by omega)
  split
  · have e : ∀ i, i ≠ 4 → va_up (τ.2.1 385) 4 0 i = (τ.2.1 385) i := fun i h => va_up_ne _ _ h
    refine okR_mono (okR_mark ok (fun i h => e i (fun z => h (by unfold mkI; omega))) (e 1 (by omega)) (by rw [e 2 (by omega), ← ok.2.2.1]; exact ok_2 ok) (by rw [va_up_self]; omega) (fun h hh => by rw [e _ (by omega)]; exact ok.2.2.2.2.2.1 h hh) (fun i hi => ?_)) (by omega)
    rw [va_up_self] at hi
    omega
  split
  · exact okm
  · rename_i q
    have ex : (37 + 2 * (τ.2.1 385) 4).toNat = 37 + 2 * ((τ.2.1 385) 4).toNat := by omega
    have ey : (37 + 2 * (τ.2.1 385) 4 + 1).toNat = 37 + 2 * ((τ.2.1 385) 4).toNat + 1 := by omega
    rw [ex, ey]
    have e : ∀ i, i ≠ 4 → i ≠ 37 + 2 * ((τ.2.1 385) 4).toNat → i ≠ 37 + 2 * ((τ.2.1 385) 4).toNat + 1 → va_up (va_up (va_up (τ.2.1 385) (37 + 2 * ((τ.2.1 385) 4).toNat) a1) (37 + 2 * ((τ.2.1 385) 4).toNat + 1) a2) 4 ((τ.2.1 385) 4 + 1) i = (τ.2.1 385) i := fun i h h2 h3 => (va_up_ne _ _ h).trans ((va_up_ne _ _ h3).trans (va_up_ne _ _ h2))
    refine okR_mono (okR_mark ok (fun i h => e i (fun z => h (by unfold mkI; omega)) (fun z => h (by unfold mkI; omega)) (fun z => h (by unfold mkI; omega))) (e 1 (by omega) (by omega) (by omega)) (by rw [e 2 (by omega) (by omega) (by omega), ← ok.2.2.1]; exact ok_2 ok) (by rw [va_up_self]; omega) (fun h hh => by rw [e _ (by omega) (by omega) (by omega)]; exact ok.2.2.2.2.2.1 h hh) (fun i hi => ?_)) (by omega)
    rw [va_up_self] at hi
    by_cases z : i = ((τ.2.1 385) 4).toNat
    · rw [z, va_up_ne _ _ (by omega), va_up_ne _ _ (by omega), va_up_self, va_up_ne _ _ (by omega), va_up_self]
      omega
    · rw [e _ (by omega) (by omega) (by omega), e _ (by omega) (by omega) (by omega)]
      exact ok.2.2.2.2.2.2.1 i (by omega)
theorem j_of {d : Nat} {τ : gS} {W V : wF} {c : Int} (hd : 100 ≤ d) (hc : c ≤ 45000) (J : JM τ W V c ∧ JC τ W V) {a1 a2 : Int} (r1 : inR a1) (r2 : inR a2) : jP mX6_of mX7_of d [.int (iZ a1), .int (iZ a2)] τ (c + 80) := by
  have ok := J.1.1
  have oi := J.1.2.1
  have n4 := J.1.2.2.1.2.2
  have n0 : 0 ≤ (τ.2.1 385) 1 := Int.le_trans J.1.2.2.1.1 J.1.2.2.1.2.1
  have C := J.2.1
  have h23 := J.1.2.2.2.1.1
  have h26 := J.1.2.2.2.1.2.1
  obtain ⟨hW, hV⟩ := JM_W J.1
  have g := ok.1
  have g9 : gd 90000 ((τ.2.1 385) 1) (τ.2.1 385) := gd_mono g (by omega)
  have g10 : gd 100000 ((τ.2.1 385) 1) (τ.2.1 385) := gd_mono g (by omega)
  have g98 : gd 98000 ((τ.2.1 385) 1) (τ.2.1 385) := gd_mono g (by omega)
  have g88 : gd 88000 ((τ.2.1 385) 1) (τ.2.1 385) := gd_mono g (by omega)
  have g0 := g.1
  have aa3 := ok.2.2.2.1
  have i23 : inR ((τ.1 384) 23) := by rw [h23]; unfold inR; omega
  have okm : okR (c + 80) ((τ.2.1 385) 1) (τ.2.1 385) := okR_mono ok (by omega)
  by_cases q : 0 ≤ a1 ∧ a1 < 8
  · obtain ⟨n1, e10⟩ : ∃ n : Nat, a1 = (n : Int) := ⟨a1.toNat, by omega⟩
    subst e10
    exact j_cmd J (qx_scr ok oi C (x_of (h := n1) (by omega) (by omega) r2 τ (by omega) n4 ok oi C)) (fun σ1 e7 e6 => (qm_b (fS_rf h26) (m_of (h := n1) (by omega) (by omega) r2 σ1 _ _ (by rw [e7]; exact hW) (by rw [e7]; exact hV) g10))) okm (by omega)
  · exact j_cmd J (qx_same C (x_of0 (by omega) r1 q τ)) (fun σ1 e7 e6 => (qm_a h26 (m_of0 (by omega) r1 q σ1 _ _))) okm (by omega)
theorem j_ofPerson {d : Nat} {τ : gS} {W V : wF} {c : Int} (hd : 100 ≤ d) (hc : c ≤ 45000) (J : JM τ W V c ∧ JC τ W V) {a1 : Int} (r1 : inR a1) : jP mX6_ofPerson mX7_ofPerson d [.int (iZ a1)] τ (c + 80) := by
  have ok := J.1.1
  have oi := J.1.2.1
  have n4 := J.1.2.2.1.2.2
  have n0 : 0 ≤ (τ.2.1 385) 1 := Int.le_trans J.1.2.2.1.1 J.1.2.2.1.2.1
  have C := J.2.1
  have h23 := J.1.2.2.2.1.1
  have h26 := J.1.2.2.2.1.2.1
  obtain ⟨hW, hV⟩ := JM_W J.1
  have g := ok.1
  have g9 : gd 90000 ((τ.2.1 385) 1) (τ.2.1 385) := gd_mono g (by omega)
  have g10 : gd 100000 ((τ.2.1 385) 1) (τ.2.1 385) := gd_mono g (by omega)
  have g98 : gd 98000 ((τ.2.1 385) 1) (τ.2.1 385) := gd_mono g (by omega)
  have g88 : gd 88000 ((τ.2.1 385) 1) (τ.2.1 385) := gd_mono g (by omega)
  have g0 := g.1
  have aa3 := ok.2.2.2.1
  have i23 : inR ((τ.1 384) 23) := by rw [h23]; unfold inR; omega
  have okm : okR (c + 80) ((τ.2.1 385) 1) (τ.2.1 385) := okR_mono ok (by omega)
  exact j_cmd J (qx_same C (x_ofPerson (by omega) r1 τ (by omega) n4 ok oi C)) (fun σ1 e7 e6 => (qm_a h26 (m_ofPerson (by omega) r1 σ1 _ _ g0.1 g0.2))) okm (by omega)
theorem j_is {d : Nat} {τ : gS} {W V : wF} {c : Int} (hd : 100 ≤ d) (hc : c ≤ 45000) (J : JM τ W V c ∧ JC τ W V) {a1 : Int} (r1 : inR a1) : jP mX6_is mX7_is d [.int (iZ a1)] τ (c + 80) := by
  have ok := J.1.1
  have oi := J.1.2.1
  have n4 := J.1.2.2.1.2.2
  have n0 : 0 ≤ (τ.2.1 385) 1 := Int.le_trans J.1.2.2.1.1 J.1.2.2.1.2.1
  have C := J.2.1
  have h23 := J.1.2.2.2.1.1
  have h26 := J.1.2.2.2.1.2.1
  obtain ⟨hW, hV⟩ := JM_W J.1
  have g := ok.1
  have g9 : gd 90000 ((τ.2.1 385) 1) (τ.2.1 385) := gd_mono g (by omega)
  have g10 : gd 100000 ((τ.2.1 385) 1) (τ.2.1 385) := gd_mono g (by omega)
  have g98 : gd 98000 ((τ.2.1 385) 1) (τ.2.1 385) := gd_mono g (by omega)
  have g88 : gd 88000 ((τ.2.1 385) 1) (τ.2.1 385) := gd_mono g (by omega)
  have g0 := g.1
  have aa3 := ok.2.2.2.1
  have i23 : inR ((τ.1 384) 23) := by rw [h23]; unfold inR; omega
  have okm : okR (c + 80) ((τ.2.1 385) 1) (τ.2.1 385) := okR_mono ok (by omega)
  exact j_cmd J (qx_same C (x_is (by omega) r1 τ (by omega) n4 ok oi C)) (fun σ1 e7 e6 => (qm_a h26 (m_is (by omega) r1 σ1 _ _))) okm (by omega)
theorem j_book {d : Nat} {τ : gS} {W V : wF} {c : Int} (hd : 100 ≤ d) (hc : c ≤ 45000) (J : JM τ W V c ∧ JC τ W V) {a1 a2 : Int} (r1 : inR a1) (r2 : inR a2) : jP mX6_book mX7_book d [.int (iZ a1), .int (iZ a2)] τ (c + 80) := by
  have ok := J.1.1
  have oi := J.1.2.1
  have n4 := J.1.2.2.1.2.2
  have n0 : 0 ≤ (τ.2.1 385) 1 := Int.le_trans J.1.2.2.1.1 J.1.2.2.1.2.1
  have C := J.2.1
  have h23 := J.1.2.2.2.1.1
  have h26 := J.1.2.2.2.1.2.1
  obtain ⟨hW, hV⟩ := JM_W J.1
  have g := ok.1
  have g9 : gd 90000 ((τ.2.1 385) 1) (τ.2.1 385) := gd_mono g (by omega)
  have g10 : gd 100000 ((τ.2.1 385) 1) (τ.2.1 385) := gd_mono g (by omega)
  have g98 : gd 98000 ((τ.2.1 385) 1) (τ.2.1 385) := gd_mono g (by omega)
  have g88 : gd 88000 ((τ.2.1 385) 1) (τ.2.1 385) := gd_mono g (by omega)
  have g0 := g.1
  have aa3 := ok.2.2.2.1
  have i23 : inR ((τ.1 384) 23) := by rw [h23]; unfold inR; omega
  have okm : okR (c + 80) ((τ.2.1 385) 1) (τ.2.1 385) := okR_mono ok (by omega)
  exact j_cmd J (qx_same C (x_book (by omega) r1 r2 τ (by omega) n4 ok oi C)) (fun σ1 e7 e6 => (qm_a h26 (m_book (by omega) r1 r2 σ1 _ _ g10 ok.2.2.2.2.2.2.2.2.2))) okm (by omega)
theorem j_foretold {d : Nat} {τ : gS} {W V : wF} {c : Int} (hd : 100 ≤ d) (hc : c ≤ 45000) (J : JM τ W V c ∧ JC τ W V) {a1 a2 a3 : Int} (r1 : inR a1) (r2 : inR a2) (r3 : inR a3) : jP mX6_foretold mX7_foretold d [.int (iZ a1), .int (iZ a2), .int (iZ a3)] τ (c + 80) := by
  have ok := J.1.1
  have oi := J.1.2.1
  have n4 := J.1.2.2.1.2.2
  have n0 : 0 ≤ (τ.2.1 385) 1 := Int.le_trans J.1.2.2.1.1 J.1.2.2.1.2.1
  have C := J.2.1
  have h23 := J.1.2.2.2.1.1
  have h26 := J.1.2.2.2.1.2.1
  obtain ⟨hW, hV⟩ := JM_W J.1
  have g := ok.1
  have g9 : gd 90000 ((τ.2.1 385) 1) (τ.2.1 385) := gd_mono g (by omega)
  have g10 : gd 100000 ((τ.2.1 385) 1) (τ.2.1 385) := gd_mono g (by omega)
  have g98 : gd 98000 ((τ.2.1 385) 1) (τ.2.1 385) := gd_mono g (by omega)
  have g88 : gd 88000 ((τ.2.1 385) 1) (τ.2.1 385) := gd_mono g (by omega)
  have g0 := g.1
  have aa3 := ok.2.2.2.1
  have i23 : inR ((τ.1 384) 23) := by rw [h23]; unfold inR; omega
  have okm : okR (c + 80) ((τ.2.1 385) 1) (τ.2.1 385) := okR_mono ok (by omega)
  exact j_cmd J (qx_scr ok oi C (x_foretold (by omega) r1 r2 r3 τ (by omega) n4 ok oi C)) (fun σ1 e7 e6 => (qm_c (m_foretold (by omega) r1 r2 r3 σ1 _ _ h23 h26 (by rw [e7]; exact hW) (by rw [e7]; exact hV) g88))) okm (by omega)
theorem j_rest {d : Nat} {τ : gS} {W V : wF} {c : Int} (hd : 100 ≤ d) (hc : c ≤ 45000) (J : JM τ W V c ∧ JC τ W V) {a1 a2 : Int} (r1 : inR a1) (r2 : inR a2) : jP mX6_rest mX7_rest d [.int (iZ a1), .int (iZ a2)] τ (c + 80) := by
  have ok := J.1.1
  have oi := J.1.2.1
  have n4 := J.1.2.2.1.2.2
  have n0 : 0 ≤ (τ.2.1 385) 1 := Int.le_trans J.1.2.2.1.1 J.1.2.2.1.2.1
  have C := J.2.1
  have h23 := J.1.2.2.2.1.1
  have h26 := J.1.2.2.2.1.2.1
  obtain ⟨hW, hV⟩ := JM_W J.1
  have g := ok.1
  have g9 : gd 90000 ((τ.2.1 385) 1) (τ.2.1 385) := gd_mono g (by omega)
  have g10 : gd 100000 ((τ.2.1 385) 1) (τ.2.1 385) := gd_mono g (by omega)
  have g98 : gd 98000 ((τ.2.1 385) 1) (τ.2.1 385) := gd_mono g (by omega)
  have g88 : gd 88000 ((τ.2.1 385) 1) (τ.2.1 385) := gd_mono g (by omega)
  have g0 := g.1
  have aa3 := ok.2.2.2.1
  have i23 : inR ((τ.1 384) 23) := by rw [h23]; unfold inR; omega
  have okm : okR (c + 80) ((τ.2.1 385) 1) (τ.2.1 385) := okR_mono ok (by omega)
  by_cases q : (0 ≤ a1 ∧ a1 < 8) ∧ (0 ≤ a2 ∧ a2 ≤ 1)
  · obtain ⟨n1, e10⟩ : ∃ n : Nat, a1 = (n : Int) := ⟨a1.toNat, by omega⟩
    subst e10
    exact j_cmd J (qx_scr ok oi C (x_rest (q := n1) (by omega) (by omega) (u := a2) (by omega) τ (by omega) n4 ok oi C)) (fun σ1 e7 e6 => (qm_c (m_rest (q := n1) (by omega) (by omega) (u := a2) (by omega) σ1 _ _ h23 h26 (by rw [e7]; exact hW) g10))) okm (by omega)
  · exact j_cmd J (qx_same C (x_rest0 (by omega) r1 r2 q τ)) (fun σ1 e7 e6 => (qm_a h26 (m_rest0 (by omega) r1 r2 q σ1 _ _))) okm (by omega)
theorem j_wave {d : Nat} {τ : gS} {W V : wF} {c : Int} (hd : 100 ≤ d) (hc : c ≤ 45000) (J : JM τ W V c ∧ JC τ W V) {a1 : Int} (r1 : inR a1) : jP mX6_wave mX7_wave d [.int (iZ a1)] τ (c + 80) := by
  have ok := J.1.1
  have oi := J.1.2.1
  have n4 := J.1.2.2.1.2.2
  have n0 : 0 ≤ (τ.2.1 385) 1 := Int.le_trans J.1.2.2.1.1 J.1.2.2.1.2.1
  have C := J.2.1
  have h23 := J.1.2.2.2.1.1
  have h26 := J.1.2.2.2.1.2.1
  obtain ⟨hW, hV⟩ := JM_W J.1
  have g := ok.1
  have g9 : gd 90000 ((τ.2.1 385) 1) (τ.2.1 385) := gd_mono g (by omega)
  have g10 : gd 100000 ((τ.2.1 385) 1) (τ.2.1 385) := gd_mono g (by omega)
  have g98 : gd 98000 ((τ.2.1 385) 1) (τ.2.1 385) := gd_mono g (by omega)
  have g88 : gd 88000 ((τ.2.1 385) 1) (τ.2.1 385) := gd_mono g (by omega)
  have g0 := g.1
  have aa3 := ok.2.2.2.1
  have i23 : inR ((τ.1 384) 23) := by rw [h23]; unfold inR; omega
  have okm : okR (c + 80) ((τ.2.1 385) 1) (τ.2.1 385) := okR_mono ok (by omega)
  by_cases q : 0 ≤ a1 ∧ a1 < 8
  · obtain ⟨n1, e10⟩ : ∃ n : Nat, a1 = (n : Int) := ⟨a1.toNat, by omega⟩
    subst e10
    exact j_cmd J (qx_scr ok oi C (x_wave (j := n1) (by omega) (by omega) τ (by omega) n4 ok oi C)) (fun σ1 e7 e6 => (qm_c (m_wave (j := n1) (by omega) (by omega) σ1 _ _ h23 h26 (by rw [e7]; exact hW) g10))) okm (by omega)
  · exact j_cmd J (qx_same C (x_wave0 (by omega) r1 q τ)) (fun σ1 e7 e6 => (qm_a h26 (m_wave0 (by omega) r1 q σ1 _ _))) okm (by omega)
theorem j_greatest {d : Nat} {τ : gS} {W V : wF} {c : Int} (hd : 100 ≤ d) (hc : c ≤ 45000) (J : JM τ W V c ∧ JC τ W V) {a1 : Int} (r1 : a1 = 0 ∨ a1 = 1) : jP mX6_greatest mX7_greatest d [.int (iZ a1)] τ (c + 80) := by
  have ok := J.1.1
  have oi := J.1.2.1
  have n4 := J.1.2.2.1.2.2
  have n0 : 0 ≤ (τ.2.1 385) 1 := Int.le_trans J.1.2.2.1.1 J.1.2.2.1.2.1
  have C := J.2.1
  have h23 := J.1.2.2.2.1.1
  have h26 := J.1.2.2.2.1.2.1
  obtain ⟨hW, hV⟩ := JM_W J.1
  have g := ok.1
  have g9 : gd 90000 ((τ.2.1 385) 1) (τ.2.1 385) := gd_mono g (by omega)
  have g10 : gd 100000 ((τ.2.1 385) 1) (τ.2.1 385) := gd_mono g (by omega)
  have g98 : gd 98000 ((τ.2.1 385) 1) (τ.2.1 385) := gd_mono g (by omega)
  have g88 : gd 88000 ((τ.2.1 385) 1) (τ.2.1 385) := gd_mono g (by omega)
  have g0 := g.1
  have aa3 := ok.2.2.2.1
  have i23 : inR ((τ.1 384) 23) := by rw [h23]; unfold inR; omega
  have okm : okR (c + 80) ((τ.2.1 385) 1) (τ.2.1 385) := okR_mono ok (by omega)
  exact j_cmd J (qx_scr ok oi C (x_greatest (by omega) r1 τ (by omega) n4 ok oi C)) (fun σ1 e7 e6 => (qm_c (m_greatest (by omega) r1 σ1 _ _ h23 h26 (by rw [e7]; exact hW) g10))) okm (by omega)
theorem j_reached {d : Nat} {τ : gS} {W V : wF} {c : Int} (hd : 100 ≤ d) (hc : c ≤ 45000) (J : JM τ W V c ∧ JC τ W V) {a1 : Int} (r1 : inR a1) : jP mX6_reached mX7_reached d [.int (iZ a1)] τ (c + 80) := by
  have ok := J.1.1
  have oi := J.1.2.1
  have n4 := J.1.2.2.1.2.2
  have n0 : 0 ≤ (τ.2.1 385) 1 := Int.le_trans J.1.2.2.1.1 J.1.2.2.1.2.1
  have C := J.2.1
  have h23 := J.1.2.2.2.1.1
  have h26 := J.1.2.2.2.1.2.1
  obtain ⟨hW, hV⟩ := JM_W J.1
  have g := ok.1
  have g9 : gd 90000 ((τ.2.1 385) 1) (τ.2.1 385) := gd_mono g (by omega)
  have g10 : gd 100000 ((τ.2.1 385) 1) (τ.2.1 385) := gd_mono g (by omega)
  have g98 : gd 98000 ((τ.2.1 385) 1) (τ.2.1 385) := gd_mono g (by omega)
  have g88 : gd 88000 ((τ.2.1 385) 1) (τ.2.1 385) := gd_mono g (by omega)
  have g0 := g.1
  have aa3 := ok.2.2.2.1
  have i23 : inR ((τ.1 384) 23) := by rw [h23]; unfold inR; omega
  have okm : okR (c + 80) ((τ.2.1 385) 1) (τ.2.1 385) := okR_mono ok (by omega)
  by_cases q : 0 ≤ a1 ∧ a1 < 8
  · obtain ⟨n1, e10⟩ : ∃ n : Nat, a1 = (n : Int) := ⟨a1.toNat, by omega⟩
    subst e10
    exact j_cmd J (qx_scr ok oi C (x_reached (j := n1) (by omega) (by omega) τ (by omega) n4 ok oi C)) (fun σ1 e7 e6 => (qm_c (m_reached (j := n1) (by omega) (by omega) σ1 _ _ h23 h26 (by rw [e7]; exact hW) g10))) okm (by omega)
  · exact j_cmd J (qx_same C (x_reached0 (by omega) r1 q τ)) (fun σ1 e7 e6 => (qm_a h26 (m_reached0 (by omega) r1 q σ1 _ _))) okm (by omega)
theorem j_waves {d : Nat} {τ : gS} {W V : wF} {c : Int} (hd : 100 ≤ d) (hc : c ≤ 45000) (J : JM τ W V c ∧ JC τ W V) {a1 a2 : Int} (r1 : inR a1) (r2 : inR a2) : jP mX6_waves mX7_waves d [.int (iZ a1), .int (iZ a2)] τ (c + 80) := by
  have ok := J.1.1
  have oi := J.1.2.1
  have n4 := J.1.2.2.1.2.2
  have n0 : 0 ≤ (τ.2.1 385) 1 := Int.le_trans J.1.2.2.1.1 J.1.2.2.1.2.1
  have C := J.2.1
  have h23 := J.1.2.2.2.1.1
  have h26 := J.1.2.2.2.1.2.1
  obtain ⟨hW, hV⟩ := JM_W J.1
  have g := ok.1
  have g9 : gd 90000 ((τ.2.1 385) 1) (τ.2.1 385) := gd_mono g (by omega)
  have g10 : gd 100000 ((τ.2.1 385) 1) (τ.2.1 385) := gd_mono g (by omega)
  have g98 : gd 98000 ((τ.2.1 385) 1) (τ.2.1 385) := gd_mono g (by omega)
  have g88 : gd 88000 ((τ.2.1 385) 1) (τ.2.1 385) := gd_mono g (by omega)
  have g0 := g.1
  have aa3 := ok.2.2.2.1
  have i23 : inR ((τ.1 384) 23) := by rw [h23]; unfold inR; omega
  have okm : okR (c + 80) ((τ.2.1 385) 1) (τ.2.1 385) := okR_mono ok (by omega)
  by_cases q : (0 ≤ a1 ∧ a1 < 8) ∧ (0 ≤ a2 ∧ a2 < 8) ∧ a1 ≠ a2
  · obtain ⟨n1, e10⟩ : ∃ n : Nat, a1 = (n : Int) := ⟨a1.toNat, by omega⟩
    subst e10
    obtain ⟨n2, e20⟩ : ∃ n : Nat, a2 = (n : Int) := ⟨a2.toNat, by omega⟩
    subst e20
    exact j_cmd J (qx_scr ok oi C (x_waves (i := n1) (j := n2) (by omega) (by omega) (by omega) (by omega) τ (by omega) n4 ok oi C)) (fun σ1 e7 e6 => (qm_c (m_waves (i := n1) (j := n2) (by omega) (by omega) (by omega) (by omega) σ1 _ _ h23 h26 (by rw [e7]; exact hW) g10))) okm (by omega)
  · exact j_cmd J (qx_same C (x_waves0 (by omega) r1 r2 q τ)) (fun σ1 e7 e6 => (qm_a h26 (m_waves0 (by omega) r1 r2 q σ1 _ _))) okm (by omega)
theorem j_until {d : Nat} {τ : gS} {W V : wF} {c : Int} (hd : 100 ≤ d) (hc : c ≤ 45000) (J : JM τ W V c ∧ JC τ W V) {a1 a2 : Int} (r1 : inR a1) (r2 : inR a2) : jP mX6_until mX7_until d [.int (iZ a1), .int (iZ a2)] τ (c + 80) := by
  have ok := J.1.1
  have oi := J.1.2.1
  have n4 := J.1.2.2.1.2.2
  have n0 : 0 ≤ (τ.2.1 385) 1 := Int.le_trans J.1.2.2.1.1 J.1.2.2.1.2.1
  have C := J.2.1
  have h23 := J.1.2.2.2.1.1
  have h26 := J.1.2.2.2.1.2.1
  obtain ⟨hW, hV⟩ := JM_W J.1
  have g := ok.1
  have g9 : gd 90000 ((τ.2.1 385) 1) (τ.2.1 385) := gd_mono g (by omega)
  have g10 : gd 100000 ((τ.2.1 385) 1) (τ.2.1 385) := gd_mono g (by omega)
  have g98 : gd 98000 ((τ.2.1 385) 1) (τ.2.1 385) := gd_mono g (by omega)
  have g88 : gd 88000 ((τ.2.1 385) 1) (τ.2.1 385) := gd_mono g (by omega)
  have g0 := g.1
  have aa3 := ok.2.2.2.1
  have i23 : inR ((τ.1 384) 23) := by rw [h23]; unfold inR; omega
  have okm : okR (c + 80) ((τ.2.1 385) 1) (τ.2.1 385) := okR_mono ok (by omega)
  by_cases q : (0 ≤ a1 ∧ a1 < 8) ∧ (0 ≤ a2 ∧ a2 < 8)
  · obtain ⟨n1, e10⟩ : ∃ n : Nat, a1 = (n : Int) := ⟨a1.toNat, by omega⟩
    subst e10
    obtain ⟨n2, e20⟩ : ∃ n : Nat, a2 = (n : Int) := ⟨a2.toNat, by omega⟩
    subst e20
    exact j_cmd J (qx_scr ok oi C (x_until (h := n1) (k := n2) (by omega) (by omega) (by omega) τ (by omega) n4 ok oi C)) (fun σ1 e7 e6 => (qm_c (m_until (h := n1) (k := n2) (by omega) (by omega) (by omega) σ1 _ _ h23 h26 (by rw [e7]; exact hW) g10))) okm (by omega)
  · exact j_cmd J (qx_same C (x_until0 (by omega) r1 r2 q τ)) (fun σ1 e7 e6 => (qm_a h26 (m_until0 (by omega) r1 r2 q σ1 _ _))) okm (by omega)
theorem j_mover {d : Nat} {τ : gS} {W V : wF} {c : Int} (hd : 100 ≤ d) (hc : c ≤ 45000) (J : JM τ W V c ∧ JC τ W V) {a1 : Int} (r1 : a1 = 0 ∨ a1 = 1) : jP mX6_mover mX7_mover d [.int (iZ a1)] τ (c + 80) := by
  have ok := J.1.1
  have oi := J.1.2.1
  have n4 := J.1.2.2.1.2.2
  have n0 : 0 ≤ (τ.2.1 385) 1 := Int.le_trans J.1.2.2.1.1 J.1.2.2.1.2.1
  have C := J.2.1
  have h23 := J.1.2.2.2.1.1
  have h26 := J.1.2.2.2.1.2.1
  obtain ⟨hW, hV⟩ := JM_W J.1
  have g := ok.1
  have g9 : gd 90000 ((τ.2.1 385) 1) (τ.2.1 385) := gd_mono g (by omega)
  have g10 : gd 100000 ((τ.2.1 385) 1) (τ.2.1 385) := gd_mono g (by omega)
  have g98 : gd 98000 ((τ.2.1 385) 1) (τ.2.1 385) := gd_mono g (by omega)
  have g88 : gd 88000 ((τ.2.1 385) 1) (τ.2.1 385) := gd_mono g (by omega)
  have g0 := g.1
  have aa3 := ok.2.2.2.1
  have i23 : inR ((τ.1 384) 23) := by rw [h23]; unfold inR; omega
  have okm : okR (c + 80) ((τ.2.1 385) 1) (τ.2.1 385) := okR_mono ok (by omega)
  exact j_cmd J (qx_scr ok oi C (x_mover (by omega) r1 τ (by omega) n4 ok oi C)) (fun σ1 e7 e6 => (qm_c (m_mover (by omega) r1 σ1 _ _ h23 h26 (by rw [e7]; exact hW) g10))) okm (by omega)
theorem j_again {d : Nat} {τ : gS} {W V : wF} {c : Int} (hd : 100 ≤ d) (hc : c ≤ 45000) (J : JM τ W V c ∧ JC τ W V) : jP mX6_again mX7_again d [] τ (c + 80) := by
  have ok := J.1.1
  have oi := J.1.2.1
  have n4 := J.1.2.2.1.2.2
  have n0 : 0 ≤ (τ.2.1 385) 1 := Int.le_trans J.1.2.2.1.1 J.1.2.2.1.2.1
  have C := J.2.1
  have h23 := J.1.2.2.2.1.1
  have h26 := J.1.2.2.2.1.2.1
  obtain ⟨hW, hV⟩ := JM_W J.1
  have g := ok.1
  have g9 : gd 90000 ((τ.2.1 385) 1) (τ.2.1 385) := gd_mono g (by omega)
  have g10 : gd 100000 ((τ.2.1 385) 1) (τ.2.1 385) := gd_mono g (by omega)
  have g98 : gd 98000 ((τ.2.1 385) 1) (τ.2.1 385) := gd_mono g (by omega)
  have g88 : gd 88000 ((τ.2.1 385) 1) (τ.2.1 385) := gd_mono g (by omega)
  have g0 := g.1
  have aa3 := ok.2.2.2.1
  have i23 : inR ((τ.1 384) 23) := by rw [h23]; unfold inR; omega
  have okm : okR (c + 80) ((τ.2.1 385) 1) (τ.2.1 385) := okR_mono ok (by omega)
  exact j_cmd J (qx_scr ok oi C (x_again (by omega) τ (by omega) n4 ok oi C)) (fun σ1 e7 e6 => (qm_c (m_again (by omega) σ1 _ _ h23 h26 (by rw [e7]; exact hW) g10))) okm (by omega)
theorem j_period {d : Nat} {τ : gS} {W V : wF} {c : Int} (hd : 100 ≤ d) (hc : c ≤ 45000) (J : JM τ W V c ∧ JC τ W V) {a1 a2 : Int} (r1 : inR a1) (r2 : a2 = 0 ∨ a2 = 1) : jP mX6_period mX7_period d [.int (iZ a1), .int (iZ a2)] τ (c + 80) := by
  have ok := J.1.1
  have oi := J.1.2.1
  have n4 := J.1.2.2.1.2.2
  have n0 : 0 ≤ (τ.2.1 385) 1 := Int.le_trans J.1.2.2.1.1 J.1.2.2.1.2.1
  have C := J.2.1
  have h23 := J.1.2.2.2.1.1
  have h26 := J.1.2.2.2.1.2.1
  obtain ⟨hW, hV⟩ := JM_W J.1
  have g := ok.1
  have g9 : gd 90000 ((τ.2.1 385) 1) (τ.2.1 385) := gd_mono g (by omega)
  have g10 : gd 100000 ((τ.2.1 385) 1) (τ.2.1 385) := gd_mono g (by omega)
  have g98 : gd 98000 ((τ.2.1 385) 1) (τ.2.1 385) := gd_mono g (by omega)
  have g88 : gd 88000 ((τ.2.1 385) 1) (τ.2.1 385) := gd_mono g (by omega)
  have g0 := g.1
  have aa3 := ok.2.2.2.1
  have i23 : inR ((τ.1 384) 23) := by rw [h23]; unfold inR; omega
  have okm : okR (c + 80) ((τ.2.1 385) 1) (τ.2.1 385) := okR_mono ok (by omega)
  by_cases q : 0 ≤ a1 ∧ a1 < 8
  · obtain ⟨n1, e10⟩ : ∃ n : Nat, a1 = (n : Int) := ⟨a1.toNat, by omega⟩
    subst e10
    exact j_cmd J (qx_scr ok oi C (x_period (h := n1) (by omega) (by omega) r2 τ (by omega) n4 ok oi C)) (fun σ1 e7 e6 => (qm_c (m_period (h := n1) (by omega) (by omega) r2 σ1 _ _ h23 h26 (by rw [e7]; exact hW) g10))) okm (by omega)
  · exact j_cmd J (qx_same C (x_period0 (by omega) r1 q τ)) (fun σ1 e7 e6 => (qm_a h26 (m_period0 (by omega) r1 q σ1 _ _))) okm (by omega)
theorem j_least {d : Nat} {τ : gS} {W V : wF} {c : Int} (hd : 100 ≤ d) (hc : c ≤ 45000) (J : JM τ W V c ∧ JC τ W V) {a1 a2 : Int} (r1 : inR a1) (r2 : a2 = 0 ∨ a2 = 1) : jP mX6_least mX7_least d [.int (iZ a1), .int (iZ a2)] τ (c + 80) := by
  have ok := J.1.1
  have oi := J.1.2.1
  have n4 := J.1.2.2.1.2.2
  have n0 : 0 ≤ (τ.2.1 385) 1 := Int.le_trans J.1.2.2.1.1 J.1.2.2.1.2.1
  have C := J.2.1
  have h23 := J.1.2.2.2.1.1
  have h26 := J.1.2.2.2.1.2.1
  obtain ⟨hW, hV⟩ := JM_W J.1
  have g := ok.1
  have g9 : gd 90000 ((τ.2.1 385) 1) (τ.2.1 385) := gd_mono g (by omega)
  have g10 : gd 100000 ((τ.2.1 385) 1) (τ.2.1 385) := gd_mono g (by omega)
  have g98 : gd 98000 ((τ.2.1 385) 1) (τ.2.1 385) := gd_mono g (by omega)
  have g88 : gd 88000 ((τ.2.1 385) 1) (τ.2.1 385) := gd_mono g (by omega)
  have g0 := g.1
  have aa3 := ok.2.2.2.1
  have i23 : inR ((τ.1 384) 23) := by rw [h23]; unfold inR; omega
  have okm : okR (c + 80) ((τ.2.1 385) 1) (τ.2.1 385) := okR_mono ok (by omega)
  by_cases q : 0 ≤ a1 ∧ a1 < (τ.2.1 385) 0
  · obtain ⟨n1, e10⟩ : ∃ n : Nat, a1 = (n : Int) := ⟨a1.toNat, by omega⟩
    subst e10
    exact j_cmd J (qx_scr ok oi C (x_least (p := n1) (by omega) τ (by omega) n4 ok oi C q.2 r2)) (fun σ1 e7 e6 => (qm_c (m_least (p := n1) (by omega) σ1 _ _ h23 h26 (by rw [e7]; exact hW) g98 q.2 r2))) okm (by omega)
  · exact j_cmd J (qx_same C (x_least0 (by omega) r1 τ (by omega) n4 ok oi C q)) (fun σ1 e7 e6 => (qm_a h26 (m_least0 (by omega) r1 σ1 _ _ g0.1 g0.2 q))) okm (by omega)
theorem j_meet {d : Nat} {τ : gS} {W V : wF} {c : Int} (hd : 100 ≤ d) (hc : c ≤ 45000) (J : JM τ W V c ∧ JC τ W V) {a1 a2 a3 : Int} (r1 : inR a1) (r2 : inR a2) (r3 : inR a3) : jP mX6_meet mX7_meet d [.int (iZ a1), .int (iZ a2), .int (iZ a3)] τ (c + 80) := by
  have ok := J.1.1
  have oi := J.1.2.1
  have n4 := J.1.2.2.1.2.2
  have n0 : 0 ≤ (τ.2.1 385) 1 := Int.le_trans J.1.2.2.1.1 J.1.2.2.1.2.1
  have C := J.2.1
  have h23 := J.1.2.2.2.1.1
  have h26 := J.1.2.2.2.1.2.1
  obtain ⟨hW, hV⟩ := JM_W J.1
  have g := ok.1
  have g9 : gd 90000 ((τ.2.1 385) 1) (τ.2.1 385) := gd_mono g (by omega)
  have g10 : gd 100000 ((τ.2.1 385) 1) (τ.2.1 385) := gd_mono g (by omega)
  have g98 : gd 98000 ((τ.2.1 385) 1) (τ.2.1 385) := gd_mono g (by omega)
  have g88 : gd 88000 ((τ.2.1 385) 1) (τ.2.1 385) := gd_mono g (by omega)
  have g0 := g.1
  have aa3 := ok.2.2.2.1
  have i23 : inR ((τ.1 384) 23) := by rw [h23]; unfold inR; omega
  have okm : okR (c + 80) ((τ.2.1 385) 1) (τ.2.1 385) := okR_mono ok (by omega)
  by_cases q : (0 ≤ a1 ∧ a1 < (τ.2.1 385) 0) ∧ (0 ≤ a2 ∧ a2 < (τ.2.1 385) 0) ∧ a1 ≠ a2 ∧ (-1 ≤ a3 ∧ a3 ≤ 2)
  · obtain ⟨n1, e10⟩ : ∃ n : Nat, a1 = (n : Int) := ⟨a1.toNat, by omega⟩
    subst e10
    obtain ⟨n2, e20⟩ : ∃ n : Nat, a2 = (n : Int) := ⟨a2.toNat, by omega⟩
    subst e20
    exact j_cmd J (qx_scr ok oi C (x_meet (p := n1) (q := n2) (by omega) q.2.2.2 τ (by omega) n4 ok oi C q.1.2 q.2.1.2 (by omega))) (fun σ1 e7 e6 => (qm_c (m_meet (p := n1) (q := n2) (by omega) q.2.2.2 σ1 _ _ h23 h26 (by rw [e7]; exact hW) g98 q.1.2 q.2.1.2 (by omega)))) okm (by omega)
  · exact j_cmd J (qx_same C (x_meet0 (by omega) r1 r2 r3 τ (by omega) n4 ok oi C q)) (fun σ1 e7 e6 => (qm_a h26 (m_meet0 (by omega) r1 r2 r3 σ1 _ _ g0.1 g0.2 q))) okm (by omega)
theorem j_doers {d : Nat} {τ : gS} {W V : wF} {c : Int} (hd : 100 ≤ d) (hc : c ≤ 45000) (J : JM τ W V c ∧ JC τ W V) {a1 : Int} (r1 : a1 = 0 ∨ a1 = 1) : jP mX6_doers mX7_doers d [.int (iZ a1)] τ (c + 80) := by
  have ok := J.1.1
  have oi := J.1.2.1
  have n4 := J.1.2.2.1.2.2
  have n0 : 0 ≤ (τ.2.1 385) 1 := Int.le_trans J.1.2.2.1.1 J.1.2.2.1.2.1
  have C := J.2.1
  have h23 := J.1.2.2.2.1.1
  have h26 := J.1.2.2.2.1.2.1
  obtain ⟨hW, hV⟩ := JM_W J.1
  have g := ok.1
  have g9 : gd 90000 ((τ.2.1 385) 1) (τ.2.1 385) := gd_mono g (by omega)
  have g10 : gd 100000 ((τ.2.1 385) 1) (τ.2.1 385) := gd_mono g (by omega)
  have g98 : gd 98000 ((τ.2.1 385) 1) (τ.2.1 385) := gd_mono g (by omega)
  have g88 : gd 88000 ((τ.2.1 385) 1) (τ.2.1 385) := gd_mono g (by omega)
  have g0 := g.1
  have aa3 := ok.2.2.2.1
  have i23 : inR ((τ.1 384) 23) := by rw [h23]; unfold inR; omega
  have okm : okR (c + 80) ((τ.2.1 385) 1) (τ.2.1 385) := okR_mono ok (by omega)
  have gi : gd 98000 ((τ.2.1 385) 1) (imK (τ.2.1 386) (τ.2.1 385) 8) := imK_gd oi.1 g98 (by omega)
  refine j_cmd J (qx_scr ok oi C (x_doers (by omega) r1 τ (by omega) n4 ok oi C)) (fun σ1 e7 e6 => ?_) okm (by omega)
  have m := m_doers (d := d) (by omega) r1 σ1 (τ.2.1 385) (τ.1 384) h23 h26 (by rw [e7]; exact hW) g98 (by rw [e6]; exact gi)
  rw [e6] at m
  exact qm_c m
theorem j_likely {d : Nat} {τ : gS} {W V : wF} {c : Int} (hd : 100 ≤ d) (hc : c ≤ 45000) (J : JM τ W V c ∧ JC τ W V) {a1 a2 a3 : Int} (r1 : inR a1) (r2 : inR a2) (r3 : a3 = 0 ∨ a3 = 1) : jP mX6_likely mX7_likely d [.int (iZ a1), .int (iZ a2), .int (iZ a3)] τ (c + 80) := by
  have ok := J.1.1
  have oi := J.1.2.1
  have n4 := J.1.2.2.1.2.2
  have n0 : 0 ≤ (τ.2.1 385) 1 := Int.le_trans J.1.2.2.1.1 J.1.2.2.1.2.1
  have C := J.2.1
  have h23 := J.1.2.2.2.1.1
  have h26 := J.1.2.2.2.1.2.1
  obtain ⟨hW, hV⟩ := JM_W J.1
  have g := ok.1
  have g9 : gd 90000 ((τ.2.1 385) 1) (τ.2.1 385) := gd_mono g (by omega)
  have g10 : gd 100000 ((τ.2.1 385) 1) (τ.2.1 385) := gd_mono g (by omega)
  have g98 : gd 98000 ((τ.2.1 385) 1) (τ.2.1 385) := gd_mono g (by omega)
  have g88 : gd 88000 ((τ.2.1 385) 1) (τ.2.1 385) := gd_mono g (by omega)
  have g0 := g.1
  have aa3 := ok.2.2.2.1
  have i23 : inR ((τ.1 384) 23) := by rw [h23]; unfold inR; omega
  have okm : okR (c + 80) ((τ.2.1 385) 1) (τ.2.1 385) := okR_mono ok (by omega)
  by_cases q : (0 ≤ a1 ∧ a1 < (τ.2.1 385) 0) ∧ 1 ≤ a2 ∧ a2 ≤ 3
  · obtain ⟨n1, e10⟩ : ∃ n : Nat, a1 = (n : Int) := ⟨a1.toNat, by omega⟩
    subst e10
    obtain ⟨n2, e20⟩ : ∃ n : Nat, a2 = (n : Int) := ⟨a2.toNat, by omega⟩
    subst e20
    exact j_cmd J (qx_scr ok oi C (x_likely (p := n1) (n := n2) (by omega) (by omega) (by omega) r3 τ (by omega) n4 ok oi C q.1.2)) (fun σ1 e7 e6 => (qm_c (m_likely (p := n1) (n := n2) (by omega) (by omega) (by omega) r3 σ1 _ _ h23 h26 (by rw [e7]; exact hW) g98 q.1.2))) okm (by omega)
  · exact j_cmd J (qx_same C (x_likely0 (by omega) r1 r2 τ (by omega) n4 ok oi C q)) (fun σ1 e7 e6 => (qm_a h26 (m_likely0 (by omega) r1 r2 σ1 _ _ g0.1 g0.2 q))) okm (by omega)
theorem j_off {d : Nat} {τ : gS} {W V : wF} {c : Int} (hd : 100 ≤ d) (hc : c ≤ 45000) (J : JM τ W V c ∧ JC τ W V) {a1 a2 : Int} (r1 : inR a1) (r2 : a2 = 0 ∨ a2 = 1) : jP mX6_off mX7_off d [.int (iZ a1), .int (iZ a2)] τ (c + 80) := by
  have ok := J.1.1
  have oi := J.1.2.1
  have n4 := J.1.2.2.1.2.2
  have n0 : 0 ≤ (τ.2.1 385) 1 := Int.le_trans J.1.2.2.1.1 J.1.2.2.1.2.1
  have C := J.2.1
  have h23 := J.1.2.2.2.1.1
  have h26 := J.1.2.2.2.1.2.1
  obtain ⟨hW, hV⟩ := JM_W J.1
  have g := ok.1
  have g9 : gd 90000 ((τ.2.1 385) 1) (τ.2.1 385) := gd_mono g (by omega)
  have g10 : gd 100000 ((τ.2.1 385) 1) (τ.2.1 385) := gd_mono g (by omega)
  have g98 : gd 98000 ((τ.2.1 385) 1) (τ.2.1 385) := gd_mono g (by omega)
  have g88 : gd 88000 ((τ.2.1 385) 1) (τ.2.1 385) := gd_mono g (by omega)
  have g0 := g.1
  have aa3 := ok.2.2.2.1
  have i23 : inR ((τ.1 384) 23) := by rw [h23]; unfold inR; omega
  have okm : okR (c + 80) ((τ.2.1 385) 1) (τ.2.1 385) := okR_mono ok (by omega)
  by_cases q : 1 ≤ a1 ∧ a1 ≤ 3
  · obtain ⟨n1, e10⟩ : ∃ n : Nat, a1 = (n : Int) := ⟨a1.toNat, by omega⟩
    subst e10
    exact j_cmd J (qx_scr ok oi C (x_off (n := n1) (by omega) (by omega) (by omega) r2 τ (by omega) n4 ok oi C)) (fun σ1 e7 e6 => (qm_c (m_off (n := n1) (by omega) (by omega) (by omega) r2 σ1 _ _ h23 h26 (by rw [e7]; exact hW) g98))) okm (by omega)
  · exact j_cmd J (qx_same C (x_off0 (by omega) r1 τ (by omega) n4 ok oi C q)) (fun σ1 e7 e6 => (qm_a h26 (m_off0 (by omega) r1 σ1 _ _ q))) okm (by omega)
theorem j_cart {d : Nat} {τ : gS} {W V : wF} {c : Int} (hd : 100 ≤ d) (hc : c ≤ 45000) (J : JM τ W V c ∧ JC τ W V) {a1 : Int} (r1 : inR a1) : jP mX6_cart mX7_cart d [.int (iZ a1)] τ (c + 80) := by
  have ok := J.1.1
  have oi := J.1.2.1
  have n4 := J.1.2.2.1.2.2
  have n0 : 0 ≤ (τ.2.1 385) 1 := Int.le_trans J.1.2.2.1.1 J.1.2.2.1.2.1
  have C := J.2.1
  have h23 := J.1.2.2.2.1.1
  have h26 := J.1.2.2.2.1.2.1
  obtain ⟨hW, hV⟩ := JM_W J.1
  have g := ok.1
  have g9 : gd 90000 ((τ.2.1 385) 1) (τ.2.1 385) := gd_mono g (by omega)
  have g10 : gd 100000 ((τ.2.1 385) 1) (τ.2.1 385) := gd_mono g (by omega)
  have g98 : gd 98000 ((τ.2.1 385) 1) (τ.2.1 385) := gd_mono g (by omega)
  have g88 : gd 88000 ((τ.2.1 385) 1) (τ.2.1 385) := gd_mono g (by omega)
  have g0 := g.1
  have aa3 := ok.2.2.2.1
  have i23 : inR ((τ.1 384) 23) := by rw [h23]; unfold inR; omega
  have okm : okR (c + 80) ((τ.2.1 385) 1) (τ.2.1 385) := okR_mono ok (by omega)
  by_cases q : 0 ≤ a1 ∧ a1 < 8
  · obtain ⟨n1, e10⟩ : ∃ n : Nat, a1 = (n : Int) := ⟨a1.toNat, by omega⟩
    subst e10
    exact j_cmd J (qx_scr ok oi C (x_cart (fr := n1) (by omega) (by omega) τ (by omega) n4 ok oi C)) (fun σ1 e7 e6 => (qm_c (m_cart (fr := n1) (by omega) (by omega) σ1 _ _ h26 ok.2.2.2.2.2.1))) okm (by omega)
  · exact j_cmd J (qx_same C (x_cart0 (by omega) r1 q τ)) (fun σ1 e7 e6 => (qm_a h26 (m_cart0 (by omega) r1 q σ1 _ _))) okm (by omega)
theorem j_round {d : Nat} {τ : gS} {W V : wF} {c : Int} (hd : 100 ≤ d) (hc : c ≤ 45000) (J : JM τ W V c ∧ JC τ W V) {a1 a2 : Int} (r1 : inR a1) (r2 : inR a2) : jP mX6_round mX7_round d [.int (iZ a1), .int (iZ a2)] τ (c + 80) := by
  have ok := J.1.1
  have oi := J.1.2.1
  have n4 := J.1.2.2.1.2.2
  have n0 : 0 ≤ (τ.2.1 385) 1 := Int.le_trans J.1.2.2.1.1 J.1.2.2.1.2.1
  have C := J.2.1
  have h23 := J.1.2.2.2.1.1
  have h26 := J.1.2.2.2.1.2.1
  obtain ⟨hW, hV⟩ := JM_W J.1
  have g := ok.1
  have g9 : gd 90000 ((τ.2.1 385) 1) (τ.2.1 385) := gd_mono g (by omega)
  have g10 : gd 100000 ((τ.2.1 385) 1) (τ.2.1 385) := gd_mono g (by omega)
  have g98 : gd 98000 ((τ.2.1 385) 1) (τ.2.1 385) := gd_mono g (by omega)
  have g88 : gd 88000 ((τ.2.1 385) 1) (τ.2.1 385) := gd_mono g (by omega)
  have g0 := g.1
  have aa3 := ok.2.2.2.1
  have i23 : inR ((τ.1 384) 23) := by rw [h23]; unfold inR; omega
  have okm : okR (c + 80) ((τ.2.1 385) 1) (τ.2.1 385) := okR_mono ok (by omega)
  by_cases q : 0 ≤ a1 ∧ a1 < 8
  · obtain ⟨n1, e10⟩ : ∃ n : Nat, a1 = (n : Int) := ⟨a1.toNat, by omega⟩
    subst e10
    exact j_cmd J (qx_scr ok oi C (x_round (fr := n1) (by omega) (by omega) r2 τ (by omega) n4 ok oi C)) (fun σ1 e7 e6 => (qm_c (m_round (fr := n1) (by omega) (by omega) r2 σ1 _ _ h26 ok.2.2.2.2.2.1))) okm (by omega)
  · exact j_cmd J (qx_same C (x_round0 (by omega) r1 q τ)) (fun σ1 e7 e6 => (qm_a h26 (m_round0 (by omega) r1 q σ1 _ _))) okm (by omega)
theorem j_sick {d : Nat} {τ : gS} {W V : wF} {c : Int} (hd : 100 ≤ d) (hc : c ≤ 45000) (J : JM τ W V c ∧ JC τ W V) : jP mX6_sick mX7_sick d [] τ (c + 80) := by
  have ok := J.1.1
  have oi := J.1.2.1
  have n4 := J.1.2.2.1.2.2
  have n0 : 0 ≤ (τ.2.1 385) 1 := Int.le_trans J.1.2.2.1.1 J.1.2.2.1.2.1
  have C := J.2.1
  have h23 := J.1.2.2.2.1.1
  have h26 := J.1.2.2.2.1.2.1
  obtain ⟨hW, hV⟩ := JM_W J.1
  have g := ok.1
  have g9 : gd 90000 ((τ.2.1 385) 1) (τ.2.1 385) := gd_mono g (by omega)
  have g10 : gd 100000 ((τ.2.1 385) 1) (τ.2.1 385) := gd_mono g (by omega)
  have g98 : gd 98000 ((τ.2.1 385) 1) (τ.2.1 385) := gd_mono g (by omega)
  have g88 : gd 88000 ((τ.2.1 385) 1) (τ.2.1 385) := gd_mono g (by omega)
  have g0 := g.1
  have aa3 := ok.2.2.2.1
  have i23 : inR ((τ.1 384) 23) := by rw [h23]; unfold inR; omega
  have okm : okR (c + 80) ((τ.2.1 385) 1) (τ.2.1 385) := okR_mono ok (by omega)
  exact j_cmd J (qx_same C (x_sick τ (by omega) n4 ok oi C)) (fun σ1 e7 e6 => (qm_a h26 (m_sick σ1 _ _ (fun k hk => by have := ok.2.2.2.2.2.1 k hk; unfold inR; omega)))) okm (by omega)
theorem j_beside {d : Nat} {τ : gS} {W V : wF} {c : Int} (hd : 100 ≤ d) (hc : c ≤ 45000) (J : JM τ W V c ∧ JC τ W V) {a1 : Int} (r1 : inR a1) : jP mX6_beside mX7_beside d [.int (iZ a1)] τ (c + 80) := by
  have ok := J.1.1
  have oi := J.1.2.1
  have n4 := J.1.2.2.1.2.2
  have n0 : 0 ≤ (τ.2.1 385) 1 := Int.le_trans J.1.2.2.1.1 J.1.2.2.1.2.1
  have C := J.2.1
  have h23 := J.1.2.2.2.1.1
  have h26 := J.1.2.2.2.1.2.1
  obtain ⟨hW, hV⟩ := JM_W J.1
  have g := ok.1
  have g9 : gd 90000 ((τ.2.1 385) 1) (τ.2.1 385) := gd_mono g (by omega)
  have g10 : gd 100000 ((τ.2.1 385) 1) (τ.2.1 385) := gd_mono g (by omega)
  have g98 : gd 98000 ((τ.2.1 385) 1) (τ.2.1 385) := gd_mono g (by omega)
  have g88 : gd 88000 ((τ.2.1 385) 1) (τ.2.1 385) := gd_mono g (by omega)
  have g0 := g.1
  have aa3 := ok.2.2.2.1
  have i23 : inR ((τ.1 384) 23) := by rw [h23]; unfold inR; omega
  have okm : okR (c + 80) ((τ.2.1 385) 1) (τ.2.1 385) := okR_mono ok (by omega)
  exact j_cmd J (qx_same C (x_beside (by omega) r1 τ (by omega) n4 ok oi C)) (fun σ1 e7 e6 => (qm_a h26 (m_beside (by omega) r1 σ1 _ _ g10))) okm (by omega)
theorem j_alone {d : Nat} {τ : gS} {W V : wF} {c : Int} (hd : 100 ≤ d) (hc : c ≤ 45000) (J : JM τ W V c ∧ JC τ W V) : jP mX6_alone mX7_alone d [] τ (c + 80) := by
  have ok := J.1.1
  have oi := J.1.2.1
  have n4 := J.1.2.2.1.2.2
  have n0 : 0 ≤ (τ.2.1 385) 1 := Int.le_trans J.1.2.2.1.1 J.1.2.2.1.2.1
  have C := J.2.1
  have h23 := J.1.2.2.2.1.1
  have h26 := J.1.2.2.2.1.2.1
  obtain ⟨hW, hV⟩ := JM_W J.1
  have g := ok.1
  have g9 : gd 90000 ((τ.2.1 385) 1) (τ.2.1 385) := gd_mono g (by omega)
  have g10 : gd 100000 ((τ.2.1 385) 1) (τ.2.1 385) := gd_mono g (by omega)
  have g98 : gd 98000 ((τ.2.1 385) 1) (τ.2.1 385) := gd_mono g (by omega)
  have g88 : gd 88000 ((τ.2.1 385) 1) (τ.2.1 385) := gd_mono g (by omega)
  have g0 := g.1
  have aa3 := ok.2.2.2.1
  have i23 : inR ((τ.1 384) 23) := by rw [h23]; unfold inR; omega
  have okm : okR (c + 80) ((τ.2.1 385) 1) (τ.2.1 385) := okR_mono ok (by omega)
  exact j_cmd J (qx_same C (x_alone (by omega) τ (by omega) n4 ok oi C)) (fun σ1 e7 e6 => (qm_a h26 (m_alone (by omega) σ1 _ _ g10))) okm (by omega)
theorem j_spread {d : Nat} {τ : gS} {W V : wF} {c : Int} (hd : 100 ≤ d) (hc : c ≤ 45000) (J : JM τ W V c ∧ JC τ W V) : jP mX6_spread mX7_spread d [] τ (c + 80) := by
  have ok := J.1.1
  have oi := J.1.2.1
  have n4 := J.1.2.2.1.2.2
  have n0 : 0 ≤ (τ.2.1 385) 1 := Int.le_trans J.1.2.2.1.1 J.1.2.2.1.2.1
  have C := J.2.1
  have h23 := J.1.2.2.2.1.1
  have h26 := J.1.2.2.2.1.2.1
  obtain ⟨hW, hV⟩ := JM_W J.1
  have g := ok.1
  have g9 : gd 90000 ((τ.2.1 385) 1) (τ.2.1 385) := gd_mono g (by omega)
  have g10 : gd 100000 ((τ.2.1 385) 1) (τ.2.1 385) := gd_mono g (by omega)
  have g98 : gd 98000 ((τ.2.1 385) 1) (τ.2.1 385) := gd_mono g (by omega)
  have g88 : gd 88000 ((τ.2.1 385) 1) (τ.2.1 385) := gd_mono g (by omega)
  have g0 := g.1
  have aa3 := ok.2.2.2.1
  have i23 : inR ((τ.1 384) 23) := by rw [h23]; unfold inR; omega
  have okm : okR (c + 80) ((τ.2.1 385) 1) (τ.2.1 385) := okR_mono ok (by omega)
  exact j_cmd J (qx_same C (x_spread (by omega) τ (by omega) n4 ok oi C)) (fun σ1 e7 e6 => (qm_a h26 (m_spread (by omega) σ1 _ _ g10))) okm (by omega)
theorem j_crowded {d : Nat} {τ : gS} {W V : wF} {c : Int} (hd : 100 ≤ d) (hc : c ≤ 45000) (J : JM τ W V c ∧ JC τ W V) : jP mX6_crowded mX7_crowded d [] τ (c + 80) := by
  have ok := J.1.1
  have oi := J.1.2.1
  have n4 := J.1.2.2.1.2.2
  have n0 : 0 ≤ (τ.2.1 385) 1 := Int.le_trans J.1.2.2.1.1 J.1.2.2.1.2.1
  have C := J.2.1
  have h23 := J.1.2.2.2.1.1
  have h26 := J.1.2.2.2.1.2.1
  obtain ⟨hW, hV⟩ := JM_W J.1
  have g := ok.1
  have g9 : gd 90000 ((τ.2.1 385) 1) (τ.2.1 385) := gd_mono g (by omega)
  have g10 : gd 100000 ((τ.2.1 385) 1) (τ.2.1 385) := gd_mono g (by omega)
  have g98 : gd 98000 ((τ.2.1 385) 1) (τ.2.1 385) := gd_mono g (by omega)
  have g88 : gd 88000 ((τ.2.1 385) 1) (τ.2.1 385) := gd_mono g (by omega)
  have g0 := g.1
  have aa3 := ok.2.2.2.1
  have i23 : inR ((τ.1 384) 23) := by rw [h23]; unfold inR; omega
  have okm : okR (c + 80) ((τ.2.1 385) 1) (τ.2.1 385) := okR_mono ok (by omega)
  exact j_cmd J (qx_same C (x_crowded (by omega) τ (by omega) n4 ok oi C)) (fun σ1 e7 e6 => (qm_a h26 (m_crowded (by omega) σ1 _ _ g10))) okm (by omega)
theorem j_empty {d : Nat} {τ : gS} {W V : wF} {c : Int} (hd : 100 ≤ d) (hc : c ≤ 45000) (J : JM τ W V c ∧ JC τ W V) : jP mX6_empty mX7_empty d [] τ (c + 80) := by
  have ok := J.1.1
  have oi := J.1.2.1
  have n4 := J.1.2.2.1.2.2
  have n0 : 0 ≤ (τ.2.1 385) 1 := Int.le_trans J.1.2.2.1.1 J.1.2.2.1.2.1
  have C := J.2.1
  have h23 := J.1.2.2.2.1.1
  have h26 := J.1.2.2.2.1.2.1
  obtain ⟨hW, hV⟩ := JM_W J.1
  have g := ok.1
  have g9 : gd 90000 ((τ.2.1 385) 1) (τ.2.1 385) := gd_mono g (by omega)
  have g10 : gd 100000 ((τ.2.1 385) 1) (τ.2.1 385) := gd_mono g (by omega)
  have g98 : gd 98000 ((τ.2.1 385) 1) (τ.2.1 385) := gd_mono g (by omega)
  have g88 : gd 88000 ((τ.2.1 385) 1) (τ.2.1 385) := gd_mono g (by omega)
  have g0 := g.1
  have aa3 := ok.2.2.2.1
  have i23 : inR ((τ.1 384) 23) := by rw [h23]; unfold inR; omega
  have okm : okR (c + 80) ((τ.2.1 385) 1) (τ.2.1 385) := okR_mono ok (by omega)
  exact j_cmd J (qx_same C (x_empty (by omega) τ (by omega) n4 ok oi C)) (fun σ1 e7 e6 => (qm_a h26 (m_empty (by omega) σ1 _ _ g10))) okm (by omega)
theorem j_whose {d : Nat} {τ : gS} {W V : wF} {c : Int} (hd : 100 ≤ d) (hc : c ≤ 45000) (J : JM τ W V c ∧ JC τ W V) : jP mX6_whose mX7_whose d [] τ (c + 80) := by
  have ok := J.1.1
  have oi := J.1.2.1
  have n4 := J.1.2.2.1.2.2
  have n0 : 0 ≤ (τ.2.1 385) 1 := Int.le_trans J.1.2.2.1.1 J.1.2.2.1.2.1
  have C := J.2.1
  have h23 := J.1.2.2.2.1.1
  have h26 := J.1.2.2.2.1.2.1
  obtain ⟨hW, hV⟩ := JM_W J.1
  have g := ok.1
  have g9 : gd 90000 ((τ.2.1 385) 1) (τ.2.1 385) := gd_mono g (by omega)
  have g10 : gd 100000 ((τ.2.1 385) 1) (τ.2.1 385) := gd_mono g (by omega)
  have g98 : gd 98000 ((τ.2.1 385) 1) (τ.2.1 385) := gd_mono g (by omega)
  have g88 : gd 88000 ((τ.2.1 385) 1) (τ.2.1 385) := gd_mono g (by omega)
  have g0 := g.1
  have aa3 := ok.2.2.2.1
  have i23 : inR ((τ.1 384) 23) := by rw [h23]; unfold inR; omega
  have okm : okR (c + 80) ((τ.2.1 385) 1) (τ.2.1 385) := okR_mono ok (by omega)
  exact j_cmd J (qx_scr ok oi C (x_whose (by omega) τ (by omega) n4 ok oi C)) (fun σ1 e7 e6 => (qm_b (fS_rf h26) (m_whose (by omega) σ1 _ _ (by rw [e7]; exact hW) g10 ok.2.2.2.2.2.2.1 ok.2.2.2.2.1.1 ok.2.2.2.2.1.2 n0 n4 (Int.le_refl _)))) okm (by omega)
theorem j_ready {d : Nat} {τ : gS} {W V : wF} {c : Int} (hd : 100 ≤ d) (hc : c ≤ 45000) (J : JM τ W V c ∧ JC τ W V) : jP mX6_ready mX7_ready d [] τ (c + 80) := by
  have ok := J.1.1
  have oi := J.1.2.1
  have n4 := J.1.2.2.1.2.2
  have n0 : 0 ≤ (τ.2.1 385) 1 := Int.le_trans J.1.2.2.1.1 J.1.2.2.1.2.1
  have C := J.2.1
  have h23 := J.1.2.2.2.1.1
  have h26 := J.1.2.2.2.1.2.1
  obtain ⟨hW, hV⟩ := JM_W J.1
  have g := ok.1
  have g9 : gd 90000 ((τ.2.1 385) 1) (τ.2.1 385) := gd_mono g (by omega)
  have g10 : gd 100000 ((τ.2.1 385) 1) (τ.2.1 385) := gd_mono g (by omega)
  have g98 : gd 98000 ((τ.2.1 385) 1) (τ.2.1 385) := gd_mono g (by omega)
  have g88 : gd 88000 ((τ.2.1 385) 1) (τ.2.1 385) := gd_mono g (by omega)
  have g0 := g.1
  have aa3 := ok.2.2.2.1
  have i23 : inR ((τ.1 384) 23) := by rw [h23]; unfold inR; omega
  have okm : okR (c + 80) ((τ.2.1 385) 1) (τ.2.1 385) := okR_mono ok (by omega)
  exact j_cmd J (qx_scr ok oi C (x_ready (by omega) τ (by omega) n4 ok oi C)) (fun σ1 e7 e6 => (qm_b (fS_rf h26) (m_ready (by omega) σ1 _ _ (by rw [e7]; exact hW) g10))) okm (by omega)
theorem j_balance {d : Nat} {τ : gS} {W V : wF} {c : Int} (hd : 100 ≤ d) (hc : c ≤ 45000) (J : JM τ W V c ∧ JC τ W V) : jP mX6_balance mX7_balance d [] τ (c + 80) := by
  have ok := J.1.1
  have oi := J.1.2.1
  have n4 := J.1.2.2.1.2.2
  have n0 : 0 ≤ (τ.2.1 385) 1 := Int.le_trans J.1.2.2.1.1 J.1.2.2.1.2.1
  have C := J.2.1
  have h23 := J.1.2.2.2.1.1
  have h26 := J.1.2.2.2.1.2.1
  obtain ⟨hW, hV⟩ := JM_W J.1
  have g := ok.1
  have g9 : gd 90000 ((τ.2.1 385) 1) (τ.2.1 385) := gd_mono g (by omega)
  have g10 : gd 100000 ((τ.2.1 385) 1) (τ.2.1 385) := gd_mono g (by omega)
  have g98 : gd 98000 ((τ.2.1 385) 1) (τ.2.1 385) := gd_mono g (by omega)
  have g88 : gd 88000 ((τ.2.1 385) 1) (τ.2.1 385) := gd_mono g (by omega)
  have g0 := g.1
  have aa3 := ok.2.2.2.1
  have i23 : inR ((τ.1 384) 23) := by rw [h23]; unfold inR; omega
  have okm : okR (c + 80) ((τ.2.1 385) 1) (τ.2.1 385) := okR_mono ok (by omega)
  exact j_cmd J (qx_same C (x_balance (by omega) τ (by omega) n4 ok oi C)) (fun σ1 e7 e6 => (qm_a h26 (m_balance σ1 _ _))) okm (by omega)
theorem j_middle {d : Nat} {τ : gS} {W V : wF} {c : Int} (hd : 100 ≤ d) (hc : c ≤ 45000) (J : JM τ W V c ∧ JC τ W V) : jP mX6_middle mX7_middle d [] τ (c + 80) := by
  have ok := J.1.1
  have oi := J.1.2.1
  have n4 := J.1.2.2.1.2.2
  have n0 : 0 ≤ (τ.2.1 385) 1 := Int.le_trans J.1.2.2.1.1 J.1.2.2.1.2.1
  have C := J.2.1
  have h23 := J.1.2.2.2.1.1
  have h26 := J.1.2.2.2.1.2.1
  obtain ⟨hW, hV⟩ := JM_W J.1
  have g := ok.1
  have g9 : gd 90000 ((τ.2.1 385) 1) (τ.2.1 385) := gd_mono g (by omega)
  have g10 : gd 100000 ((τ.2.1 385) 1) (τ.2.1 385) := gd_mono g (by omega)
  have g98 : gd 98000 ((τ.2.1 385) 1) (τ.2.1 385) := gd_mono g (by omega)
  have g88 : gd 88000 ((τ.2.1 385) 1) (τ.2.1 385) := gd_mono g (by omega)
  have g0 := g.1
  have aa3 := ok.2.2.2.1
  have i23 : inR ((τ.1 384) 23) := by rw [h23]; unfold inR; omega
  have okm : okR (c + 80) ((τ.2.1 385) 1) (τ.2.1 385) := okR_mono ok (by omega)
  exact j_cmd J (qx_same C (x_middle (by omega) τ (by omega) n4 ok oi C)) (fun σ1 e7 e6 => (qm_a h26 (m_middle (by omega) σ1 _ _ g10))) okm (by omega)
theorem j_kindest {d : Nat} {τ : gS} {W V : wF} {c : Int} (hd : 100 ≤ d) (hc : c ≤ 45000) (J : JM τ W V c ∧ JC τ W V) : jP mX6_kindest mX7_kindest d [] τ (c + 80) := by
  have ok := J.1.1
  have oi := J.1.2.1
  have n4 := J.1.2.2.1.2.2
  have n0 : 0 ≤ (τ.2.1 385) 1 := Int.le_trans J.1.2.2.1.1 J.1.2.2.1.2.1
  have C := J.2.1
  have h23 := J.1.2.2.2.1.1
  have h26 := J.1.2.2.2.1.2.1
  obtain ⟨hW, hV⟩ := JM_W J.1
  have g := ok.1
  have g9 : gd 90000 ((τ.2.1 385) 1) (τ.2.1 385) := gd_mono g (by omega)
  have g10 : gd 100000 ((τ.2.1 385) 1) (τ.2.1 385) := gd_mono g (by omega)
  have g98 : gd 98000 ((τ.2.1 385) 1) (τ.2.1 385) := gd_mono g (by omega)
  have g88 : gd 88000 ((τ.2.1 385) 1) (τ.2.1 385) := gd_mono g (by omega)
  have g0 := g.1
  have aa3 := ok.2.2.2.1
  have i23 : inR ((τ.1 384) 23) := by rw [h23]; unfold inR; omega
  have okm : okR (c + 80) ((τ.2.1 385) 1) (τ.2.1 385) := okR_mono ok (by omega)
  exact j_cmd J (qx_same C (x_kindest τ (by omega) n4 ok oi C)) (fun σ1 e7 e6 => (qm_a h26 (m_kindest σ1 _ _ g10))) okm (by omega)
theorem j_travelled {d : Nat} {τ : gS} {W V : wF} {c : Int} (hd : 100 ≤ d) (hc : c ≤ 45000) (J : JM τ W V c ∧ JC τ W V) : jP mX6_travelled mX7_travelled d [] τ (c + 80) := by
  have ok := J.1.1
  have oi := J.1.2.1
  have n4 := J.1.2.2.1.2.2
  have n0 : 0 ≤ (τ.2.1 385) 1 := Int.le_trans J.1.2.2.1.1 J.1.2.2.1.2.1
  have C := J.2.1
  have h23 := J.1.2.2.2.1.1
  have h26 := J.1.2.2.2.1.2.1
  obtain ⟨hW, hV⟩ := JM_W J.1
  have g := ok.1
  have g9 : gd 90000 ((τ.2.1 385) 1) (τ.2.1 385) := gd_mono g (by omega)
  have g10 : gd 100000 ((τ.2.1 385) 1) (τ.2.1 385) := gd_mono g (by omega)
  have g98 : gd 98000 ((τ.2.1 385) 1) (τ.2.1 385) := gd_mono g (by omega)
  have g88 : gd 88000 ((τ.2.1 385) 1) (τ.2.1 385) := gd_mono g (by omega)
  have g0 := g.1
  have aa3 := ok.2.2.2.1
  have i23 : inR ((τ.1 384) 23) := by rw [h23]; unfold inR; omega
  have okm : okR (c + 80) ((τ.2.1 385) 1) (τ.2.1 385) := okR_mono ok (by omega)
  exact j_cmd J (qx_same C (x_travelled (by omega) τ (by omega) n4 ok oi C)) (fun σ1 e7 e6 => (qm_a h26 (m_travelled (by omega) σ1 _ _ g10 ok.2.2.2.2.2.2.2.2.2))) okm (by omega)
theorem j_ledger {d : Nat} {τ : gS} {W V : wF} {c : Int} (hd : 100 ≤ d) (hc : c ≤ 45000) (J : JM τ W V c ∧ JC τ W V) {a1 : Int} (r1 : inR a1) : jP mX6_ledger mX7_ledger d [.int (iZ a1)] τ (c + 80) := by
  have ok := J.1.1
  have oi := J.1.2.1
  have n4 := J.1.2.2.1.2.2
  have n0 : 0 ≤ (τ.2.1 385) 1 := Int.le_trans J.1.2.2.1.1 J.1.2.2.1.2.1
  have C := J.2.1
  have h23 := J.1.2.2.2.1.1
  have h26 := J.1.2.2.2.1.2.1
  obtain ⟨hW, hV⟩ := JM_W J.1
  have g := ok.1
  have g9 : gd 90000 ((τ.2.1 385) 1) (τ.2.1 385) := gd_mono g (by omega)
  have g10 : gd 100000 ((τ.2.1 385) 1) (τ.2.1 385) := gd_mono g (by omega)
  have g98 : gd 98000 ((τ.2.1 385) 1) (τ.2.1 385) := gd_mono g (by omega)
  have g88 : gd 88000 ((τ.2.1 385) 1) (τ.2.1 385) := gd_mono g (by omega)
  have g0 := g.1
  have aa3 := ok.2.2.2.1
  have i23 : inR ((τ.1 384) 23) := by rw [h23]; unfold inR; omega
  have okm : okR (c + 80) ((τ.2.1 385) 1) (τ.2.1 385) := okR_mono ok (by omega)
  exact j_cmd J (qx_same C (x_ledger (by omega) r1 τ (by omega) n4 ok oi C)) (fun σ1 e7 e6 => (qm_a h26 (m_ledger (by omega) r1 σ1 _ _ g10 ok.2.2.2.2.2.2.2.2.2))) okm (by omega)
theorem j_fault {d : Nat} {τ : gS} {W V : wF} {c : Int} (hd : 100 ≤ d) (hc : c ≤ 45000) (J : JM τ W V c ∧ JC τ W V) {a1 : Int} (r1 : inR a1) : jP mX6_fault mX7_fault d [.int (iZ a1)] τ (c + 80) := by
  have ok := J.1.1
  have oi := J.1.2.1
  have n4 := J.1.2.2.1.2.2
  have n0 : 0 ≤ (τ.2.1 385) 1 := Int.le_trans J.1.2.2.1.1 J.1.2.2.1.2.1
  have C := J.2.1
  have h23 := J.1.2.2.2.1.1
  have h26 := J.1.2.2.2.1.2.1
  obtain ⟨hW, hV⟩ := JM_W J.1
  have g := ok.1
  have g9 : gd 90000 ((τ.2.1 385) 1) (τ.2.1 385) := gd_mono g (by omega)
  have g10 : gd 100000 ((τ.2.1 385) 1) (τ.2.1 385) := gd_mono g (by omega)
  have g98 : gd 98000 ((τ.2.1 385) 1) (τ.2.1 385) := gd_mono g (by omega)
  have g88 : gd 88000 ((τ.2.1 385) 1) (τ.2.1 385) := gd_mono g (by omega)
  have g0 := g.1
  have aa3 := ok.2.2.2.1
  have i23 : inR ((τ.1 384) 23) := by rw [h23]; unfold inR; omega
  have okm : okR (c + 80) ((τ.2.1 385) 1) (τ.2.1 385) := okR_mono ok (by omega)
  have hx := x_fault (d := d) r1 τ
  rw [J.2.2.2.2.1.1, J.2.2.2.2.1.2] at hx
  exact j_cmd J (qx_same C hx) (fun σ1 e7 e6 => (qm_a h26 (m_fault r1 σ1 _ _))) okm (by omega)
theorem j_about {d : Nat} {τ : gS} {W V : wF} {c : Int} (hd : 100 ≤ d) (hc : c ≤ 45000) (J : JM τ W V c ∧ JC τ W V) {a1 : Int} (r1 : inR a1) : jP mX6_about mX7_about d [.int (iZ a1)] τ (c + 80) := by
  have ok := J.1.1
  have oi := J.1.2.1
  have n4 := J.1.2.2.1.2.2
  have n0 : 0 ≤ (τ.2.1 385) 1 := Int.le_trans J.1.2.2.1.1 J.1.2.2.1.2.1
  have C := J.2.1
  have h23 := J.1.2.2.2.1.1
  have h26 := J.1.2.2.2.1.2.1
  obtain ⟨hW, hV⟩ := JM_W J.1
  have g := ok.1
  have g9 : gd 90000 ((τ.2.1 385) 1) (τ.2.1 385) := gd_mono g (by omega)
  have g10 : gd 100000 ((τ.2.1 385) 1) (τ.2.1 385) := gd_mono g (by omega)
  have g98 : gd 98000 ((τ.2.1 385) 1) (τ.2.1 385) := gd_mono g (by omega)
  have g88 : gd 88000 ((τ.2.1 385) 1) (τ.2.1 385) := gd_mono g (by omega)
  have g0 := g.1
  have aa3 := ok.2.2.2.1
  have i23 : inR ((τ.1 384) 23) := by rw [h23]; unfold inR; omega
  have okm : okR (c + 80) ((τ.2.1 385) 1) (τ.2.1 385) := okR_mono ok (by omega)
  exact j_cmd J (qx_same C (x_about (by omega) r1 τ (by omega) n4 ok oi C J.2.2.2.1.1)) (fun σ1 e7 e6 => (qm_a h26 (m_about (by omega) r1 σ1 _ _ (fun k hk => by have := ok.2.2.2.2.2.1 k hk; unfold inR; omega)))) okm (by omega)
