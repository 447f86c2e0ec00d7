/-! ===== streets' contracts over any state ===== -/
def atS (s : Nat) (a : Nat) : Prop := stkP a ∨ (s ≤ a ∧ a < s + 5)
theorem chg_atS {σ σ1 : gS} {s : Nat} (e : eqT σ σ1) (K H E N f : Nat → Int) : chg (atS s) σ (st σ1 s K H E N f) :=
  chg_tr (chg_mono (chg_eqT e) (fun a q => Or.inl q)) (chg_mono (chg_st _ _ _ _ _ _ _) (fun a q => Or.inr q))
theorem t_take {d s o : Nat} (hd : 1 ≤ d) (hs : kd s = 2) (σ : gS) (ho : kd o = 2) (hne : o ≠ s) : sC mX2_take d [.ref s, .ref o] σ (fun r σ' => r = none ∧ chg (fun a => s ≤ a ∧ a < s + 5) σ σ' ∧ ∀ (on : Int) (A : Nat → Int), A 0 ≤ 5 → (¬ on = 0 → A 10 ≤ 30) → trS on σ o A → trS on σ' s A) := by
  refine sC_imp ?_ (c_takeS hd hs σ ho hne)
  rintro v σ' ⟨e1, K', H', E', f', e2, htr, _⟩
  rw [e2]
  exact ⟨e1, chg_st _ _ _ _ _ _ _, fun on A a b c => trS_st (htr on A a b c)⟩
theorem trS_kind {on : Int} {σ : gS} {s : Nat} {A : Nat → Int} (h : trS on σ s A) {j : Nat} (hj : j < 8) (v : Int) : trS on (sR σ (s + 1) j v) s (va_up A (11 + j) v) := by
  rw [sR_st]
  exact trS_st (trR_kind h hj v)
theorem trS_off {on : Int} {σ : gS} {s : Nat} {A : Nat → Int} (h : trS on σ s A) : trS 0 σ s A := trR_off h
/-- laws of the class: text t says W t (holds), V t (gifts) -/
def txp (t : Int) : Nat := if t = -1 then 322 else 340 + 6 * t.toNat
def lawR (σ : gS) (W V : wF) (t : Int) : Prop := txOK σ (txp t) 100000 4 (W t) (V t) ∧ inR (σ.1 (txp t) 10) ∧ (σ.1 (txp t) 10 = 0 → nearW 100000 4 (W t)) ∧ (∀ A h, gd 100000 4 A → h < 8 → 0 ≤ W t A h ∧ W t A h ≤ 9) ∧ ∀ A h, gd 100000 4 A → h < 8 → 0 ≤ V t A h ∧ V t A h ≤ 9
theorem lawR_ch {σ σ1 : gS} {W V : wF} {t : Int} (h : lawR σ W V t) {S : Nat → Prop} (c : chg S σ σ1) (q : ∀ a, (a = 322 ∨ a = 323 ∨ (340 ≤ a ∧ a < 364)) → ¬ stkP a → ¬ S a) : lawR σ1 W V t := by
  have hx := (kd_tx h.1.1).2.2
  have c1 := c.1 (txp t) (q _ (by omega) (by unfold stkP; omega))
  have c2 := c.1 (txp t + 1) (q _ (by omega) (by unfold stkP; omega))
  exact ⟨txOK_cong h.1 c1.1 c2.2.1, by rw [c1.1]; exact h.2.1, by rw [c1.1]; exact h.2.2.1, h.2.2.2.1, h.2.2.2.2⟩
theorem t_settle {d s : Nat} (hd : 5 ≤ d) (hs : kd s = 2) (σ : gS) {W V : wF} {t : Int} (lw : lawR σ W V t) (A F : Nat → Int) (g : gd 100000 4 A) (hA2 : A 2 = t) (tr : trS (F 23) σ s A) : sC mX2_settleBy d [.ref s, .ref (txp t)] σ (fun r σ' => r = some (.int (iZ ((mS W A F).1.length : Int))) ∧ chg (atS s) σ σ' ∧ trS (F 23) σ' s (mS W A F).2.1 ∧ σ'.1 s 11 = (mS W A F).2.2 25 ∧ ∀ j, j < 8 → σ'.2.1 (s + 4) j = (((mS W A F).1.count j : Nat) : Int)) := by
  have h := c_settleBy hd hs σ (Int.le_refl _) lw.1 lw.2.2.2.1 rfl lw.2.1 lw.2.2.1 (σ.2.1 (s + 1)) (σ.2.1 (s + 2)) (σ.2.1 (s + 3)) (σ.2.1 (s + 4)) (σ.1 s) A F g hA2 tr
  rw [st_id] at h
  refine sC_imp ?_ h
  rintro v σ' ⟨e1, σ2, K', H', E', N', f', e2, e3, e4, e5, e6⟩
  rw [e2]
  exact ⟨e1, chg_atS e3 _ _ _ _ _, trS_st e4, by rw [st_f]; exact e5, fun j hj => by rw [st_N]; exact e6 j hj⟩
theorem t_handOn {d s h : Nat} (hd : 2 ≤ d) (hh : h < 8) (hs : kd s = 2) (σ : gS) (A F : Nat → Int) {c nt : Int} (g : gd c nt A) (tr : trS (F 23) σ s A) : sC mX2_handOn d [.ref s, .int (iZ (h : Int))] σ (fun r σ' => r = none ∧ chg (atS s) σ σ' ∧ trS (F 23) σ' s (mThank A F h).1) := by
  have k := c_handOn hd hh hs σ (σ.2.1 (s + 1)) (σ.2.1 (s + 2)) (σ.2.1 (s + 3)) (σ.2.1 (s + 4)) (σ.1 s) A (va_up F 25 (σ.1 s 11)) g tr rfl
  rw [st_id] at k
  refine sC_imp ?_ k
  rintro v σ' ⟨e1, K', H', E', f', e2, e3, e4⟩
  rw [e2]
  refine ⟨e1, chg_atS (eqT_rf σ) _ _ _ _ _, ?_⟩
  rw [(mThank_r A h (F := F) (G := va_up F 25 (σ.1 s 11)) rfl).1]
  exact trS_st e3
theorem t_passNight {d s : Nat} (hd : 6 ≤ d) (hs : kd s = 2) (σ : gS) {W V : wF} {t : Int} (lw : lawR σ W V t) (A F : Nat → Int) (g : gd 90000 4 A) (hA2 : A 2 = t) (tr : trS (F 23) σ s A) : sC mX2_passNight d [.ref s, .ref (txp t)] σ (fun r σ' => r = none ∧ chg (atS s) σ σ' ∧ trS (F 23) σ' s (mPass W V A F).1) := by
  have h := c_passNight hd hs σ lw.1 lw.2.2.2.1 lw.2.2.2.2 rfl lw.2.1 lw.2.2.1 (σ.2.1 (s + 1)) (σ.2.1 (s + 2)) (σ.2.1 (s + 3)) (σ.2.1 (s + 4)) (σ.1 s) A F g hA2 tr
  rw [st_id] at h
  refine sC_imp ?_ h
  rintro v σ' ⟨e1, σ2, K', H', E', N', f', e2, e3, e4⟩
  rw [e2]
  exact ⟨e1, chg_atS e3 _ _ _ _ _, trS_st e4⟩
theorem t_passYear {d s : Nat} (hd : 7 ≤ d) (hs : kd s = 2) (σ : gS) {W V : wF} {t : Int} (lw : lawR σ W V t) (A F : Nat → Int) (g : gd 90000 4 A) (hA2 : A 2 = t) (tr : trS (F 23) σ s A) : sC mX2_passYear d [.ref s, .ref (txp t)] σ (fun r σ' => r = none ∧ chg (atS s) σ σ' ∧ trS (F 23) σ' s (mHap W V (A 6) (mHj (A 6)) (va_up A 6 (mNew (A 6))) F).1) := by
  have h := c_passYear hd hs σ lw.1 lw.2.2.2.1 lw.2.2.2.2 rfl lw.2.1 lw.2.2.1 (σ.2.1 (s + 1)) (σ.2.1 (s + 2)) (σ.2.1 (s + 3)) (σ.2.1 (s + 4)) (σ.1 s) A F g hA2 tr
  rw [st_id] at h
  refine sC_imp ?_ h
  rintro v σ' ⟨e1, σ2, K', H', E', N', f', e2, e3, e4⟩
  rw [e2]
  exact ⟨e1, chg_atS e3 _ _ _ _ _, trS_st e4⟩
theorem t_isReady {d s h : Nat} (hd : 4 ≤ d) (hh : h < 8) (hs : kd s = 2) (σ : gS) {W V : wF} {t : Int} (lw : lawR σ W V t) {on : Int} (A : Nat → Int) (g : gd 100000 4 A) (tr : trS on σ s A) : sC mX2_isReady d [.ref s, .int (iZ (h : Int)), .ref (txp t)] σ (fun r σ' => r = some (.int (iZ (if W t A h + 2 ≤ A (11 + h) then 1 else 0))) ∧ chg stkP σ σ') := by
  have k := c_isReady hd hh hs σ (σ.2.1 (s + 1)) (σ.2.1 (s + 2)) (σ.2.1 (s + 3)) (σ.2.1 (s + 4)) (σ.1 s) g tr (Int.le_refl _) lw.1 (lw.2.2.2.1 A h g hh).1 (lw.2.2.2.1 A h g hh).2
  rw [st_id] at k
  refine sC_imp ?_ k
  rintro v σ' ⟨e1, σ1, e2, e3⟩
  have e4 := chg_eqT (st_eqT hs (σ.2.1 (s + 1)) (σ.2.1 (s + 2)) (σ.2.1 (s + 3)) (σ.2.1 (s + 4)) (σ.1 s) e3)
  rw [st_id] at e4
  rw [e2]
  exact ⟨e1, e4⟩
theorem t_worth1 {d s h : Nat} (hd : 3 ≤ d) (hh : h < 8) (hs : kd s = 2) (σ : gS) {W V : wF} {t : Int} (lw : lawR σ W V t) {on : Int} (A : Nat → Int) (g : gd 100000 4 A) (tr : trS on σ s A) : sC mX4_worth d [.ref (txp t), .int (iZ 1), .ref s, .int (iZ (h : Int))] σ (fun r σ' => r = some (.int (iZ (W t A h))) ∧ chg stkP σ σ') := by
  have k := c_worth1 hd hh hs σ (σ.2.1 (s + 1)) (σ.2.1 (s + 2)) (σ.2.1 (s + 3)) (σ.2.1 (s + 4)) (σ.1 s) g tr (Int.le_refl _) lw.1
  rw [st_id] at k
  refine sC_imp ?_ k
  rintro v σ' ⟨e1, R9, e2⟩
  have e4 := chg_eqT (st_eqT hs (σ.2.1 (s + 1)) (σ.2.1 (s + 2)) (σ.2.1 (s + 3)) (σ.2.1 (s + 4)) (σ.1 s) (eqT_w lw.1.1 σ R9))
  rw [st_id] at e4
  rw [e2]
  exact ⟨e1, e4⟩
theorem t_worth0 {d s h : Nat} (hd : 3 ≤ d) (hh : h < 8) (hs : kd s = 2) (σ : gS) {W V : wF} {t : Int} (lw : lawR σ W V t) {on : Int} (A : Nat → Int) (g : gd 100000 4 A) (tr : trS on σ s A) : sC mX4_worth d [.ref (txp t), .int (iZ 0), .ref s, .int (iZ (h : Int))] σ (fun r σ' => r = some (.int (iZ (V t A h))) ∧ chg stkP σ σ') := by
  have k := c_worth0 hd hh hs σ (σ.2.1 (s + 1)) (σ.2.1 (s + 2)) (σ.2.1 (s + 3)) (σ.2.1 (s + 4)) (σ.1 s) g tr (Int.le_refl _) lw.1
  rw [st_id] at k
  refine sC_imp ?_ k
  rintro v σ' ⟨e1, R9, e2⟩
  have e4 := chg_eqT (st_eqT hs (σ.2.1 (s + 1)) (σ.2.1 (s + 2)) (σ.2.1 (s + 3)) (σ.2.1 (s + 4)) (σ.1 s) (eqT_w lw.1.1 σ R9))
  rw [st_id] at e4
  rw [e2]
  exact ⟨e1, e4⟩
theorem t_countIn {d s : Nat} (hs : kd s = 2) (σ : gS) {z : Int} (hz : inR z) {on : Int} {A : Nat → Int} {c nt : Int} (g : gd c nt A) (tr : trS on σ s A) : sC mX2_countIn d [.ref s, .int (iZ z)] σ (fun r σ' => r = some (.int (iZ (cCn A z (A 0).toNat))) ∧ σ' = σ) := by
  have k := c_countIn (d := d) hs σ (σ.2.1 (s + 1)) (σ.2.1 (s + 2)) (σ.2.1 (s + 3)) (σ.2.1 (s + 4)) (σ.1 s) hz g tr
  rw [st_id] at k
  exact k
theorem t_peopleIn {d s : Nat} (hs : kd s = 2) (σ : gS) {z : Int} (hz : inR z) {on : Int} {A : Nat → Int} {c nt : Int} (g : gd c nt A) (tr : trS on σ s A) : sC mX2_peopleIn d [.ref s, .int (iZ z)] σ (fun r σ' => r = some (.int (iZ (((mPeo A z (A 0).toNat : Nat) : Int)))) ∧ σ' = σ) := by
  have k := c_peopleIn (d := d) hs σ (σ.2.1 (s + 1)) (σ.2.1 (s + 2)) (σ.2.1 (s + 3)) (σ.2.1 (s + 4)) (σ.1 s) hz g tr
  rw [st_id] at k
  exact k
theorem t_inStreet {d s : Nat} (hd : 1 ≤ d) (hs : kd s = 2) (σ : gS) {on : Int} {A : Nat → Int} {c nt : Int} (g : gd c nt A) (tr : trS on σ s A) : sC mX2_inStreet d [.ref s] σ (fun r σ' => r = some (.int (iZ (A 0 - cCn A (-1) (A 0).toNat))) ∧ σ' = σ) := by
  have k := c_inStreet (d := d) hd hs σ (σ.2.1 (s + 1)) (σ.2.1 (s + 2)) (σ.2.1 (s + 3)) (σ.2.1 (s + 4)) (σ.1 s) g tr
  rw [st_id] at k
  exact k
theorem t_neighbours {d s p : Nat} (hd : 1 ≤ d) (hs : kd s = 2) (σ : gS) {on : Int} {A : Nat → Int} {c nt : Int} (g : gd c nt A) (tr : trS on σ s A) (hp : (p : Int) < A 0) : sC mX2_neighbours d [.ref s, .int (iZ (p : Int))] σ (fun r σ' => r = some (.int (iZ (((mBes A p : Nat) : Int)))) ∧ σ' = σ) := by
  have k := c_neighbours (d := d) hd hs σ (σ.2.1 (s + 1)) (σ.2.1 (s + 2)) (σ.2.1 (s + 3)) (σ.2.1 (s + 4)) (σ.1 s) g tr hp
  rw [st_id] at k
  exact k
theorem t_nightWritten {d s i : Nat} (hs : kd s = 2) (σ : gS) {on : Int} {A : Nat → Int} {c nt : Int} (g : gd c nt A) (tr : trS on σ s A) (ho : ¬ on = 0) (hi : (i : Int) < A 10) : sC mX2_nightWritten d [.ref s, .int (iZ (i : Int))] σ (fun r σ' => r = some (.int (iZ (mEnt A i 0))) ∧ σ' = σ) := by
  have k := c_nightWritten (d := d) hs σ (σ.2.1 (s + 1)) (σ.2.1 (s + 2)) (σ.2.1 (s + 3)) (σ.2.1 (s + 4)) (σ.1 s) g tr ho hi
  rw [st_id] at k
  exact k
theorem t_personWritten {d s i : Nat} (hs : kd s = 2) (σ : gS) {on : Int} {A : Nat → Int} {c nt : Int} (g : gd c nt A) (tr : trS on σ s A) (ho : ¬ on = 0) (hi : (i : Int) < A 10) : sC mX2_personWritten d [.ref s, .int (iZ (i : Int))] σ (fun r σ' => r = some (.int (iZ (mEnt A i 1))) ∧ σ' = σ) := by
  have k := c_personWritten (d := d) hs σ (σ.2.1 (s + 1)) (σ.2.1 (s + 2)) (σ.2.1 (s + 3)) (σ.2.1 (s + 4)) (σ.1 s) g tr ho hi
  rw [st_id] at k
  exact k
theorem t_houseWritten {d s i : Nat} (hs : kd s = 2) (σ : gS) {on : Int} {A : Nat → Int} {c nt : Int} (g : gd c nt A) (tr : trS on σ s A) (ho : ¬ on = 0) (hi : (i : Int) < A 10) : sC mX2_houseWritten d [.ref s, .int (iZ (i : Int))] σ (fun r σ' => r = some (.int (iZ (mEnt A i 2))) ∧ σ' = σ) := by
  have k := c_houseWritten (d := d) hs σ (σ.2.1 (s + 1)) (σ.2.1 (s + 2)) (σ.2.1 (s + 3)) (σ.2.1 (s + 4)) (σ.1 s) g tr ho hi
  rw [st_id] at k
  exact k
theorem t_timesWritten {d s : Nat} (hd : 1 ≤ d) (hs : kd s = 2) (σ : gS) {q : Int} (hq0 : inR q) (hq1 : q ≠ -1) {on : Int} {A : Nat → Int} {c nt : Int} (g : gd c nt A) (tr : trS on σ s A) (ho : ¬ on = 0) : sC mX2_timesWritten d [.ref s, .int (iZ q)] σ (fun r σ' => r = some (.int (iZ (mLn A q (A 10).toNat))) ∧ σ' = σ) := by
  have k := c_timesWritten (d := d) hd hs σ (σ.2.1 (s + 1)) (σ.2.1 (s + 2)) (σ.2.1 (s + 3)) (σ.2.1 (s + 4)) (σ.1 s) hq0 hq1 g tr ho
  rw [st_id] at k
  exact k
theorem t_kindnessIn {d s a b : Nat} (hd : 1 ≤ d) (hs : kd s = 2) (σ : gS) (hb : b ≤ 8) (hab : a ≤ b) : sC mX2_kindnessIn d [.ref s, .int (iZ (a : Int)), .int (iZ (b : Int))] σ (fun r σ' => r = some (.int (iZ (kSum (σ.2.1 (s + 1)) b - kSum (σ.2.1 (s + 1)) a))) ∧ σ' = σ) := by
  have k := c_kindnessIn (d := d) hd hb hab hs σ (σ.2.1 (s + 1)) (σ.2.1 (s + 2)) (σ.2.1 (s + 3)) (σ.2.1 (s + 4)) (σ.1 s)
  rw [st_id] at k
  exact k
theorem t_thanksInAll {d s : Nat} (hs : kd s = 2) (σ : gS)  : sC mX2_thanksInAll d [.ref s] σ (fun r σ' => r = some (.int (iZ (kSum (σ.2.1 (s + 4)) 8))) ∧ σ' = σ) := by
  have k := c_thanksInAll (d := d) hs σ (σ.2.1 (s + 1)) (σ.2.1 (s + 2)) (σ.2.1 (s + 3)) (σ.2.1 (s + 4)) (σ.1 s)
  rw [st_id] at k
  exact k
theorem t_takesGood {d s j : Nat} (hs : kd s = 2) (σ : gS) (hj : j < 8) {n : Int} (hr : inR (σ.2.1 (s + 1) j + n)) : sC mX2_takesGood d [.ref s, .int (iZ (j : Int)), .int (iZ n)] σ (fun r σ' => r = some (.int (iZ (if σ.2.1 (s + 1) j + n ≤ 99 then 1 else 0))) ∧ σ' = σ) := by
  have k := c_takesG (d := d) hs σ (σ.2.1 (s + 1)) (σ.2.1 (s + 2)) (σ.2.1 (s + 3)) (σ.2.1 (s + 4)) (σ.1 s) hj hr
  rw [st_id] at k
  exact k
theorem t_isAsKindAs {d s o : Nat} (hs : kd s = 2) (σ : gS) (ho : kd o = 2) (hne : o ≠ s) (hK : ∀ j, j < 8 → inR (σ.2.1 (s + 1) j)) (hJ : ∀ j, j < 8 → inR (σ.2.1 (o + 1) j)) : sC mX2_isAsKindAs d [.ref s, .ref o] σ (fun r σ' => r = some (.int (iZ (kEE (σ.2.1 (s + 1)) (σ.2.1 (o + 1))))) ∧ σ' = σ) := by
  have k := c_isAsKindAs (d := d) hs σ (σ.2.1 (s + 1)) (σ.2.1 (s + 2)) (σ.2.1 (s + 3)) (σ.2.1 (s + 4)) (σ.1 s) ho hne hK hJ
  rw [st_id] at k
  exact k
theorem t_restKey {d s : Nat} (hs : kd s = 2) (σ : gS) (hK : ∀ j, j < 8 → inR (σ.2.1 (s + 1) j)) : sC mX2_restKey d [.ref s] σ (fun r σ' => r = some (.long (lZ (kKey (σ.2.1 (s + 1)) 8))) ∧ σ' = σ) := by
  have k := c_restKey (d := d) hs σ (σ.2.1 (s + 1)) (σ.2.1 (s + 2)) (σ.2.1 (s + 3)) (σ.2.1 (s + 4)) (σ.1 s) hK
  rw [st_id] at k
  exact k
