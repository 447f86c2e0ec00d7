/-! ===== period of the class: the search among the keys ===== -/
set_option maxHeartbeats 4000000 in
set_option maxRecDepth 100000 in
theorem lx_per1 {d h n : Nat} {u : Int} (hu : u = 0 ∨ u = 1) (hn : n ≤ 100) (hh : h < 8) (σ1 : gS) (f e : Nat → Int) (hf : ∀ k, k < n → σ1.2.2.1 336 k = f k) (hr : ∀ k, k ≤ n → 0 ≤ f k ∧ f k < 4294967296) (he : ∀ k, k < n → (f k = f n ↔ e k = 1)) {Q : Option Value → gS → Prop} (kc : fst1 e n 0 = -1 → ∀ l, sE g_tt mX6_period d Q 103 [some (.ref 0), some (.int (iZ (h : Int))), some (.int (iZ u)), some (.ref 364), some (.int (iZ (n : Int))), some (.long (lZ (f n))), none, l] [] σ1) (kr : ∀ x : Nat, fst1 e n 0 = (x : Int) → ∀ y, y = (if u = 0 then (n : Int) - (x : Int) else (x : Int)) → Q (some (.int (iZ y))) σ1) : ∀ (m : Nat) (k : Nat), k ≤ n → fst1 e (n - k) k = fst1 e n 0 → (n : Int) - (k : Int) < (m : Int) → sE g_tt mX6_period d Q 62 [some (.ref 0), some (.int (iZ (h : Int))), some (.int (iZ u)), some (.ref 364), some (.int (iZ (n : Int))), some (.long (lZ (f n))), none, some (.int (iZ (k : Int)))] [] σ1 := by
  intro m
  induction m with
  | zero =>
    intro k hk hx hm
    exact absurd hm (by omega)
  | succ m ih =>
    intro k hk hx hm
    have r1 := hr k hk
    have r2 := hr n (Nat.le_refl n)
    refine q_iload dX6_period_62 rfl ?_
    refine q_iload dX6_period_64 rfl ?_
    refine z_icmp_ge (tgt := 103) dX6_period_66 (by decide) (by unfold inR at *; omega) (by unfold inR at *; omega) (fun c_1 => ?_) (fun c_1 => ?_)
    · rw [show n - k = 0 by omega] at hx
      exact kc hx.symm _
    · refine q_aload_n dX6_period_69 rfl rfl ?_
      refine sg6 (kf := 8) (v := .ref 336) dX6_period_70 flX6_56 (show kd 0 = 6 from rfl) (by decide) rfl ?_
      refine q_iload dX6_period_73 rfl ?_
      refine s_lald (n := 101) (x := f k) dX6_period_75 (show kd 336 = 100000 + 101 from rfl) (by omega) (by omega) (by decide) (hf k (by omega)) ?_
      refine q_lload dX6_period_76 rfl ?_
      refine z_lif_ne (tgt := 97) dX6_period_78 dX6_period_79 (by decide) (by unfold inL; (try unfold inR at *); omega) (by unfold inL; (try unfold inR at *); omega) (fun c_2 => ?_) (fun c_2 => ?_)
      · refine z_iinc dX6_period_97 rfl (by decide) ?_
        show sE g_tt _ _ _ 100 [some (.ref 0), some (.int (iZ (h : Int))), some (.int (iZ u)), some (.ref 364), some (.int (iZ (n : Int))), some (.long (lZ (f n))), none, some (.int (iZ ((k : Int) + 1)))] [] σ1
        refine q_goto (tgt := 62) dX6_period_100 (by decide) ?_
        exact ih (k + 1) (by omega) (by rw [← hx, show n - k = (n - (k + 1)) + 1 by omega, fst1, if_neg (fun z => absurd ((he k (by omega)).2 z) (by omega))]) (by omega)
      · refine q_iload_n dX6_period_82 rfl rfl ?_
        refine z_if_eq (tgt := 91) dX6_period_83 (by decide) (by unfold inR at *; omega) (fun c_3 => ?_) (fun c_3 => ?_)
        · refine q_iload dX6_period_91 rfl ?_
          refine q_iload dX6_period_93 rfl ?_
          refine z_isub dX6_period_95 ?_
          exact s_iretZ dX6_period_96 rfl (kr k (by rw [← hx, show n - k = (n - (k + 1)) + 1 by omega, fst1, if_pos ((he k (by omega)).1 (by omega))]) _ (by first | (rw [if_pos (by omega)]; done) | (rw [if_neg (by omega)]; done)))
        · refine q_iload dX6_period_86 rfl ?_
          refine q_goto (tgt := 96) dX6_period_88 (by decide) ?_
          exact s_iretZ dX6_period_96 rfl (kr k (by rw [← hx, show n - k = (n - (k + 1)) + 1 by omega, fst1, if_pos ((he k (by omega)).1 (by omega))]) _ (by first | (rw [if_pos (by omega)]; done) | (rw [if_neg (by omega)]; done)))
