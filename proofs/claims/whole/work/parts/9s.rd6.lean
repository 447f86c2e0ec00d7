/-! ===== the class's reader reads a sum ===== -/
section
variable {σ : gS} {x n : Nat} {tk st nu : Nat → Int} {so : Int}
theorem RC_m {M : gM} {D D' nd nd' : Nat} {o : Int} {p : Nat → rE} (h : RC σ x n tk st so M D o nd p) (h1 : D ≤ D') (h2 : nd ≤ nd') : RC σ x n tk st so M D' o nd' p := by
  intro d σ1 B hd rd ok
  have q := h d σ1 B (Nat.le_trans h1 hd) rd ok
  refine sC_imp (fun r σ' z => ?_) q
  obtain ⟨e, B', rd', q'⟩ := z
  exact ⟨e, B', rd', rdQ_m q' h2 (Nat.le_refl _)⟩
def RL4 (σ : gS) (x n : Nat) (tk st : Nat → Int) (so : Int) (D N : Nat) (o : Int) (l : lQ) : Prop := RC σ x n tk st so mX1_readOne D o N l.1 ∧ RC σ x n tk st so mX1_readSum D o N l.2.1 ∧ RC σ x n tk st so mX1_readAsk D o N l.2.2.1 ∧ RC σ x n tk st so mX1_readEither D o N l.2.2.2
theorem rl_step {D N : Nat} (hN : 1 ≤ N) (K : rdK σ x n tk st nu) (hso : so = 0 ∨ so = 1) {o oki : Int} (ho : inR o) (hok : oki = 0 ↔ 8 ≤ o) {low : lQ} (hl : okL low) (h : o < 8 → RL4 σ x n tk st so D N (o + 1) low) : RL4 σ x n tk st so (D + 9) (N + 6) o (mkQ tk nu (1 - so) oki low) := by
  have one : RC σ x n tk st so mX1_readOne (D + 3) o (N + 1) (onB tk nu (1 - so) oki low) := x_readOne (n1 := N) (nS := N) (nE := N) (by omega) (by omega) (by omega) (by omega) K hso ho hok hl (fun c => (h c).1) (fun c => (h c).2.1) (fun c => (h c).2.2.2)
  have prod := x_readProduct (nd := N + 2) (by omega) K one
  have sum : RC σ x n tk st so mX1_readSum (D + 5) o (N + 3) (smB tk (onB tk nu (1 - so) oki low)) := x_readSum (nd := N + 3) (by omega) K prod
  have ask : RC σ x n tk st so mX1_readAsk (D + 7) o (N + 4) (akB tk oki low (smB tk (onB tk nu (1 - so) oki low))) := x_readAsk (nA := N) (nS := N + 3) (by omega) (by omega) K ho hok hl (fun c => RC_m (h c).2.2.1 (by omega) (Nat.le_refl _)) sum
  have both := x_readBoth (nd := N + 5) (by omega) K ask (fun k => b0_ak k)
  have ei : RC σ x n tk st so mX1_readEither (D + 9) o (N + 6) (eiB tk (akB tk oki low (smB tk (onB tk nu (1 - so) oki low)))) := x_readEither (nd := N + 6) (by omega) K both (fun k => b0_ch (by unfold cmO; omega) (fun k => b0_ak k) k)
  exact ⟨RC_m one (by omega) (by omega), RC_m sum (by omega) (by omega), RC_m ask (by omega) (by omega), ei⟩
theorem rl_lev (K : rdK σ x n tk st nu) (hso : so = 0 ∨ so = 1) : ∀ v : Nat, v ≤ 8 → RL4 σ x n tk st so (9 * v + 9) (6 * v + 7) (8 - (v : Int)) (lev tk nu (1 - so) v) := by
  intro v
  induction v with
  | zero =>
    intro _
    have F : ∀ k, okE k (rF 1 k) := fun k => okE_F ⟨by decide, by decide⟩ k
    exact rl_step (D := 0) (N := 1) (by omega) K hso (by unfold inR; omega) (by constructor <;> intro _ <;> omega) (low := (rF 1, rF 1, rF 1, rF 1)) ⟨F, F, F, F⟩ (fun c => absurd c (by omega))
  | succ v ih =>
    intro hv
    have e : (8 - ((v + 1 : Nat) : Int)) + 1 = 8 - (v : Int) := by omega
    have q := rl_step (D := 9 * v + 9) (N := 6 * v + 7) (by omega) K hso (o := 8 - ((v + 1 : Nat) : Int)) (oki := 1) (by unfold inR; omega) (by constructor <;> intro _ <;> omega) (okL_lev tk nu (1 - so) v) (fun _ => by rw [e]; exact ih (by omega))
    exact q
/-- a sum of the class -/
theorem x_sum0 (K : rdK σ x n tk st nu) (hso : so = 0 ∨ so = 1) : RC σ x n tk st so mX1_readSum 81 0 55 (lev tk nu (1 - so) 8).2.1 := (rl_lev K hso 8 (by omega)).2.1
end
