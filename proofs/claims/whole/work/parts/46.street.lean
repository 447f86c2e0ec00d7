/-! ===== a street of the class: kindness K, homes H, entries E, thanks N, fields f ===== -/
def st (σ : gS) (s : Nat) (K H E N f : Nat → Int) : gS := (va_up σ.1 s f, va_up (va_up (va_up (va_up σ.2.1 (s + 1) K) (s + 2) H) (s + 3) E) (s + 4) N, σ.2.2)
theorem st_f (σ : gS) (s : Nat) (K H E N f : Nat → Int) : (st σ s K H E N f).1 s = f := va_up_self _ _ _
theorem st_K (σ : gS) (s : Nat) (K H E N f : Nat → Int) : (st σ s K H E N f).2.1 (s + 1) = K := by
  show va_up (va_up (va_up (va_up σ.2.1 (s + 1) K) (s + 2) H) (s + 3) E) (s + 4) N (s + 1) = K
  rw [va_up_ne _ _ (by omega), va_up_ne _ _ (by omega), va_up_ne _ _ (by omega), va_up_self]
theorem st_H (σ : gS) (s : Nat) (K H E N f : Nat → Int) : (st σ s K H E N f).2.1 (s + 2) = H := by
  show va_up (va_up (va_up (va_up σ.2.1 (s + 1) K) (s + 2) H) (s + 3) E) (s + 4) N (s + 2) = H
  rw [va_up_ne _ _ (by omega), va_up_ne _ _ (by omega), va_up_self]
theorem st_E (σ : gS) (s : Nat) (K H E N f : Nat → Int) : (st σ s K H E N f).2.1 (s + 3) = E := by
  show va_up (va_up (va_up (va_up σ.2.1 (s + 1) K) (s + 2) H) (s + 3) E) (s + 4) N (s + 3) = E
  rw [va_up_ne _ _ (by omega), va_up_self]
theorem st_N (σ : gS) (s : Nat) (K H E N f : Nat → Int) : (st σ s K H E N f).2.1 (s + 4) = N := va_up_self _ _ _
theorem st_o1 (σ : gS) {s : Nat} (K H E N f : Nat → Int) {a : Nat} (h : a ≠ s) : (st σ s K H E N f).1 a = σ.1 a := va_up_ne _ _ h
theorem st_o2 (σ : gS) {s : Nat} (K H E N f : Nat → Int) {a : Nat} (h : a < s + 1 ∨ s + 4 < a) : (st σ s K H E N f).2.1 a = σ.2.1 a := by
  show va_up (va_up (va_up (va_up σ.2.1 (s + 1) K) (s + 2) H) (s + 3) E) (s + 4) N a = _
  rw [va_up_ne _ _ (by omega), va_up_ne _ _ (by omega), va_up_ne _ _ (by omega), va_up_ne _ _ (by omega)]
theorem up2_row {α : Type} (f : Nat → Nat → α) (a k : Nat) (v : α) (g : Nat → α) (h : f a = g) : up2 f a k v = va_up f a (va_up g k v) := by
  unfold up2; rw [h]
theorem va_up_up {α : Type} (f : Nat → α) (a : Nat) (x y : α) : va_up (va_up f a x) a y = va_up f a y := by
  funext i
  by_cases e : i = a
  · subst e; rw [va_up_self, va_up_self]
  · rw [va_up_ne _ _ e, va_up_ne _ _ e, va_up_ne _ _ e]
theorem va_up_id {α : Type} (f : Nat → α) (a : Nat) : va_up f a (f a) = f := by
  funext i
  by_cases e : i = a
  · subst e; exact va_up_self _ _ _
  · exact va_up_ne _ _ e
theorem st_eq {σ σ' : gS} {s : Nat} {K H E N f : Nat → Int} (h1 : σ'.1 s = f) (h2 : σ'.2.1 (s + 1) = K) (h3 : σ'.2.1 (s + 2) = H) (h4 : σ'.2.1 (s + 3) = E) (h5 : σ'.2.1 (s + 4) = N) (h6 : ∀ a, a ≠ s → σ'.1 a = σ.1 a) (h7 : ∀ a, a < s + 1 ∨ s + 4 < a → σ'.2.1 a = σ.2.1 a) (h8 : σ'.2.2 = σ.2.2) : σ' = st σ s K H E N f := by
  refine Prod.ext (funext fun a => ?_) (Prod.ext (funext fun a => ?_) ?_)
  · by_cases e : a = s
    · subst e; rw [h1, st_f]
    · rw [h6 a e, st_o1 _ _ _ _ _ _ e]
  · by_cases e1 : a = s + 1
    · subst e1; rw [h2, st_K]
    · by_cases e2 : a = s + 2
      · subst e2; rw [h3, st_H]
      · by_cases e3 : a = s + 3
        · subst e3; rw [h4, st_E]
        · by_cases e4 : a = s + 4
          · subst e4; rw [h5, st_N]
          · rw [h7 a (by omega), st_o2 _ _ _ _ _ _ (by omega)]
  · exact h8
theorem st_id (σ : gS) (s : Nat) : st σ s (σ.2.1 (s + 1)) (σ.2.1 (s + 2)) (σ.2.1 (s + 3)) (σ.2.1 (s + 4)) (σ.1 s) = σ := (st_eq rfl rfl rfl rfl rfl (fun _ _ => rfl) (fun _ _ => rfl) rfl).symm
theorem st_sI (σ : gS) (s : Nat) (K H E N f : Nat → Int) (k : Nat) (z : Int) : sI (st σ s K H E N f) s k z = st σ s K H E N (va_up f k z) := by
  unfold sI st
  rw [up2_row _ _ _ _ f (va_up_self _ _ _), va_up_up]
theorem st_st (σ : gS) (s : Nat) (K H E N f K' H' E' N' f' : Nat → Int) : st (st σ s K H E N f) s K' H' E' N' f' = st σ s K' H' E' N' f' := by
  refine st_eq (st_f _ _ _ _ _ _ _) (st_K _ _ _ _ _ _ _) (st_H _ _ _ _ _ _ _) (st_E _ _ _ _ _ _ _) (st_N _ _ _ _ _ _ _) (fun a h => ?_) (fun a h => ?_) rfl
  · rw [st_o1 _ _ _ _ _ _ h, st_o1 _ _ _ _ _ _ h]
  · rw [st_o2 _ _ _ _ _ _ h, st_o2 _ _ _ _ _ _ h]
theorem st_sK (σ : gS) (s : Nat) (K H E N f : Nat → Int) (k : Nat) (z : Int) : sR (st σ s K H E N f) (s + 1) k z = st σ s (va_up K k z) H E N f :=
  st_eq (st_f σ s K H E N f) ((up2_eq _ _ _ _).trans (by rw [st_K])) ((up2_ne _ _ _ (by omega)).trans (st_H σ s K H E N f)) ((up2_ne _ _ _ (by omega)).trans (st_E σ s K H E N f)) ((up2_ne _ _ _ (by omega)).trans (st_N σ s K H E N f)) (fun a h => st_o1 σ K H E N f h) (fun a h => (up2_ne _ _ _ (by omega)).trans (st_o2 σ K H E N f h)) rfl
theorem st_wK (σ : gS) (s : Nat) (K H E N f g : Nat → Int) : sRw (st σ s K H E N f) (s + 1) g = st σ s g H E N f :=
  st_eq (st_f σ s K H E N f) (va_up_self _ _ _) ((va_up_ne _ _ (by omega)).trans (st_H σ s K H E N f)) ((va_up_ne _ _ (by omega)).trans (st_E σ s K H E N f)) ((va_up_ne _ _ (by omega)).trans (st_N σ s K H E N f)) (fun a h => st_o1 σ K H E N f h) (fun a h => (va_up_ne _ _ (by omega)).trans (st_o2 σ K H E N f h)) rfl
theorem st_sH (σ : gS) (s : Nat) (K H E N f : Nat → Int) (k : Nat) (z : Int) : sR (st σ s K H E N f) (s + 2) k z = st σ s K (va_up H k z) E N f :=
  st_eq (st_f σ s K H E N f) ((up2_ne _ _ _ (by omega)).trans (st_K σ s K H E N f)) ((up2_eq _ _ _ _).trans (by rw [st_H])) ((up2_ne _ _ _ (by omega)).trans (st_E σ s K H E N f)) ((up2_ne _ _ _ (by omega)).trans (st_N σ s K H E N f)) (fun a h => st_o1 σ K H E N f h) (fun a h => (up2_ne _ _ _ (by omega)).trans (st_o2 σ K H E N f h)) rfl
theorem st_wH (σ : gS) (s : Nat) (K H E N f g : Nat → Int) : sRw (st σ s K H E N f) (s + 2) g = st σ s K g E N f :=
  st_eq (st_f σ s K H E N f) ((va_up_ne _ _ (by omega)).trans (st_K σ s K H E N f)) (va_up_self _ _ _) ((va_up_ne _ _ (by omega)).trans (st_E σ s K H E N f)) ((va_up_ne _ _ (by omega)).trans (st_N σ s K H E N f)) (fun a h => st_o1 σ K H E N f h) (fun a h => (va_up_ne _ _ (by omega)).trans (st_o2 σ K H E N f h)) rfl
theorem st_sE (σ : gS) (s : Nat) (K H E N f : Nat → Int) (k : Nat) (z : Int) : sR (st σ s K H E N f) (s + 3) k z = st σ s K H (va_up E k z) N f :=
  st_eq (st_f σ s K H E N f) ((up2_ne _ _ _ (by omega)).trans (st_K σ s K H E N f)) ((up2_ne _ _ _ (by omega)).trans (st_H σ s K H E N f)) ((up2_eq _ _ _ _).trans (by rw [st_E])) ((up2_ne _ _ _ (by omega)).trans (st_N σ s K H E N f)) (fun a h => st_o1 σ K H E N f h) (fun a h => (up2_ne _ _ _ (by omega)).trans (st_o2 σ K H E N f h)) rfl
theorem st_wE (σ : gS) (s : Nat) (K H E N f g : Nat → Int) : sRw (st σ s K H E N f) (s + 3) g = st σ s K H g N f :=
  st_eq (st_f σ s K H E N f) ((va_up_ne _ _ (by omega)).trans (st_K σ s K H E N f)) ((va_up_ne _ _ (by omega)).trans (st_H σ s K H E N f)) (va_up_self _ _ _) ((va_up_ne _ _ (by omega)).trans (st_N σ s K H E N f)) (fun a h => st_o1 σ K H E N f h) (fun a h => (va_up_ne _ _ (by omega)).trans (st_o2 σ K H E N f h)) rfl
theorem st_sN (σ : gS) (s : Nat) (K H E N f : Nat → Int) (k : Nat) (z : Int) : sR (st σ s K H E N f) (s + 4) k z = st σ s K H E (va_up N k z) f :=
  st_eq (st_f σ s K H E N f) ((up2_ne _ _ _ (by omega)).trans (st_K σ s K H E N f)) ((up2_ne _ _ _ (by omega)).trans (st_H σ s K H E N f)) ((up2_ne _ _ _ (by omega)).trans (st_E σ s K H E N f)) ((up2_eq _ _ _ _).trans (by rw [st_N])) (fun a h => st_o1 σ K H E N f h) (fun a h => (up2_ne _ _ _ (by omega)).trans (st_o2 σ K H E N f h)) rfl
theorem st_wN (σ : gS) (s : Nat) (K H E N f g : Nat → Int) : sRw (st σ s K H E N f) (s + 4) g = st σ s K H E g f :=
  st_eq (st_f σ s K H E N f) ((va_up_ne _ _ (by omega)).trans (st_K σ s K H E N f)) ((va_up_ne _ _ (by omega)).trans (st_H σ s K H E N f)) ((va_up_ne _ _ (by omega)).trans (st_E σ s K H E N f)) (va_up_self _ _ _) (fun a h => st_o1 σ K H E N f h) (fun a h => (va_up_ne _ _ (by omega)).trans (st_o2 σ K H E N f h)) rfl
theorem tg_ob (f : Nat → Int) (a : Nat) (w : Int) (T : Nat → Option Nat) {kf : Nat} (hk : kf ∈ [2, 3, 4, 5, 6, 7, 9, 11]) : (obOf 2 a f w T)[kf]? = some (.int (iZ (f kf))) := by
  simp only [List.mem_cons, List.not_mem_nil, or_false] at hk
  rcases hk with rfl | rfl | rfl | rfl | rfl | rfl | rfl | rfl <;> rfl
theorem tg {Y : gY} {M : gM} {d : Nat} {Q : Option Value → gS → Prop} {pc : Nat} {L : List (Option Value)} {S : List Value} {σ : gS} {s : Nat} {K H E N f : Nat → Int} {kf i : Nat} {x : Int} (hd : decode M.2.1 pc = .ok (.getfield i, 3)) (hl : Cond.fieldLink M.1.cls i (TX2 kf).1 (TX2 kf).2.1 (TX2 kf).2.2.1 ∈ g_W) (hs : kd s = 2) (hk : kf ∈ [2, 3, 4, 5, 6, 7, 9, 11]) (hx : f kf = x) (k : sE Y M d Q (pc + 3) L (.int (iZ x) :: S) (st σ s K H E N f)) : sE Y M d Q pc L (.ref s :: S) (st σ s K H E N f) := by
  have q : ∀ x ∈ [2, 3, 4, 5, 6, 7, 9, 11], x < 12 := by decide
  exact sg2 (kf := kf) (v := .int (iZ x)) hd hl hs (q kf hk) (by rw [st_f, tg_ob f s _ _ hk, hx]) k
theorem tp {Y : gY} {M : gM} {d : Nat} {Q : Option Value → gS → Prop} {pc : Nat} {L : List (Option Value)} {S : List Value} {σ : gS} {s : Nat} {K H E N f : Nat → Int} {kf i : Nat} {z : Int} (hd : decode M.2.1 pc = .ok (.putfield i, 3)) (hl : Cond.fieldLink M.1.cls i (TX2 kf).1 (TX2 kf).2.1 (TX2 kf).2.2.1 ∈ g_W) (hs : kd s = 2) (hk : kf ∈ [2, 3, 4, 5, 6, 7, 9, 11]) (k : sE Y M d Q (pc + 3) L S (st σ s K H E N (va_up f kf z))) : sE Y M d Q pc L (.int (iZ z) :: .ref s :: S) (st σ s K H E N f) :=
  sp2 hd hl hs hk (by rw [st_sI]; exact k)
theorem tl1 {Y : gY} {M : gM} {d : Nat} {Q : Option Value → gS → Prop} {pc : Nat} {L : List (Option Value)} {S : List Value} {σ : gS} {s : Nat} {K H E N f : Nat → Int} {z x : Int} (hd : decode M.2.1 pc = .ok (.iaload, 1)) (hs : kd s = 2) (h0 : 0 ≤ z) (h1 : z < 8) (hv : K z.toNat = x) (k : sE Y M d Q (pc + 1) L (.int (iZ x) :: S) (st σ s K H E N f)) : sE Y M d Q pc L (.int (iZ z) :: .ref (s + 1) :: S) (st σ s K H E N f) :=
  s_iald (n := 8) (x := x) hd (kd_st hs).1 h0 h1 (by decide) (by rw [st_K]; exact hv) k
theorem ts1 {Y : gY} {M : gM} {d : Nat} {Q : Option Value → gS → Prop} {pc : Nat} {L : List (Option Value)} {S : List Value} {σ : gS} {s : Nat} {K H E N f : Nat → Int} {z x : Int} (hd : decode M.2.1 pc = .ok (.iastore, 1)) (hs : kd s = 2) (h0 : 0 ≤ z) (h1 : z < 8) (k : sE Y M d Q (pc + 1) L S (st σ s (va_up K z.toNat x) H E N f)) : sE Y M d Q pc L (.int (iZ x) :: .int (iZ z) :: .ref (s + 1) :: S) (st σ s K H E N f) :=
  s_iast (n := 8) hd (kd_st hs).1 h0 h1 (by decide) (by rw [st_sK]; exact k)
theorem tl2 {Y : gY} {M : gM} {d : Nat} {Q : Option Value → gS → Prop} {pc : Nat} {L : List (Option Value)} {S : List Value} {σ : gS} {s : Nat} {K H E N f : Nat → Int} {z x : Int} (hd : decode M.2.1 pc = .ok (.iaload, 1)) (hs : kd s = 2) (h0 : 0 ≤ z) (h1 : z < 5) (hv : H z.toNat = x) (k : sE Y M d Q (pc + 1) L (.int (iZ x) :: S) (st σ s K H E N f)) : sE Y M d Q pc L (.int (iZ z) :: .ref (s + 2) :: S) (st σ s K H E N f) :=
  s_iald (n := 5) (x := x) hd (kd_st hs).2.1 h0 h1 (by decide) (by rw [st_H]; exact hv) k
theorem ts2 {Y : gY} {M : gM} {d : Nat} {Q : Option Value → gS → Prop} {pc : Nat} {L : List (Option Value)} {S : List Value} {σ : gS} {s : Nat} {K H E N f : Nat → Int} {z x : Int} (hd : decode M.2.1 pc = .ok (.iastore, 1)) (hs : kd s = 2) (h0 : 0 ≤ z) (h1 : z < 5) (k : sE Y M d Q (pc + 1) L S (st σ s K (va_up H z.toNat x) E N f)) : sE Y M d Q pc L (.int (iZ x) :: .int (iZ z) :: .ref (s + 2) :: S) (st σ s K H E N f) :=
  s_iast (n := 5) hd (kd_st hs).2.1 h0 h1 (by decide) (by rw [st_sH]; exact k)
theorem tl3 {Y : gY} {M : gM} {d : Nat} {Q : Option Value → gS → Prop} {pc : Nat} {L : List (Option Value)} {S : List Value} {σ : gS} {s : Nat} {K H E N f : Nat → Int} {z x : Int} (hd : decode M.2.1 pc = .ok (.iaload, 1)) (hs : kd s = 2) (h0 : 0 ≤ z) (h1 : z < 30) (hv : E z.toNat = x) (k : sE Y M d Q (pc + 1) L (.int (iZ x) :: S) (st σ s K H E N f)) : sE Y M d Q pc L (.int (iZ z) :: .ref (s + 3) :: S) (st σ s K H E N f) :=
  s_iald (n := 30) (x := x) hd (kd_st hs).2.2.1 h0 h1 (by decide) (by rw [st_E]; exact hv) k
theorem ts3 {Y : gY} {M : gM} {d : Nat} {Q : Option Value → gS → Prop} {pc : Nat} {L : List (Option Value)} {S : List Value} {σ : gS} {s : Nat} {K H E N f : Nat → Int} {z x : Int} (hd : decode M.2.1 pc = .ok (.iastore, 1)) (hs : kd s = 2) (h0 : 0 ≤ z) (h1 : z < 30) (k : sE Y M d Q (pc + 1) L S (st σ s K H (va_up E z.toNat x) N f)) : sE Y M d Q pc L (.int (iZ x) :: .int (iZ z) :: .ref (s + 3) :: S) (st σ s K H E N f) :=
  s_iast (n := 30) hd (kd_st hs).2.2.1 h0 h1 (by decide) (by rw [st_sE]; exact k)
theorem tl4 {Y : gY} {M : gM} {d : Nat} {Q : Option Value → gS → Prop} {pc : Nat} {L : List (Option Value)} {S : List Value} {σ : gS} {s : Nat} {K H E N f : Nat → Int} {z x : Int} (hd : decode M.2.1 pc = .ok (.iaload, 1)) (hs : kd s = 2) (h0 : 0 ≤ z) (h1 : z < 8) (hv : N z.toNat = x) (k : sE Y M d Q (pc + 1) L (.int (iZ x) :: S) (st σ s K H E N f)) : sE Y M d Q pc L (.int (iZ z) :: .ref (s + 4) :: S) (st σ s K H E N f) :=
  s_iald (n := 8) (x := x) hd (kd_st hs).2.2.2 h0 h1 (by decide) (by rw [st_N]; exact hv) k
theorem ts4 {Y : gY} {M : gM} {d : Nat} {Q : Option Value → gS → Prop} {pc : Nat} {L : List (Option Value)} {S : List Value} {σ : gS} {s : Nat} {K H E N f : Nat → Int} {z x : Int} (hd : decode M.2.1 pc = .ok (.iastore, 1)) (hs : kd s = 2) (h0 : 0 ≤ z) (h1 : z < 8) (k : sE Y M d Q (pc + 1) L S (st σ s K H E (va_up N z.toNat x) f)) : sE Y M d Q pc L (.int (iZ x) :: .int (iZ z) :: .ref (s + 4) :: S) (st σ s K H E N f) :=
  s_iast (n := 8) hd (kd_st hs).2.2.2 h0 h1 (by decide) (by rw [st_sN]; exact k)
