/-! ===== the law: its script, its calls ===== -/
abbrev mL_law : gM := (yL_law, cL_law, 4, some .boolean)
/-- nothing is there -/
def g0 : gH := (F0c, 0, 0)
/-- the law's script, outside of the small heap -/
def gYL (L : Nat) (xs : Nat → Int32) : gY := fun r A s => va_X (r 1000002) L xs s s.heap ∧ r 1000002 < s.heap.size ∧ ¬ A (r 1000002)
abbrev lwR1 : Option Value → gH → Prop := fun v _ => v = some (.int 1)
def LawOK : Prop := ∀ (L : Nat) (xs : Nat → Int32), L ≤ 3072 → gE (gYL L xs) mL_law 1000 (0, 0, 398, 15794) lwR1 0 [some (.ref 1000002), none, none, none] [] g0
def xv (xs : Nat → Int32) (n : Nat) : Int := (xs n).toInt
theorem xv_r (xs : Nat → Int32) (n : Nat) : inR (xv xs n) := ⟨Int32.le_toInt _, Int.le_of_lt_add_one (Int32.toInt_lt _)⟩
theorem xv_i (xs : Nat → Int32) (n : Nat) : iZ (xv xs n) = xs n := Int32.ofInt_toInt _
section
variable {L : Nat} {xs : Nat → Int32} {M : gM} {d : Nat} {b : gB} {Q : Option Value → gH → Prop} {pc : Nat} {Lc : List (Option Value)} {S : List Value} {h : gH}
theorem q_slen (hd : decode M.2.1 pc = .ok (.arraylength, 1)) (k : gE (gYL L xs) M d b Q (pc + 1) Lc (.int (iZ (L : Int)) :: S) h) : gE (gYL L xs) M d b Q pc Lc (.ref 1000002 :: S) h := by
  intro p l e R s m args below meth c D tc r0 A r H locs ls hC hR hL h1 h2 h3 h0
  have q := k p l e R s m args below meth c D tc r0 A r H locs ls hC hR hL h1 h2 h3 h0
  rw [iZ_nat] at q
  exact va_slen hC.1 hC.2.1 h0.1 h0.2.1 h0.2.2 hR.2.2.2.1 hd q
theorem q_sld {z : Int} {j : Nat} (hd : decode M.2.1 pc = .ok (.iaload, 1)) (hz : z = (j : Int)) (hj : j < L) (hL3 : L ≤ 3072) (k : gE (gYL L xs) M d b Q (pc + 1) Lc (.int (iZ (xv xs j)) :: S) h) : gE (gYL L xs) M d b Q pc Lc (.int (iZ z) :: .ref 1000002 :: S) h := by
  intro p l e R s m args below meth c D tc r0 A r H locs ls hC hR hL h1 h2 h3 h0
  have q := k p l e R s m args below meth c D tc r0 A r H locs ls hC hR hL h1 h2 h3 h0
  refine va_sld hC.1 hC.2.1 h0.1 h0.2.1 h0.2.2 hR.2.2.2.1 (iZ_in (z := z) (by omega) (by omega) (by omega)) hd ?_
  rw [iZ_clamp (z := z) ⟨by omega, by omega⟩, show z.toNat = j by omega, ← xv_i xs j]
  exact q
end
/-- a call of the class, of the model -/
theorem w_cls {L : Nat} {xs : Nat → Int32} {pc i n : Nat} {Lc : List (Option Value)} {MX MM : gM} {as S1 : List Value} {τ : gS} {c' : Int} (hd : decode cL_law pc = .ok (.invokevirtual i, 3)) (hok : g_okV MX n) (hl : Cond.methodLink RL i MX.1 ∈ g_W) (hn : as.length = n) (hcl : vwCl[6]? = some (MX.1.cls, TX6, 10)) (hS : S1 = as.reverse ++ [.ref 0]) (hj : jP MX MM 999 as τ c') (k : ∀ (z : Int) (σ1 : gS), sC MM 999 (.ref 384 :: as) σ1 (fun r2 σ2 => r2 = some (.int (iZ z)) ∧ JJ σ2 c') → gE (gYL L xs) mL_law 1000 (0, 0, 398, 15794) lwR1 (pc + 3) Lc [.int (iZ z)] (hE σ1)) : gE (gYL L xs) mL_law 1000 (0, 0, 398, 15794) lwR1 pc Lc S1 (hE τ) := by
  refine q_callV (M := mL_law) (h := hE τ) (M' := MX) (d' := 999) (a := 0) (ci := 6) (As := as) (S := []) hd hok hl hn (by decide) hS (Nat.zero_le _) (by show 0 < 398; decide) (hE_ob τ (show kd 0 = 6 from rfl) (by decide)) hcl hj (fun v h' hq _ => ?_)
  obtain ⟨σ1, rfl, z, rfl, hm⟩ := hq
  exact k z σ1 hm
theorem w_mod {L : Nat} {xs : Nat → Int32} {pc i n : Nat} {Lc : List (Option Value)} {MM : gM} {as S1 : List Value} {σ1 : gS} {c' z : Int} (hd : decode cL_law pc = .ok (.invokevirtual i, 3)) (hok : g_okV MM n) (hl : Cond.methodLink RL i MM.1 ∈ g_W) (hn : as.length = n) (hcl : vwCl[7]? = some (MM.1.cls, TX7, 36)) (hS : S1 = as.reverse ++ [.ref 384, .int (iZ z)]) (hm : sC MM 999 (.ref 384 :: as) σ1 (fun r2 σ2 => r2 = some (.int (iZ z)) ∧ JJ σ2 c')) (k : ∀ σ2 : gS, JJ σ2 c' → gE (gYL L xs) mL_law 1000 (0, 0, 398, 15794) lwR1 (pc + 3) Lc [.int (iZ z), .int (iZ z)] (hE σ2)) : gE (gYL L xs) mL_law 1000 (0, 0, 398, 15794) lwR1 pc Lc S1 (hE σ1) := by
  refine q_callV (M := mL_law) (h := hE σ1) (M' := MM) (d' := 999) (a := 384) (ci := 7) (As := as) (S := [.int (iZ z)]) hd hok hl hn (by decide) hS (Nat.le_of_ble_eq_true rfl) (by show 384 < 398; decide) (hE_ob σ1 (show kd 384 = 7 from rfl) (by decide)) hcl hm (fun v h' hq _ => ?_)
  obtain ⟨σ2, rfl, rfl, J2⟩ := hq
  exact k σ2 J2
set_option maxHeartbeats 4000000 in
set_option maxRecDepth 100000 in
theorem lw_person {L i : Nat} {xs : Nat → Int32} (hL : L ≤ 3072) (hi : i + 6 ≤ L) {τ : gS} {c : Int} (hc : c ≤ 45000) {W V : wF} (J : JM τ W V c ∧ JC τ W V) (K : ∀ σ2, JJ σ2 (c + 80) → gE (gYL L xs) mL_law 1000 (0, 0, 398, 15794) lwR1 1661 [some (.ref 1000002), some (.ref 0), some (.ref 384), some (.int (iZ (i : Int)))] [] (hE σ2)) : gE (gYL L xs) mL_law 1000 (0, 0, 398, 15794) lwR1 260 [some (.ref 1000002), some (.ref 0), some (.ref 384), some (.int (iZ (i : Int)))] [] (hE τ) := by
  refine q_aload_n dL_law_260 rfl rfl ?_
  refine q_aload_n dL_law_261 rfl rfl ?_
  refine q_iload_n dL_law_262 rfl rfl ?_
  refine z_iconst dL_law_263 ?_
  refine z_iadd dL_law_264 ?_
  refine q_sld (j := i + 1) dL_law_265 (by omega) (by omega) hL ?_
  refine w_cls (MX := mX6_person) (MM := mX7_person) (as := [.int (iZ (xv xs (i + 1)))]) dL_law_266 okX6_person mlL_13 rfl rfl rfl (j_person (by decide) hc J (xv_r xs _)) (fun z σ1 hm => ?_)
  refine q_aload_n dL_law_269 rfl rfl ?_
  refine q_aload_n dL_law_270 rfl rfl ?_
  refine q_iload_n dL_law_271 rfl rfl ?_
  refine z_iconst dL_law_272 ?_
  refine z_iadd dL_law_273 ?_
  refine q_sld (j := i + 1) dL_law_274 (by omega) (by omega) hL ?_
  refine w_mod (MM := mX7_person) (as := [.int (iZ (xv xs (i + 1)))]) dL_law_275 okX7_person mlL_17 rfl rfl rfl hm (fun σ2 J2 => ?_)
  exact q_icmp_eq (tgt := 1661) dL_law_278 (by decide) (fun _ => K σ2 J2) (fun q => absurd rfl q)
set_option maxHeartbeats 4000000 in
set_option maxRecDepth 100000 in
theorem lw_kind {L i : Nat} {xs : Nat → Int32} (hL : L ≤ 3072) (hi : i + 6 ≤ L) {τ : gS} {c : Int} (hc : c ≤ 45000) {W V : wF} (J : JM τ W V c ∧ JC τ W V) (K : ∀ σ2, JJ σ2 (c + 80) → gE (gYL L xs) mL_law 1000 (0, 0, 398, 15794) lwR1 1661 [some (.ref 1000002), some (.ref 0), some (.ref 384), some (.int (iZ (i : Int)))] [] (hE σ2)) : gE (gYL L xs) mL_law 1000 (0, 0, 398, 15794) lwR1 283 [some (.ref 1000002), some (.ref 0), some (.ref 384), some (.int (iZ (i : Int)))] [] (hE τ) := by
  refine q_aload_n dL_law_283 rfl rfl ?_
  refine q_aload_n dL_law_284 rfl rfl ?_
  refine q_iload_n dL_law_285 rfl rfl ?_
  refine z_iconst dL_law_286 ?_
  refine z_iadd dL_law_287 ?_
  refine q_sld (j := i + 1) dL_law_288 (by omega) (by omega) hL ?_
  refine q_aload_n dL_law_289 rfl rfl ?_
  refine q_iload_n dL_law_290 rfl rfl ?_
  refine z_iconst dL_law_291 ?_
  refine z_iadd dL_law_292 ?_
  refine q_sld (j := i + 2) dL_law_293 (by omega) (by omega) hL ?_
  refine w_cls (MX := mX6_kind) (MM := mX7_kind) (as := [.int (iZ (xv xs (i + 1))), .int (iZ (xv xs (i + 2)))]) dL_law_294 okX6_kind mlL_18 rfl rfl rfl (j_kind (by decide) hc J (xv_r xs _) (xv_r xs _)) (fun z σ1 hm => ?_)
  refine q_aload_n dL_law_297 rfl rfl ?_
  refine q_aload_n dL_law_298 rfl rfl ?_
  refine q_iload_n dL_law_299 rfl rfl ?_
  refine z_iconst dL_law_300 ?_
  refine z_iadd dL_law_301 ?_
  refine q_sld (j := i + 1) dL_law_302 (by omega) (by omega) hL ?_
  refine q_aload_n dL_law_303 rfl rfl ?_
  refine q_iload_n dL_law_304 rfl rfl ?_
  refine z_iconst dL_law_305 ?_
  refine z_iadd dL_law_306 ?_
  refine q_sld (j := i + 2) dL_law_307 (by omega) (by omega) hL ?_
  refine w_mod (MM := mX7_kind) (as := [.int (iZ (xv xs (i + 1))), .int (iZ (xv xs (i + 2)))]) dL_law_308 okX7_kind mlL_22 rfl rfl rfl hm (fun σ2 J2 => ?_)
  exact q_icmp_eq (tgt := 1661) dL_law_311 (by decide) (fun _ => K σ2 J2) (fun q => absurd rfl q)
set_option maxHeartbeats 4000000 in
set_option maxRecDepth 100000 in
theorem lw_feed {L i : Nat} {xs : Nat → Int32} (hL : L ≤ 3072) (hi : i + 6 ≤ L) {τ : gS} {c : Int} (hc : c ≤ 45000) {W V : wF} (J : JM τ W V c ∧ JC τ W V) (K : ∀ σ2, JJ σ2 (c + 80) → gE (gYL L xs) mL_law 1000 (0, 0, 398, 15794) lwR1 1661 [some (.ref 1000002), some (.ref 0), some (.ref 384), some (.int (iZ (i : Int)))] [] (hE σ2)) : gE (gYL L xs) mL_law 1000 (0, 0, 398, 15794) lwR1 316 [some (.ref 1000002), some (.ref 0), some (.ref 384), some (.int (iZ (i : Int)))] [] (hE τ) := by
  refine q_aload_n dL_law_316 rfl rfl ?_
  refine q_aload_n dL_law_317 rfl rfl ?_
  refine q_iload_n dL_law_318 rfl rfl ?_
  refine z_iconst dL_law_319 ?_
  refine z_iadd dL_law_320 ?_
  refine q_sld (j := i + 1) dL_law_321 (by omega) (by omega) hL ?_
  refine q_aload_n dL_law_322 rfl rfl ?_
  refine q_iload_n dL_law_323 rfl rfl ?_
  refine z_iconst dL_law_324 ?_
  refine z_iadd dL_law_325 ?_
  refine q_sld (j := i + 2) dL_law_326 (by omega) (by omega) hL ?_
  refine q_aload_n dL_law_327 rfl rfl ?_
  refine q_iload_n dL_law_328 rfl rfl ?_
  refine z_iconst dL_law_329 ?_
  refine z_iadd dL_law_330 ?_
  refine q_sld (j := i + 3) dL_law_331 (by omega) (by omega) hL ?_
  refine q_aload_n dL_law_332 rfl rfl ?_
  refine q_iload_n dL_law_333 rfl rfl ?_
  refine z_iconst dL_law_334 ?_
  refine z_iadd dL_law_335 ?_
  refine q_sld (j := i + 4) dL_law_336 (by omega) (by omega) hL ?_
  refine q_aload_n dL_law_337 rfl rfl ?_
  refine q_iload_n dL_law_338 rfl rfl ?_
  refine z_iconst dL_law_339 ?_
  refine z_iadd dL_law_340 ?_
  refine q_sld (j := i + 5) dL_law_341 (by omega) (by omega) hL ?_
  refine w_cls (MX := mX6_feed) (MM := mX7_feed) (as := [.int (iZ (xv xs (i + 1))), .int (iZ (xv xs (i + 2))), .int (iZ (xv xs (i + 3))), .int (iZ (xv xs (i + 4))), .int (iZ (xv xs (i + 5)))]) dL_law_342 okX6_feed mlL_23 rfl rfl rfl (j_feed (by decide) J (xv_r xs _) (xv_r xs _) (xv_r xs _) (xv_r xs _) (xv_r xs _)) (fun z σ1 hm => ?_)
  refine q_aload_n dL_law_345 rfl rfl ?_
  refine q_aload_n dL_law_346 rfl rfl ?_
  refine q_iload_n dL_law_347 rfl rfl ?_
  refine z_iconst dL_law_348 ?_
  refine z_iadd dL_law_349 ?_
  refine q_sld (j := i + 1) dL_law_350 (by omega) (by omega) hL ?_
  refine q_aload_n dL_law_351 rfl rfl ?_
  refine q_iload_n dL_law_352 rfl rfl ?_
  refine z_iconst dL_law_353 ?_
  refine z_iadd dL_law_354 ?_
  refine q_sld (j := i + 2) dL_law_355 (by omega) (by omega) hL ?_
  refine q_aload_n dL_law_356 rfl rfl ?_
  refine q_iload_n dL_law_357 rfl rfl ?_
  refine z_iconst dL_law_358 ?_
  refine z_iadd dL_law_359 ?_
  refine q_sld (j := i + 3) dL_law_360 (by omega) (by omega) hL ?_
  refine q_aload_n dL_law_361 rfl rfl ?_
  refine q_iload_n dL_law_362 rfl rfl ?_
  refine z_iconst dL_law_363 ?_
  refine z_iadd dL_law_364 ?_
  refine q_sld (j := i + 4) dL_law_365 (by omega) (by omega) hL ?_
  refine q_aload_n dL_law_366 rfl rfl ?_
  refine q_iload_n dL_law_367 rfl rfl ?_
  refine z_iconst dL_law_368 ?_
  refine z_iadd dL_law_369 ?_
  refine q_sld (j := i + 5) dL_law_370 (by omega) (by omega) hL ?_
  refine w_mod (MM := mX7_feed) (as := [.int (iZ (xv xs (i + 1))), .int (iZ (xv xs (i + 2))), .int (iZ (xv xs (i + 3))), .int (iZ (xv xs (i + 4))), .int (iZ (xv xs (i + 5)))]) dL_law_371 okX7_feed mlL_27 rfl rfl rfl hm (fun σ2 J2 => ?_)
  exact q_icmp_eq (tgt := 1661) dL_law_374 (by decide) (fun _ => K σ2 J2) (fun q => absurd rfl q)
set_option maxHeartbeats 4000000 in
set_option maxRecDepth 100000 in
theorem lw_end {L i : Nat} {xs : Nat → Int32} (hL : L ≤ 3072) (hi : i + 6 ≤ L) {τ : gS} {c : Int} (hc : c ≤ 45000) {W V : wF} (J : JM τ W V c ∧ JC τ W V) (K : ∀ σ2, JJ σ2 (c + 80) → gE (gYL L xs) mL_law 1000 (0, 0, 398, 15794) lwR1 1661 [some (.ref 1000002), some (.ref 0), some (.ref 384), some (.int (iZ (i : Int)))] [] (hE σ2)) : gE (gYL L xs) mL_law 1000 (0, 0, 398, 15794) lwR1 379 [some (.ref 1000002), some (.ref 0), some (.ref 384), some (.int (iZ (i : Int)))] [] (hE τ) := by
  refine q_aload_n dL_law_379 rfl rfl ?_
  refine q_aload_n dL_law_380 rfl rfl ?_
  refine q_iload_n dL_law_381 rfl rfl ?_
  refine z_iconst dL_law_382 ?_
  refine z_iadd dL_law_383 ?_
  refine q_sld (j := i + 1) dL_law_384 (by omega) (by omega) hL ?_
  refine w_cls (MX := mX6_end) (MM := mX7_end) (as := [.int (iZ (xv xs (i + 1)))]) dL_law_385 okX6_end mlL_28 rfl rfl rfl (j_end (by decide) J (xv_r xs _)) (fun z σ1 hm => ?_)
  refine q_aload_n dL_law_388 rfl rfl ?_
  refine q_aload_n dL_law_389 rfl rfl ?_
  refine q_iload_n dL_law_390 rfl rfl ?_
  refine z_iconst dL_law_391 ?_
  refine z_iadd dL_law_392 ?_
  refine q_sld (j := i + 1) dL_law_393 (by omega) (by omega) hL ?_
  refine w_mod (MM := mX7_end) (as := [.int (iZ (xv xs (i + 1)))]) dL_law_394 okX7_end mlL_31 rfl rfl rfl hm (fun σ2 J2 => ?_)
  exact q_icmp_eq (tgt := 1661) dL_law_397 (by decide) (fun _ => K σ2 J2) (fun q => absurd rfl q)
set_option maxHeartbeats 4000000 in
set_option maxRecDepth 100000 in
theorem lw_text {L i : Nat} {xs : Nat → Int32} (hL : L ≤ 3072) (hi : i + 6 ≤ L) {τ : gS} {c : Int} (hc : c ≤ 45000) {W V : wF} (J : JM τ W V c ∧ JC τ W V) (K : ∀ σ2, JJ σ2 (c + 80) → gE (gYL L xs) mL_law 1000 (0, 0, 398, 15794) lwR1 1661 [some (.ref 1000002), some (.ref 0), some (.ref 384), some (.int (iZ (i : Int)))] [] (hE σ2)) : gE (gYL L xs) mL_law 1000 (0, 0, 398, 15794) lwR1 402 [some (.ref 1000002), some (.ref 0), some (.ref 384), some (.int (iZ (i : Int)))] [] (hE τ) := by
  refine q_aload_n dL_law_402 rfl rfl ?_
  refine w_cls (MX := mX6_text) (MM := mX7_text) (as := []) dL_law_403 okX6_text mlL_32 rfl rfl rfl (j_text (by decide) J ) (fun z σ1 hm => ?_)
  refine q_aload_n dL_law_406 rfl rfl ?_
  refine w_mod (MM := mX7_text) (as := []) dL_law_407 okX7_text mlL_36 rfl rfl rfl hm (fun σ2 J2 => ?_)
  exact q_icmp_eq (tgt := 1661) dL_law_410 (by decide) (fun _ => K σ2 J2) (fun q => absurd rfl q)
set_option maxHeartbeats 4000000 in
set_option maxRecDepth 100000 in
theorem lw_fault {L i : Nat} {xs : Nat → Int32} (hL : L ≤ 3072) (hi : i + 6 ≤ L) {τ : gS} {c : Int} (hc : c ≤ 45000) {W V : wF} (J : JM τ W V c ∧ JC τ W V) (K : ∀ σ2, JJ σ2 (c + 80) → gE (gYL L xs) mL_law 1000 (0, 0, 398, 15794) lwR1 1661 [some (.ref 1000002), some (.ref 0), some (.ref 384), some (.int (iZ (i : Int)))] [] (hE σ2)) : gE (gYL L xs) mL_law 1000 (0, 0, 398, 15794) lwR1 415 [some (.ref 1000002), some (.ref 0), some (.ref 384), some (.int (iZ (i : Int)))] [] (hE τ) := by
  refine q_aload_n dL_law_415 rfl rfl ?_
  refine q_aload_n dL_law_416 rfl rfl ?_
  refine q_iload_n dL_law_417 rfl rfl ?_
  refine z_iconst dL_law_418 ?_
  refine z_iadd dL_law_419 ?_
  refine q_sld (j := i + 1) dL_law_420 (by omega) (by omega) hL ?_
  refine w_cls (MX := mX6_fault) (MM := mX7_fault) (as := [.int (iZ (xv xs (i + 1)))]) dL_law_421 okX6_fault mlL_37 rfl rfl rfl (j_fault (by decide) hc J (xv_r xs _)) (fun z σ1 hm => ?_)
  refine q_aload_n dL_law_424 rfl rfl ?_
  refine q_aload_n dL_law_425 rfl rfl ?_
  refine q_iload_n dL_law_426 rfl rfl ?_
  refine z_iconst dL_law_427 ?_
  refine z_iadd dL_law_428 ?_
  refine q_sld (j := i + 1) dL_law_429 (by omega) (by omega) hL ?_
  refine w_mod (MM := mX7_fault) (as := [.int (iZ (xv xs (i + 1)))]) dL_law_430 okX7_fault mlL_40 rfl rfl rfl hm (fun σ2 J2 => ?_)
  exact q_icmp_eq (tgt := 1661) dL_law_433 (by decide) (fun _ => K σ2 J2) (fun q => absurd rfl q)
set_option maxHeartbeats 4000000 in
set_option maxRecDepth 100000 in
theorem lw_by {L i : Nat} {xs : Nat → Int32} (hL : L ≤ 3072) (hi : i + 6 ≤ L) {τ : gS} {c : Int} (hc : c ≤ 45000) {W V : wF} (J : JM τ W V c ∧ JC τ W V) (K : ∀ σ2, JJ σ2 (c + 80) → gE (gYL L xs) mL_law 1000 (0, 0, 398, 15794) lwR1 1661 [some (.ref 1000002), some (.ref 0), some (.ref 384), some (.int (iZ (i : Int)))] [] (hE σ2)) : gE (gYL L xs) mL_law 1000 (0, 0, 398, 15794) lwR1 438 [some (.ref 1000002), some (.ref 0), some (.ref 384), some (.int (iZ (i : Int)))] [] (hE τ) := by
  refine q_aload_n dL_law_438 rfl rfl ?_
  refine q_aload_n dL_law_439 rfl rfl ?_
  refine q_iload_n dL_law_440 rfl rfl ?_
  refine z_iconst dL_law_441 ?_
  refine z_iadd dL_law_442 ?_
  refine q_sld (j := i + 1) dL_law_443 (by omega) (by omega) hL ?_
  refine w_cls (MX := mX6_by) (MM := mX7_by) (as := [.int (iZ (xv xs (i + 1)))]) dL_law_444 okX6_by mlL_41 rfl rfl rfl (j_by (by decide) hc J (xv_r xs _)) (fun z σ1 hm => ?_)
  refine q_aload_n dL_law_447 rfl rfl ?_
  refine q_aload_n dL_law_448 rfl rfl ?_
  refine q_iload_n dL_law_449 rfl rfl ?_
  refine z_iconst dL_law_450 ?_
  refine z_iadd dL_law_451 ?_
  refine q_sld (j := i + 1) dL_law_452 (by omega) (by omega) hL ?_
  refine w_mod (MM := mX7_by) (as := [.int (iZ (xv xs (i + 1)))]) dL_law_453 okX7_by mlL_45 rfl rfl rfl hm (fun σ2 J2 => ?_)
  exact q_icmp_eq (tgt := 1661) dL_law_456 (by decide) (fun _ => K σ2 J2) (fun q => absurd rfl q)
set_option maxHeartbeats 4000000 in
set_option maxRecDepth 100000 in
theorem lw_good {L i : Nat} {xs : Nat → Int32} (hL : L ≤ 3072) (hi : i + 6 ≤ L) {τ : gS} {c : Int} (hc : c ≤ 45000) {W V : wF} (J : JM τ W V c ∧ JC τ W V) (K : ∀ σ2, JJ σ2 (c + 80) → gE (gYL L xs) mL_law 1000 (0, 0, 398, 15794) lwR1 1661 [some (.ref 1000002), some (.ref 0), some (.ref 384), some (.int (iZ (i : Int)))] [] (hE σ2)) : gE (gYL L xs) mL_law 1000 (0, 0, 398, 15794) lwR1 461 [some (.ref 1000002), some (.ref 0), some (.ref 384), some (.int (iZ (i : Int)))] [] (hE τ) := by
  refine q_aload_n dL_law_461 rfl rfl ?_
  refine q_aload_n dL_law_462 rfl rfl ?_
  refine q_iload_n dL_law_463 rfl rfl ?_
  refine z_iconst dL_law_464 ?_
  refine z_iadd dL_law_465 ?_
  refine q_sld (j := i + 1) dL_law_466 (by omega) (by omega) hL ?_
  refine q_aload_n dL_law_467 rfl rfl ?_
  refine q_iload_n dL_law_468 rfl rfl ?_
  refine z_iconst dL_law_469 ?_
  refine z_iadd dL_law_470 ?_
  refine q_sld (j := i + 2) dL_law_471 (by omega) (by omega) hL ?_
  refine w_cls (MX := mX6_good) (MM := mX7_good) (as := [.int (iZ (xv xs (i + 1))), .int (iZ (xv xs (i + 2)))]) dL_law_472 okX6_good mlL_46 rfl rfl rfl (j_good (by decide) hc J (xv_r xs _) (xv_r xs _)) (fun z σ1 hm => ?_)
  refine q_aload_n dL_law_475 rfl rfl ?_
  refine q_aload_n dL_law_476 rfl rfl ?_
  refine q_iload_n dL_law_477 rfl rfl ?_
  refine z_iconst dL_law_478 ?_
  refine z_iadd dL_law_479 ?_
  refine q_sld (j := i + 1) dL_law_480 (by omega) (by omega) hL ?_
  refine q_aload_n dL_law_481 rfl rfl ?_
  refine q_iload_n dL_law_482 rfl rfl ?_
  refine z_iconst dL_law_483 ?_
  refine z_iadd dL_law_484 ?_
  refine q_sld (j := i + 2) dL_law_485 (by omega) (by omega) hL ?_
  refine w_mod (MM := mX7_good) (as := [.int (iZ (xv xs (i + 1))), .int (iZ (xv xs (i + 2)))]) dL_law_486 okX7_good mlL_49 rfl rfl rfl hm (fun σ2 J2 => ?_)
  exact q_icmp_eq (tgt := 1661) dL_law_489 (by decide) (fun _ => K σ2 J2) (fun q => absurd rfl q)
set_option maxHeartbeats 4000000 in
set_option maxRecDepth 100000 in
theorem lw_thank {L i : Nat} {xs : Nat → Int32} (hL : L ≤ 3072) (hi : i + 6 ≤ L) {τ : gS} {c : Int} (hc : c ≤ 45000) {W V : wF} (J : JM τ W V c ∧ JC τ W V) (K : ∀ σ2, JJ σ2 (c + 80) → gE (gYL L xs) mL_law 1000 (0, 0, 398, 15794) lwR1 1661 [some (.ref 1000002), some (.ref 0), some (.ref 384), some (.int (iZ (i : Int)))] [] (hE σ2)) : gE (gYL L xs) mL_law 1000 (0, 0, 398, 15794) lwR1 494 [some (.ref 1000002), some (.ref 0), some (.ref 384), some (.int (iZ (i : Int)))] [] (hE τ) := by
  refine q_aload_n dL_law_494 rfl rfl ?_
  refine q_aload_n dL_law_495 rfl rfl ?_
  refine q_iload_n dL_law_496 rfl rfl ?_
  refine z_iconst dL_law_497 ?_
  refine z_iadd dL_law_498 ?_
  refine q_sld (j := i + 1) dL_law_499 (by omega) (by omega) hL ?_
  refine w_cls (MX := mX6_thank) (MM := mX7_thank) (as := [.int (iZ (xv xs (i + 1)))]) dL_law_500 okX6_thank mlL_50 rfl rfl rfl (j_thank (by decide) hc J (xv_r xs _)) (fun z σ1 hm => ?_)
  refine q_aload_n dL_law_503 rfl rfl ?_
  refine q_aload_n dL_law_504 rfl rfl ?_
  refine q_iload_n dL_law_505 rfl rfl ?_
  refine z_iconst dL_law_506 ?_
  refine z_iadd dL_law_507 ?_
  refine q_sld (j := i + 1) dL_law_508 (by omega) (by omega) hL ?_
  refine w_mod (MM := mX7_thank) (as := [.int (iZ (xv xs (i + 1)))]) dL_law_509 okX7_thank mlL_53 rfl rfl rfl hm (fun σ2 J2 => ?_)
  exact q_icmp_eq (tgt := 1661) dL_law_512 (by decide) (fun _ => K σ2 J2) (fun q => absurd rfl q)
set_option maxHeartbeats 4000000 in
set_option maxRecDepth 100000 in
theorem lw_settle {L i : Nat} {xs : Nat → Int32} (hL : L ≤ 3072) (hi : i + 6 ≤ L) {τ : gS} {c : Int} (hc : c ≤ 45000) {W V : wF} (J : JM τ W V c ∧ JC τ W V) (K : ∀ σ2, JJ σ2 (c + 80) → gE (gYL L xs) mL_law 1000 (0, 0, 398, 15794) lwR1 1661 [some (.ref 1000002), some (.ref 0), some (.ref 384), some (.int (iZ (i : Int)))] [] (hE σ2)) : gE (gYL L xs) mL_law 1000 (0, 0, 398, 15794) lwR1 517 [some (.ref 1000002), some (.ref 0), some (.ref 384), some (.int (iZ (i : Int)))] [] (hE τ) := by
  refine q_aload_n dL_law_517 rfl rfl ?_
  refine w_cls (MX := mX6_settle) (MM := mX7_settle) (as := []) dL_law_518 okX6_settle mlL_54 rfl rfl rfl (j_settle (by decide) hc J ) (fun z σ1 hm => ?_)
  refine q_aload_n dL_law_521 rfl rfl ?_
  refine w_mod (MM := mX7_settle) (as := []) dL_law_522 okX7_settle mlL_57 rfl rfl rfl hm (fun σ2 J2 => ?_)
  exact q_icmp_eq (tgt := 1661) dL_law_525 (by decide) (fun _ => K σ2 J2) (fun q => absurd rfl q)
set_option maxHeartbeats 4000000 in
set_option maxRecDepth 100000 in
theorem lw_night {L i : Nat} {xs : Nat → Int32} (hL : L ≤ 3072) (hi : i + 6 ≤ L) {τ : gS} {c : Int} (hc : c ≤ 45000) {W V : wF} (J : JM τ W V c ∧ JC τ W V) (K : ∀ σ2, JJ σ2 (c + 80) → gE (gYL L xs) mL_law 1000 (0, 0, 398, 15794) lwR1 1661 [some (.ref 1000002), some (.ref 0), some (.ref 384), some (.int (iZ (i : Int)))] [] (hE σ2)) : gE (gYL L xs) mL_law 1000 (0, 0, 398, 15794) lwR1 530 [some (.ref 1000002), some (.ref 0), some (.ref 384), some (.int (iZ (i : Int)))] [] (hE τ) := by
  refine q_aload_n dL_law_530 rfl rfl ?_
  refine q_aload_n dL_law_531 rfl rfl ?_
  refine q_iload_n dL_law_532 rfl rfl ?_
  refine z_iconst dL_law_533 ?_
  refine z_iadd dL_law_534 ?_
  refine q_sld (j := i + 1) dL_law_535 (by omega) (by omega) hL ?_
  refine w_cls (MX := mX6_night) (MM := mX7_night) (as := [.int (iZ (xv xs (i + 1)))]) dL_law_536 okX6_night mlL_58 rfl rfl rfl (j_night (by decide) hc J (xv_r xs _)) (fun z σ1 hm => ?_)
  refine q_aload_n dL_law_539 rfl rfl ?_
  refine q_aload_n dL_law_540 rfl rfl ?_
  refine q_iload_n dL_law_541 rfl rfl ?_
  refine z_iconst dL_law_542 ?_
  refine z_iadd dL_law_543 ?_
  refine q_sld (j := i + 1) dL_law_544 (by omega) (by omega) hL ?_
  refine w_mod (MM := mX7_night) (as := [.int (iZ (xv xs (i + 1)))]) dL_law_545 okX7_night mlL_61 rfl rfl rfl hm (fun σ2 J2 => ?_)
  exact q_icmp_eq (tgt := 1661) dL_law_548 (by decide) (fun _ => K σ2 J2) (fun q => absurd rfl q)
set_option maxHeartbeats 4000000 in
set_option maxRecDepth 100000 in
theorem lw_played {L i : Nat} {xs : Nat → Int32} (hL : L ≤ 3072) (hi : i + 6 ≤ L) {τ : gS} {c : Int} (hc : c ≤ 45000) {W V : wF} (J : JM τ W V c ∧ JC τ W V) (K : ∀ σ2, JJ σ2 (c + 80) → gE (gYL L xs) mL_law 1000 (0, 0, 398, 15794) lwR1 1661 [some (.ref 1000002), some (.ref 0), some (.ref 384), some (.int (iZ (i : Int)))] [] (hE σ2)) : gE (gYL L xs) mL_law 1000 (0, 0, 398, 15794) lwR1 553 [some (.ref 1000002), some (.ref 0), some (.ref 384), some (.int (iZ (i : Int)))] [] (hE τ) := by
  refine q_aload_n dL_law_553 rfl rfl ?_
  refine q_aload_n dL_law_554 rfl rfl ?_
  refine q_iload_n dL_law_555 rfl rfl ?_
  refine z_iconst dL_law_556 ?_
  refine z_iadd dL_law_557 ?_
  refine q_sld (j := i + 1) dL_law_558 (by omega) (by omega) hL ?_
  refine w_cls (MX := mX6_played) (MM := mX7_played) (as := [.int (iZ (xv xs (i + 1)))]) dL_law_559 okX6_played mlL_62 rfl rfl rfl (j_played (by decide) hc J (xv_r xs _)) (fun z σ1 hm => ?_)
  refine q_aload_n dL_law_562 rfl rfl ?_
  refine q_aload_n dL_law_563 rfl rfl ?_
  refine q_iload_n dL_law_564 rfl rfl ?_
  refine z_iconst dL_law_565 ?_
  refine z_iadd dL_law_566 ?_
  refine q_sld (j := i + 1) dL_law_567 (by omega) (by omega) hL ?_
  refine w_mod (MM := mX7_played) (as := [.int (iZ (xv xs (i + 1)))]) dL_law_568 okX7_played mlL_65 rfl rfl rfl hm (fun σ2 J2 => ?_)
  exact q_icmp_eq (tgt := 1661) dL_law_571 (by decide) (fun _ => K σ2 J2) (fun q => absurd rfl q)
set_option maxHeartbeats 4000000 in
set_option maxRecDepth 100000 in
theorem lw_years {L i : Nat} {xs : Nat → Int32} (hL : L ≤ 3072) (hi : i + 6 ≤ L) {τ : gS} {c : Int} (hc : c ≤ 45000) {W V : wF} (J : JM τ W V c ∧ JC τ W V) (K : ∀ σ2, JJ σ2 (c + 80) → gE (gYL L xs) mL_law 1000 (0, 0, 398, 15794) lwR1 1661 [some (.ref 1000002), some (.ref 0), some (.ref 384), some (.int (iZ (i : Int)))] [] (hE σ2)) : gE (gYL L xs) mL_law 1000 (0, 0, 398, 15794) lwR1 576 [some (.ref 1000002), some (.ref 0), some (.ref 384), some (.int (iZ (i : Int)))] [] (hE τ) := by
  refine q_aload_n dL_law_576 rfl rfl ?_
  refine q_aload_n dL_law_577 rfl rfl ?_
  refine q_iload_n dL_law_578 rfl rfl ?_
  refine z_iconst dL_law_579 ?_
  refine z_iadd dL_law_580 ?_
  refine q_sld (j := i + 1) dL_law_581 (by omega) (by omega) hL ?_
  refine q_aload_n dL_law_582 rfl rfl ?_
  refine q_iload_n dL_law_583 rfl rfl ?_
  refine z_iconst dL_law_584 ?_
  refine z_iadd dL_law_585 ?_
  refine q_sld (j := i + 2) dL_law_586 (by omega) (by omega) hL ?_
  refine w_cls (MX := mX6_years) (MM := mX7_years) (as := [.int (iZ (xv xs (i + 1))), .int (iZ (xv xs (i + 2)))]) dL_law_587 okX6_years mlL_66 rfl rfl rfl (j_years (by decide) hc J (xv_r xs _) (xv_r xs _)) (fun z σ1 hm => ?_)
  refine q_aload_n dL_law_590 rfl rfl ?_
  refine q_aload_n dL_law_591 rfl rfl ?_
  refine q_iload_n dL_law_592 rfl rfl ?_
  refine z_iconst dL_law_593 ?_
  refine z_iadd dL_law_594 ?_
  refine q_sld (j := i + 1) dL_law_595 (by omega) (by omega) hL ?_
  refine q_aload_n dL_law_596 rfl rfl ?_
  refine q_iload_n dL_law_597 rfl rfl ?_
  refine z_iconst dL_law_598 ?_
  refine z_iadd dL_law_599 ?_
  refine q_sld (j := i + 2) dL_law_600 (by omega) (by omega) hL ?_
  refine w_mod (MM := mX7_years) (as := [.int (iZ (xv xs (i + 1))), .int (iZ (xv xs (i + 2)))]) dL_law_601 okX7_years mlL_70 rfl rfl rfl hm (fun σ2 J2 => ?_)
  exact q_icmp_eq (tgt := 1661) dL_law_604 (by decide) (fun _ => K σ2 J2) (fun q => absurd rfl q)
set_option maxHeartbeats 4000000 in
set_option maxRecDepth 100000 in
theorem lw_undo {L i : Nat} {xs : Nat → Int32} (hL : L ≤ 3072) (hi : i + 6 ≤ L) {τ : gS} {c : Int} (hc : c ≤ 45000) {W V : wF} (J : JM τ W V c ∧ JC τ W V) (K : ∀ σ2, JJ σ2 (c + 80) → gE (gYL L xs) mL_law 1000 (0, 0, 398, 15794) lwR1 1661 [some (.ref 1000002), some (.ref 0), some (.ref 384), some (.int (iZ (i : Int)))] [] (hE σ2)) : gE (gYL L xs) mL_law 1000 (0, 0, 398, 15794) lwR1 609 [some (.ref 1000002), some (.ref 0), some (.ref 384), some (.int (iZ (i : Int)))] [] (hE τ) := by
  refine q_aload_n dL_law_609 rfl rfl ?_
  refine w_cls (MX := mX6_undo) (MM := mX7_undo) (as := []) dL_law_610 okX6_undo mlL_71 rfl rfl rfl (j_undo (by decide) hc J ) (fun z σ1 hm => ?_)
  refine q_aload_n dL_law_613 rfl rfl ?_
  refine w_mod (MM := mX7_undo) (as := []) dL_law_614 okX7_undo mlL_74 rfl rfl rfl hm (fun σ2 J2 => ?_)
  exact q_icmp_eq (tgt := 1661) dL_law_617 (by decide) (fun _ => K σ2 J2) (fun q => absurd rfl q)
set_option maxHeartbeats 4000000 in
set_option maxRecDepth 100000 in
theorem lw_of {L i : Nat} {xs : Nat → Int32} (hL : L ≤ 3072) (hi : i + 6 ≤ L) {τ : gS} {c : Int} (hc : c ≤ 45000) {W V : wF} (J : JM τ W V c ∧ JC τ W V) (K : ∀ σ2, JJ σ2 (c + 80) → gE (gYL L xs) mL_law 1000 (0, 0, 398, 15794) lwR1 1661 [some (.ref 1000002), some (.ref 0), some (.ref 384), some (.int (iZ (i : Int)))] [] (hE σ2)) : gE (gYL L xs) mL_law 1000 (0, 0, 398, 15794) lwR1 622 [some (.ref 1000002), some (.ref 0), some (.ref 384), some (.int (iZ (i : Int)))] [] (hE τ) := by
  refine q_aload_n dL_law_622 rfl rfl ?_
  refine q_aload_n dL_law_623 rfl rfl ?_
  refine q_iload_n dL_law_624 rfl rfl ?_
  refine z_iconst dL_law_625 ?_
  refine z_iadd dL_law_626 ?_
  refine q_sld (j := i + 1) dL_law_627 (by omega) (by omega) hL ?_
  refine q_aload_n dL_law_628 rfl rfl ?_
  refine q_iload_n dL_law_629 rfl rfl ?_
  refine z_iconst dL_law_630 ?_
  refine z_iadd dL_law_631 ?_
  refine q_sld (j := i + 2) dL_law_632 (by omega) (by omega) hL ?_
  refine w_cls (MX := mX6_of) (MM := mX7_of) (as := [.int (iZ (xv xs (i + 1))), .int (iZ (xv xs (i + 2)))]) dL_law_633 okX6_of mlL_75 rfl rfl rfl (j_of (by decide) hc J (xv_r xs _) (xv_r xs _)) (fun z σ1 hm => ?_)
  refine q_aload_n dL_law_636 rfl rfl ?_
  refine q_aload_n dL_law_637 rfl rfl ?_
  refine q_iload_n dL_law_638 rfl rfl ?_
  refine z_iconst dL_law_639 ?_
  refine z_iadd dL_law_640 ?_
  refine q_sld (j := i + 1) dL_law_641 (by omega) (by omega) hL ?_
  refine q_aload_n dL_law_642 rfl rfl ?_
  refine q_iload_n dL_law_643 rfl rfl ?_
  refine z_iconst dL_law_644 ?_
  refine z_iadd dL_law_645 ?_
  refine q_sld (j := i + 2) dL_law_646 (by omega) (by omega) hL ?_
  refine w_mod (MM := mX7_of) (as := [.int (iZ (xv xs (i + 1))), .int (iZ (xv xs (i + 2)))]) dL_law_647 okX7_of mlL_78 rfl rfl rfl hm (fun σ2 J2 => ?_)
  exact q_icmp_eq (tgt := 1661) dL_law_650 (by decide) (fun _ => K σ2 J2) (fun q => absurd rfl q)
set_option maxHeartbeats 4000000 in
set_option maxRecDepth 100000 in
theorem lw_ofPerson {L i : Nat} {xs : Nat → Int32} (hL : L ≤ 3072) (hi : i + 6 ≤ L) {τ : gS} {c : Int} (hc : c ≤ 45000) {W V : wF} (J : JM τ W V c ∧ JC τ W V) (K : ∀ σ2, JJ σ2 (c + 80) → gE (gYL L xs) mL_law 1000 (0, 0, 398, 15794) lwR1 1661 [some (.ref 1000002), some (.ref 0), some (.ref 384), some (.int (iZ (i : Int)))] [] (hE σ2)) : gE (gYL L xs) mL_law 1000 (0, 0, 398, 15794) lwR1 655 [some (.ref 1000002), some (.ref 0), some (.ref 384), some (.int (iZ (i : Int)))] [] (hE τ) := by
  refine q_aload_n dL_law_655 rfl rfl ?_
  refine q_aload_n dL_law_656 rfl rfl ?_
  refine q_iload_n dL_law_657 rfl rfl ?_
  refine z_iconst dL_law_658 ?_
  refine z_iadd dL_law_659 ?_
  refine q_sld (j := i + 1) dL_law_660 (by omega) (by omega) hL ?_
  refine w_cls (MX := mX6_ofPerson) (MM := mX7_ofPerson) (as := [.int (iZ (xv xs (i + 1)))]) dL_law_661 okX6_ofPerson mlL_79 rfl rfl rfl (j_ofPerson (by decide) hc J (xv_r xs _)) (fun z σ1 hm => ?_)
  refine q_aload_n dL_law_664 rfl rfl ?_
  refine q_aload_n dL_law_665 rfl rfl ?_
  refine q_iload_n dL_law_666 rfl rfl ?_
  refine z_iconst dL_law_667 ?_
  refine z_iadd dL_law_668 ?_
  refine q_sld (j := i + 1) dL_law_669 (by omega) (by omega) hL ?_
  refine w_mod (MM := mX7_ofPerson) (as := [.int (iZ (xv xs (i + 1)))]) dL_law_670 okX7_ofPerson mlL_82 rfl rfl rfl hm (fun σ2 J2 => ?_)
  exact q_icmp_eq (tgt := 1661) dL_law_673 (by decide) (fun _ => K σ2 J2) (fun q => absurd rfl q)
set_option maxHeartbeats 4000000 in
set_option maxRecDepth 100000 in
theorem lw_is {L i : Nat} {xs : Nat → Int32} (hL : L ≤ 3072) (hi : i + 6 ≤ L) {τ : gS} {c : Int} (hc : c ≤ 45000) {W V : wF} (J : JM τ W V c ∧ JC τ W V) (K : ∀ σ2, JJ σ2 (c + 80) → gE (gYL L xs) mL_law 1000 (0, 0, 398, 15794) lwR1 1661 [some (.ref 1000002), some (.ref 0), some (.ref 384), some (.int (iZ (i : Int)))] [] (hE σ2)) : gE (gYL L xs) mL_law 1000 (0, 0, 398, 15794) lwR1 678 [some (.ref 1000002), some (.ref 0), some (.ref 384), some (.int (iZ (i : Int)))] [] (hE τ) := by
  refine q_aload_n dL_law_678 rfl rfl ?_
  refine q_aload_n dL_law_679 rfl rfl ?_
  refine q_iload_n dL_law_680 rfl rfl ?_
  refine z_iconst dL_law_681 ?_
  refine z_iadd dL_law_682 ?_
  refine q_sld (j := i + 1) dL_law_683 (by omega) (by omega) hL ?_
  refine w_cls (MX := mX6_is) (MM := mX7_is) (as := [.int (iZ (xv xs (i + 1)))]) dL_law_684 okX6_is mlL_83 rfl rfl rfl (j_is (by decide) hc J (xv_r xs _)) (fun z σ1 hm => ?_)
  refine q_aload_n dL_law_687 rfl rfl ?_
  refine q_aload_n dL_law_688 rfl rfl ?_
  refine q_iload_n dL_law_689 rfl rfl ?_
  refine z_iconst dL_law_690 ?_
  refine z_iadd dL_law_691 ?_
  refine q_sld (j := i + 1) dL_law_692 (by omega) (by omega) hL ?_
  refine w_mod (MM := mX7_is) (as := [.int (iZ (xv xs (i + 1)))]) dL_law_693 okX7_is mlL_86 rfl rfl rfl hm (fun σ2 J2 => ?_)
  exact q_icmp_eq (tgt := 1661) dL_law_696 (by decide) (fun _ => K σ2 J2) (fun q => absurd rfl q)
set_option maxHeartbeats 4000000 in
set_option maxRecDepth 100000 in
theorem lw_book {L i : Nat} {xs : Nat → Int32} (hL : L ≤ 3072) (hi : i + 6 ≤ L) {τ : gS} {c : Int} (hc : c ≤ 45000) {W V : wF} (J : JM τ W V c ∧ JC τ W V) (K : ∀ σ2, JJ σ2 (c + 80) → gE (gYL L xs) mL_law 1000 (0, 0, 398, 15794) lwR1 1661 [some (.ref 1000002), some (.ref 0), some (.ref 384), some (.int (iZ (i : Int)))] [] (hE σ2)) : gE (gYL L xs) mL_law 1000 (0, 0, 398, 15794) lwR1 701 [some (.ref 1000002), some (.ref 0), some (.ref 384), some (.int (iZ (i : Int)))] [] (hE τ) := by
  refine q_aload_n dL_law_701 rfl rfl ?_
  refine q_aload_n dL_law_702 rfl rfl ?_
  refine q_iload_n dL_law_703 rfl rfl ?_
  refine z_iconst dL_law_704 ?_
  refine z_iadd dL_law_705 ?_
  refine q_sld (j := i + 1) dL_law_706 (by omega) (by omega) hL ?_
  refine q_aload_n dL_law_707 rfl rfl ?_
  refine q_iload_n dL_law_708 rfl rfl ?_
  refine z_iconst dL_law_709 ?_
  refine z_iadd dL_law_710 ?_
  refine q_sld (j := i + 2) dL_law_711 (by omega) (by omega) hL ?_
  refine w_cls (MX := mX6_book) (MM := mX7_book) (as := [.int (iZ (xv xs (i + 1))), .int (iZ (xv xs (i + 2)))]) dL_law_712 okX6_book mlL_87 rfl rfl rfl (j_book (by decide) hc J (xv_r xs _) (xv_r xs _)) (fun z σ1 hm => ?_)
  refine q_aload_n dL_law_715 rfl rfl ?_
  refine q_aload_n dL_law_716 rfl rfl ?_
  refine q_iload_n dL_law_717 rfl rfl ?_
  refine z_iconst dL_law_718 ?_
  refine z_iadd dL_law_719 ?_
  refine q_sld (j := i + 1) dL_law_720 (by omega) (by omega) hL ?_
  refine q_aload_n dL_law_721 rfl rfl ?_
  refine q_iload_n dL_law_722 rfl rfl ?_
  refine z_iconst dL_law_723 ?_
  refine z_iadd dL_law_724 ?_
  refine q_sld (j := i + 2) dL_law_725 (by omega) (by omega) hL ?_
  refine w_mod (MM := mX7_book) (as := [.int (iZ (xv xs (i + 1))), .int (iZ (xv xs (i + 2)))]) dL_law_726 okX7_book mlL_90 rfl rfl rfl hm (fun σ2 J2 => ?_)
  exact q_icmp_eq (tgt := 1661) dL_law_729 (by decide) (fun _ => K σ2 J2) (fun q => absurd rfl q)
set_option maxHeartbeats 4000000 in
set_option maxRecDepth 100000 in
theorem lw_foretold {L i : Nat} {xs : Nat → Int32} (hL : L ≤ 3072) (hi : i + 6 ≤ L) {τ : gS} {c : Int} (hc : c ≤ 45000) {W V : wF} (J : JM τ W V c ∧ JC τ W V) (K : ∀ σ2, JJ σ2 (c + 80) → gE (gYL L xs) mL_law 1000 (0, 0, 398, 15794) lwR1 1661 [some (.ref 1000002), some (.ref 0), some (.ref 384), some (.int (iZ (i : Int)))] [] (hE σ2)) : gE (gYL L xs) mL_law 1000 (0, 0, 398, 15794) lwR1 734 [some (.ref 1000002), some (.ref 0), some (.ref 384), some (.int (iZ (i : Int)))] [] (hE τ) := by
  refine q_aload_n dL_law_734 rfl rfl ?_
  refine q_aload_n dL_law_735 rfl rfl ?_
  refine q_iload_n dL_law_736 rfl rfl ?_
  refine z_iconst dL_law_737 ?_
  refine z_iadd dL_law_738 ?_
  refine q_sld (j := i + 1) dL_law_739 (by omega) (by omega) hL ?_
  refine q_aload_n dL_law_740 rfl rfl ?_
  refine q_iload_n dL_law_741 rfl rfl ?_
  refine z_iconst dL_law_742 ?_
  refine z_iadd dL_law_743 ?_
  refine q_sld (j := i + 2) dL_law_744 (by omega) (by omega) hL ?_
  refine q_aload_n dL_law_745 rfl rfl ?_
  refine q_iload_n dL_law_746 rfl rfl ?_
  refine z_iconst dL_law_747 ?_
  refine z_iadd dL_law_748 ?_
  refine q_sld (j := i + 3) dL_law_749 (by omega) (by omega) hL ?_
  refine w_cls (MX := mX6_foretold) (MM := mX7_foretold) (as := [.int (iZ (xv xs (i + 1))), .int (iZ (xv xs (i + 2))), .int (iZ (xv xs (i + 3)))]) dL_law_750 okX6_foretold mlL_91 rfl rfl rfl (j_foretold (by decide) hc J (xv_r xs _) (xv_r xs _) (xv_r xs _)) (fun z σ1 hm => ?_)
  refine q_aload_n dL_law_753 rfl rfl ?_
  refine q_aload_n dL_law_754 rfl rfl ?_
  refine q_iload_n dL_law_755 rfl rfl ?_
  refine z_iconst dL_law_756 ?_
  refine z_iadd dL_law_757 ?_
  refine q_sld (j := i + 1) dL_law_758 (by omega) (by omega) hL ?_
  refine q_aload_n dL_law_759 rfl rfl ?_
  refine q_iload_n dL_law_760 rfl rfl ?_
  refine z_iconst dL_law_761 ?_
  refine z_iadd dL_law_762 ?_
  refine q_sld (j := i + 2) dL_law_763 (by omega) (by omega) hL ?_
  refine q_aload_n dL_law_764 rfl rfl ?_
  refine q_iload_n dL_law_765 rfl rfl ?_
  refine z_iconst dL_law_766 ?_
  refine z_iadd dL_law_767 ?_
  refine q_sld (j := i + 3) dL_law_768 (by omega) (by omega) hL ?_
  refine w_mod (MM := mX7_foretold) (as := [.int (iZ (xv xs (i + 1))), .int (iZ (xv xs (i + 2))), .int (iZ (xv xs (i + 3)))]) dL_law_769 okX7_foretold mlL_95 rfl rfl rfl hm (fun σ2 J2 => ?_)
  exact q_icmp_eq (tgt := 1661) dL_law_772 (by decide) (fun _ => K σ2 J2) (fun q => absurd rfl q)
set_option maxHeartbeats 4000000 in
set_option maxRecDepth 100000 in
theorem lw_rest {L i : Nat} {xs : Nat → Int32} (hL : L ≤ 3072) (hi : i + 6 ≤ L) {τ : gS} {c : Int} (hc : c ≤ 45000) {W V : wF} (J : JM τ W V c ∧ JC τ W V) (K : ∀ σ2, JJ σ2 (c + 80) → gE (gYL L xs) mL_law 1000 (0, 0, 398, 15794) lwR1 1661 [some (.ref 1000002), some (.ref 0), some (.ref 384), some (.int (iZ (i : Int)))] [] (hE σ2)) : gE (gYL L xs) mL_law 1000 (0, 0, 398, 15794) lwR1 777 [some (.ref 1000002), some (.ref 0), some (.ref 384), some (.int (iZ (i : Int)))] [] (hE τ) := by
  refine q_aload_n dL_law_777 rfl rfl ?_
  refine q_aload_n dL_law_778 rfl rfl ?_
  refine q_iload_n dL_law_779 rfl rfl ?_
  refine z_iconst dL_law_780 ?_
  refine z_iadd dL_law_781 ?_
  refine q_sld (j := i + 1) dL_law_782 (by omega) (by omega) hL ?_
  refine q_aload_n dL_law_783 rfl rfl ?_
  refine q_iload_n dL_law_784 rfl rfl ?_
  refine z_iconst dL_law_785 ?_
  refine z_iadd dL_law_786 ?_
  refine q_sld (j := i + 2) dL_law_787 (by omega) (by omega) hL ?_
  refine w_cls (MX := mX6_rest) (MM := mX7_rest) (as := [.int (iZ (xv xs (i + 1))), .int (iZ (xv xs (i + 2)))]) dL_law_788 okX6_rest mlL_96 rfl rfl rfl (j_rest (by decide) hc J (xv_r xs _) (xv_r xs _)) (fun z σ1 hm => ?_)
  refine q_aload_n dL_law_791 rfl rfl ?_
  refine q_aload_n dL_law_792 rfl rfl ?_
  refine q_iload_n dL_law_793 rfl rfl ?_
  refine z_iconst dL_law_794 ?_
  refine z_iadd dL_law_795 ?_
  refine q_sld (j := i + 1) dL_law_796 (by omega) (by omega) hL ?_
  refine q_aload_n dL_law_797 rfl rfl ?_
  refine q_iload_n dL_law_798 rfl rfl ?_
  refine z_iconst dL_law_799 ?_
  refine z_iadd dL_law_800 ?_
  refine q_sld (j := i + 2) dL_law_801 (by omega) (by omega) hL ?_
  refine w_mod (MM := mX7_rest) (as := [.int (iZ (xv xs (i + 1))), .int (iZ (xv xs (i + 2)))]) dL_law_802 okX7_rest mlL_99 rfl rfl rfl hm (fun σ2 J2 => ?_)
  exact q_icmp_eq (tgt := 1661) dL_law_805 (by decide) (fun _ => K σ2 J2) (fun q => absurd rfl q)
set_option maxHeartbeats 4000000 in
set_option maxRecDepth 100000 in
theorem lw_wave {L i : Nat} {xs : Nat → Int32} (hL : L ≤ 3072) (hi : i + 6 ≤ L) {τ : gS} {c : Int} (hc : c ≤ 45000) {W V : wF} (J : JM τ W V c ∧ JC τ W V) (K : ∀ σ2, JJ σ2 (c + 80) → gE (gYL L xs) mL_law 1000 (0, 0, 398, 15794) lwR1 1661 [some (.ref 1000002), some (.ref 0), some (.ref 384), some (.int (iZ (i : Int)))] [] (hE σ2)) : gE (gYL L xs) mL_law 1000 (0, 0, 398, 15794) lwR1 810 [some (.ref 1000002), some (.ref 0), some (.ref 384), some (.int (iZ (i : Int)))] [] (hE τ) := by
  refine q_aload_n dL_law_810 rfl rfl ?_
  refine q_aload_n dL_law_811 rfl rfl ?_
  refine q_iload_n dL_law_812 rfl rfl ?_
  refine z_iconst dL_law_813 ?_
  refine z_iadd dL_law_814 ?_
  refine q_sld (j := i + 1) dL_law_815 (by omega) (by omega) hL ?_
  refine w_cls (MX := mX6_wave) (MM := mX7_wave) (as := [.int (iZ (xv xs (i + 1)))]) dL_law_816 okX6_wave mlL_100 rfl rfl rfl (j_wave (by decide) hc J (xv_r xs _)) (fun z σ1 hm => ?_)
  refine q_aload_n dL_law_819 rfl rfl ?_
  refine q_aload_n dL_law_820 rfl rfl ?_
  refine q_iload_n dL_law_821 rfl rfl ?_
  refine z_iconst dL_law_822 ?_
  refine z_iadd dL_law_823 ?_
  refine q_sld (j := i + 1) dL_law_824 (by omega) (by omega) hL ?_
  refine w_mod (MM := mX7_wave) (as := [.int (iZ (xv xs (i + 1)))]) dL_law_825 okX7_wave mlL_103 rfl rfl rfl hm (fun σ2 J2 => ?_)
  exact q_icmp_eq (tgt := 1661) dL_law_828 (by decide) (fun _ => K σ2 J2) (fun q => absurd rfl q)
set_option maxHeartbeats 4000000 in
set_option maxRecDepth 100000 in
theorem lw_greatest {L i : Nat} {xs : Nat → Int32} (hL : L ≤ 3072) (hi : i + 6 ≤ L) {τ : gS} {c : Int} (hc : c ≤ 45000) {W V : wF} (J : JM τ W V c ∧ JC τ W V) (K : ∀ σ2, JJ σ2 (c + 80) → gE (gYL L xs) mL_law 1000 (0, 0, 398, 15794) lwR1 1661 [some (.ref 1000002), some (.ref 0), some (.ref 384), some (.int (iZ (i : Int)))] [] (hE σ2)) : gE (gYL L xs) mL_law 1000 (0, 0, 398, 15794) lwR1 833 [some (.ref 1000002), some (.ref 0), some (.ref 384), some (.int (iZ (i : Int)))] [] (hE τ) := by
  refine q_aload_n dL_law_833 rfl rfl ?_
  refine q_aload_n dL_law_834 rfl rfl ?_
  refine q_iload_n dL_law_835 rfl rfl ?_
  refine z_iconst dL_law_836 ?_
  refine z_iadd dL_law_837 ?_
  refine q_sld (j := i + 1) dL_law_838 (by omega) (by omega) hL ?_
  refine z_if_eq (tgt := 846) dL_law_839 (by decide) (xv_r xs _) (fun c1 => ?_) (fun c1 => ?_)
  · refine z_iconst dL_law_846 ?_
    refine w_cls (MX := mX6_greatest) (MM := mX7_greatest) (as := [.int (iZ 0)]) dL_law_847 okX6_greatest mlL_104 rfl rfl rfl (j_greatest (by decide) hc J (Or.inl rfl)) (fun z σ1 hm => ?_)
    refine q_aload_n dL_law_850 rfl rfl ?_
    refine q_aload_n dL_law_851 rfl rfl ?_
    refine q_iload_n dL_law_852 rfl rfl ?_
    refine z_iconst dL_law_853 ?_
    refine z_iadd dL_law_854 ?_
    refine q_sld (j := i + 1) dL_law_855 (by omega) (by omega) hL ?_
    refine z_if_eq (tgt := 863) dL_law_856 (by decide) (xv_r xs _) (fun _ => ?_) (fun q => absurd c1 q)
    refine z_iconst dL_law_863 ?_
    refine w_mod (MM := mX7_greatest) (as := [.int (iZ 0)]) dL_law_864 okX7_greatest mlL_108 rfl rfl rfl hm (fun σ2 J2 => ?_)
    exact q_icmp_eq (tgt := 1661) dL_law_867 (by decide) (fun _ => K σ2 J2) (fun q => absurd rfl q)
  · refine z_iconst dL_law_842 ?_
    refine q_goto (tgt := 847) dL_law_843 (by decide) ?_
    refine w_cls (MX := mX6_greatest) (MM := mX7_greatest) (as := [.int (iZ 1)]) dL_law_847 okX6_greatest mlL_104 rfl rfl rfl (j_greatest (by decide) hc J (Or.inr rfl)) (fun z σ1 hm => ?_)
    refine q_aload_n dL_law_850 rfl rfl ?_
    refine q_aload_n dL_law_851 rfl rfl ?_
    refine q_iload_n dL_law_852 rfl rfl ?_
    refine z_iconst dL_law_853 ?_
    refine z_iadd dL_law_854 ?_
    refine q_sld (j := i + 1) dL_law_855 (by omega) (by omega) hL ?_
    refine z_if_eq (tgt := 863) dL_law_856 (by decide) (xv_r xs _) (fun q => absurd q c1) (fun _ => ?_)
    refine z_iconst dL_law_859 ?_
    refine q_goto (tgt := 864) dL_law_860 (by decide) ?_
    refine w_mod (MM := mX7_greatest) (as := [.int (iZ 1)]) dL_law_864 okX7_greatest mlL_108 rfl rfl rfl hm (fun σ2 J2 => ?_)
    exact q_icmp_eq (tgt := 1661) dL_law_867 (by decide) (fun _ => K σ2 J2) (fun q => absurd rfl q)
set_option maxHeartbeats 4000000 in
set_option maxRecDepth 100000 in
theorem lw_reached {L i : Nat} {xs : Nat → Int32} (hL : L ≤ 3072) (hi : i + 6 ≤ L) {τ : gS} {c : Int} (hc : c ≤ 45000) {W V : wF} (J : JM τ W V c ∧ JC τ W V) (K : ∀ σ2, JJ σ2 (c + 80) → gE (gYL L xs) mL_law 1000 (0, 0, 398, 15794) lwR1 1661 [some (.ref 1000002), some (.ref 0), some (.ref 384), some (.int (iZ (i : Int)))] [] (hE σ2)) : gE (gYL L xs) mL_law 1000 (0, 0, 398, 15794) lwR1 872 [some (.ref 1000002), some (.ref 0), some (.ref 384), some (.int (iZ (i : Int)))] [] (hE τ) := by
  refine q_aload_n dL_law_872 rfl rfl ?_
  refine q_aload_n dL_law_873 rfl rfl ?_
  refine q_iload_n dL_law_874 rfl rfl ?_
  refine z_iconst dL_law_875 ?_
  refine z_iadd dL_law_876 ?_
  refine q_sld (j := i + 1) dL_law_877 (by omega) (by omega) hL ?_
  refine w_cls (MX := mX6_reached) (MM := mX7_reached) (as := [.int (iZ (xv xs (i + 1)))]) dL_law_878 okX6_reached mlL_109 rfl rfl rfl (j_reached (by decide) hc J (xv_r xs _)) (fun z σ1 hm => ?_)
  refine q_aload_n dL_law_881 rfl rfl ?_
  refine q_aload_n dL_law_882 rfl rfl ?_
  refine q_iload_n dL_law_883 rfl rfl ?_
  refine z_iconst dL_law_884 ?_
  refine z_iadd dL_law_885 ?_
  refine q_sld (j := i + 1) dL_law_886 (by omega) (by omega) hL ?_
  refine w_mod (MM := mX7_reached) (as := [.int (iZ (xv xs (i + 1)))]) dL_law_887 okX7_reached mlL_112 rfl rfl rfl hm (fun σ2 J2 => ?_)
  exact q_icmp_eq (tgt := 1661) dL_law_890 (by decide) (fun _ => K σ2 J2) (fun q => absurd rfl q)
set_option maxHeartbeats 4000000 in
set_option maxRecDepth 100000 in
theorem lw_waves {L i : Nat} {xs : Nat → Int32} (hL : L ≤ 3072) (hi : i + 6 ≤ L) {τ : gS} {c : Int} (hc : c ≤ 45000) {W V : wF} (J : JM τ W V c ∧ JC τ W V) (K : ∀ σ2, JJ σ2 (c + 80) → gE (gYL L xs) mL_law 1000 (0, 0, 398, 15794) lwR1 1661 [some (.ref 1000002), some (.ref 0), some (.ref 384), some (.int (iZ (i : Int)))] [] (hE σ2)) : gE (gYL L xs) mL_law 1000 (0, 0, 398, 15794) lwR1 895 [some (.ref 1000002), some (.ref 0), some (.ref 384), some (.int (iZ (i : Int)))] [] (hE τ) := by
  refine q_aload_n dL_law_895 rfl rfl ?_
  refine q_aload_n dL_law_896 rfl rfl ?_
  refine q_iload_n dL_law_897 rfl rfl ?_
  refine z_iconst dL_law_898 ?_
  refine z_iadd dL_law_899 ?_
  refine q_sld (j := i + 1) dL_law_900 (by omega) (by omega) hL ?_
  refine q_aload_n dL_law_901 rfl rfl ?_
  refine q_iload_n dL_law_902 rfl rfl ?_
  refine z_iconst dL_law_903 ?_
  refine z_iadd dL_law_904 ?_
  refine q_sld (j := i + 2) dL_law_905 (by omega) (by omega) hL ?_
  refine w_cls (MX := mX6_waves) (MM := mX7_waves) (as := [.int (iZ (xv xs (i + 1))), .int (iZ (xv xs (i + 2)))]) dL_law_906 okX6_waves mlL_113 rfl rfl rfl (j_waves (by decide) hc J (xv_r xs _) (xv_r xs _)) (fun z σ1 hm => ?_)
  refine q_aload_n dL_law_909 rfl rfl ?_
  refine q_aload_n dL_law_910 rfl rfl ?_
  refine q_iload_n dL_law_911 rfl rfl ?_
  refine z_iconst dL_law_912 ?_
  refine z_iadd dL_law_913 ?_
  refine q_sld (j := i + 1) dL_law_914 (by omega) (by omega) hL ?_
  refine q_aload_n dL_law_915 rfl rfl ?_
  refine q_iload_n dL_law_916 rfl rfl ?_
  refine z_iconst dL_law_917 ?_
  refine z_iadd dL_law_918 ?_
  refine q_sld (j := i + 2) dL_law_919 (by omega) (by omega) hL ?_
  refine w_mod (MM := mX7_waves) (as := [.int (iZ (xv xs (i + 1))), .int (iZ (xv xs (i + 2)))]) dL_law_920 okX7_waves mlL_116 rfl rfl rfl hm (fun σ2 J2 => ?_)
  exact q_icmp_eq (tgt := 1661) dL_law_923 (by decide) (fun _ => K σ2 J2) (fun q => absurd rfl q)
set_option maxHeartbeats 4000000 in
set_option maxRecDepth 100000 in
theorem lw_until {L i : Nat} {xs : Nat → Int32} (hL : L ≤ 3072) (hi : i + 6 ≤ L) {τ : gS} {c : Int} (hc : c ≤ 45000) {W V : wF} (J : JM τ W V c ∧ JC τ W V) (K : ∀ σ2, JJ σ2 (c + 80) → gE (gYL L xs) mL_law 1000 (0, 0, 398, 15794) lwR1 1661 [some (.ref 1000002), some (.ref 0), some (.ref 384), some (.int (iZ (i : Int)))] [] (hE σ2)) : gE (gYL L xs) mL_law 1000 (0, 0, 398, 15794) lwR1 928 [some (.ref 1000002), some (.ref 0), some (.ref 384), some (.int (iZ (i : Int)))] [] (hE τ) := by
  refine q_aload_n dL_law_928 rfl rfl ?_
  refine q_aload_n dL_law_929 rfl rfl ?_
  refine q_iload_n dL_law_930 rfl rfl ?_
  refine z_iconst dL_law_931 ?_
  refine z_iadd dL_law_932 ?_
  refine q_sld (j := i + 1) dL_law_933 (by omega) (by omega) hL ?_
  refine q_aload_n dL_law_934 rfl rfl ?_
  refine q_iload_n dL_law_935 rfl rfl ?_
  refine z_iconst dL_law_936 ?_
  refine z_iadd dL_law_937 ?_
  refine q_sld (j := i + 2) dL_law_938 (by omega) (by omega) hL ?_
  refine w_cls (MX := mX6_until) (MM := mX7_until) (as := [.int (iZ (xv xs (i + 1))), .int (iZ (xv xs (i + 2)))]) dL_law_939 okX6_until mlL_117 rfl rfl rfl (j_until (by decide) hc J (xv_r xs _) (xv_r xs _)) (fun z σ1 hm => ?_)
  refine q_aload_n dL_law_942 rfl rfl ?_
  refine q_aload_n dL_law_943 rfl rfl ?_
  refine q_iload_n dL_law_944 rfl rfl ?_
  refine z_iconst dL_law_945 ?_
  refine z_iadd dL_law_946 ?_
  refine q_sld (j := i + 1) dL_law_947 (by omega) (by omega) hL ?_
  refine q_aload_n dL_law_948 rfl rfl ?_
  refine q_iload_n dL_law_949 rfl rfl ?_
  refine z_iconst dL_law_950 ?_
  refine z_iadd dL_law_951 ?_
  refine q_sld (j := i + 2) dL_law_952 (by omega) (by omega) hL ?_
  refine w_mod (MM := mX7_until) (as := [.int (iZ (xv xs (i + 1))), .int (iZ (xv xs (i + 2)))]) dL_law_953 okX7_until mlL_120 rfl rfl rfl hm (fun σ2 J2 => ?_)
  exact q_icmp_eq (tgt := 1661) dL_law_956 (by decide) (fun _ => K σ2 J2) (fun q => absurd rfl q)
set_option maxHeartbeats 4000000 in
set_option maxRecDepth 100000 in
theorem lw_mover {L i : Nat} {xs : Nat → Int32} (hL : L ≤ 3072) (hi : i + 6 ≤ L) {τ : gS} {c : Int} (hc : c ≤ 45000) {W V : wF} (J : JM τ W V c ∧ JC τ W V) (K : ∀ σ2, JJ σ2 (c + 80) → gE (gYL L xs) mL_law 1000 (0, 0, 398, 15794) lwR1 1661 [some (.ref 1000002), some (.ref 0), some (.ref 384), some (.int (iZ (i : Int)))] [] (hE σ2)) : gE (gYL L xs) mL_law 1000 (0, 0, 398, 15794) lwR1 961 [some (.ref 1000002), some (.ref 0), some (.ref 384), some (.int (iZ (i : Int)))] [] (hE τ) := by
  refine q_aload_n dL_law_961 rfl rfl ?_
  refine q_aload_n dL_law_962 rfl rfl ?_
  refine q_iload_n dL_law_963 rfl rfl ?_
  refine z_iconst dL_law_964 ?_
  refine z_iadd dL_law_965 ?_
  refine q_sld (j := i + 1) dL_law_966 (by omega) (by omega) hL ?_
  refine z_if_eq (tgt := 974) dL_law_967 (by decide) (xv_r xs _) (fun c1 => ?_) (fun c1 => ?_)
  · refine z_iconst dL_law_974 ?_
    refine w_cls (MX := mX6_mover) (MM := mX7_mover) (as := [.int (iZ 0)]) dL_law_975 okX6_mover mlL_121 rfl rfl rfl (j_mover (by decide) hc J (Or.inl rfl)) (fun z σ1 hm => ?_)
    refine q_aload_n dL_law_978 rfl rfl ?_
    refine q_aload_n dL_law_979 rfl rfl ?_
    refine q_iload_n dL_law_980 rfl rfl ?_
    refine z_iconst dL_law_981 ?_
    refine z_iadd dL_law_982 ?_
    refine q_sld (j := i + 1) dL_law_983 (by omega) (by omega) hL ?_
    refine z_if_eq (tgt := 991) dL_law_984 (by decide) (xv_r xs _) (fun _ => ?_) (fun q => absurd c1 q)
    refine z_iconst dL_law_991 ?_
    refine w_mod (MM := mX7_mover) (as := [.int (iZ 0)]) dL_law_992 okX7_mover mlL_124 rfl rfl rfl hm (fun σ2 J2 => ?_)
    exact q_icmp_eq (tgt := 1661) dL_law_995 (by decide) (fun _ => K σ2 J2) (fun q => absurd rfl q)
  · refine z_iconst dL_law_970 ?_
    refine q_goto (tgt := 975) dL_law_971 (by decide) ?_
    refine w_cls (MX := mX6_mover) (MM := mX7_mover) (as := [.int (iZ 1)]) dL_law_975 okX6_mover mlL_121 rfl rfl rfl (j_mover (by decide) hc J (Or.inr rfl)) (fun z σ1 hm => ?_)
    refine q_aload_n dL_law_978 rfl rfl ?_
    refine q_aload_n dL_law_979 rfl rfl ?_
    refine q_iload_n dL_law_980 rfl rfl ?_
    refine z_iconst dL_law_981 ?_
    refine z_iadd dL_law_982 ?_
    refine q_sld (j := i + 1) dL_law_983 (by omega) (by omega) hL ?_
    refine z_if_eq (tgt := 991) dL_law_984 (by decide) (xv_r xs _) (fun q => absurd q c1) (fun _ => ?_)
    refine z_iconst dL_law_987 ?_
    refine q_goto (tgt := 992) dL_law_988 (by decide) ?_
    refine w_mod (MM := mX7_mover) (as := [.int (iZ 1)]) dL_law_992 okX7_mover mlL_124 rfl rfl rfl hm (fun σ2 J2 => ?_)
    exact q_icmp_eq (tgt := 1661) dL_law_995 (by decide) (fun _ => K σ2 J2) (fun q => absurd rfl q)
set_option maxHeartbeats 4000000 in
set_option maxRecDepth 100000 in
theorem lw_again {L i : Nat} {xs : Nat → Int32} (hL : L ≤ 3072) (hi : i + 6 ≤ L) {τ : gS} {c : Int} (hc : c ≤ 45000) {W V : wF} (J : JM τ W V c ∧ JC τ W V) (K : ∀ σ2, JJ σ2 (c + 80) → gE (gYL L xs) mL_law 1000 (0, 0, 398, 15794) lwR1 1661 [some (.ref 1000002), some (.ref 0), some (.ref 384), some (.int (iZ (i : Int)))] [] (hE σ2)) : gE (gYL L xs) mL_law 1000 (0, 0, 398, 15794) lwR1 1000 [some (.ref 1000002), some (.ref 0), some (.ref 384), some (.int (iZ (i : Int)))] [] (hE τ) := by
  refine q_aload_n dL_law_1000 rfl rfl ?_
  refine w_cls (MX := mX6_again) (MM := mX7_again) (as := []) dL_law_1001 okX6_again mlL_125 rfl rfl rfl (j_again (by decide) hc J ) (fun z σ1 hm => ?_)
  refine q_aload_n dL_law_1004 rfl rfl ?_
  refine w_mod (MM := mX7_again) (as := []) dL_law_1005 okX7_again mlL_129 rfl rfl rfl hm (fun σ2 J2 => ?_)
  exact q_icmp_eq (tgt := 1661) dL_law_1008 (by decide) (fun _ => K σ2 J2) (fun q => absurd rfl q)
set_option maxHeartbeats 4000000 in
set_option maxRecDepth 100000 in
theorem lw_period {L i : Nat} {xs : Nat → Int32} (hL : L ≤ 3072) (hi : i + 6 ≤ L) {τ : gS} {c : Int} (hc : c ≤ 45000) {W V : wF} (J : JM τ W V c ∧ JC τ W V) (K : ∀ σ2, JJ σ2 (c + 80) → gE (gYL L xs) mL_law 1000 (0, 0, 398, 15794) lwR1 1661 [some (.ref 1000002), some (.ref 0), some (.ref 384), some (.int (iZ (i : Int)))] [] (hE σ2)) : gE (gYL L xs) mL_law 1000 (0, 0, 398, 15794) lwR1 1013 [some (.ref 1000002), some (.ref 0), some (.ref 384), some (.int (iZ (i : Int)))] [] (hE τ) := by
  refine q_aload_n dL_law_1013 rfl rfl ?_
  refine q_aload_n dL_law_1014 rfl rfl ?_
  refine q_iload_n dL_law_1015 rfl rfl ?_
  refine z_iconst dL_law_1016 ?_
  refine z_iadd dL_law_1017 ?_
  refine q_sld (j := i + 1) dL_law_1018 (by omega) (by omega) hL ?_
  refine q_aload_n dL_law_1019 rfl rfl ?_
  refine q_iload_n dL_law_1020 rfl rfl ?_
  refine z_iconst dL_law_1021 ?_
  refine z_iadd dL_law_1022 ?_
  refine q_sld (j := i + 2) dL_law_1023 (by omega) (by omega) hL ?_
  refine z_if_eq (tgt := 1031) dL_law_1024 (by decide) (xv_r xs _) (fun c2 => ?_) (fun c2 => ?_)
  · refine z_iconst dL_law_1031 ?_
    refine w_cls (MX := mX6_period) (MM := mX7_period) (as := [.int (iZ (xv xs (i + 1))), .int (iZ 0)]) dL_law_1032 okX6_period mlL_130 rfl rfl rfl (j_period (by decide) hc J (xv_r xs _) (Or.inl rfl)) (fun z σ1 hm => ?_)
    refine q_aload_n dL_law_1035 rfl rfl ?_
    refine q_aload_n dL_law_1036 rfl rfl ?_
    refine q_iload_n dL_law_1037 rfl rfl ?_
    refine z_iconst dL_law_1038 ?_
    refine z_iadd dL_law_1039 ?_
    refine q_sld (j := i + 1) dL_law_1040 (by omega) (by omega) hL ?_
    refine q_aload_n dL_law_1041 rfl rfl ?_
    refine q_iload_n dL_law_1042 rfl rfl ?_
    refine z_iconst dL_law_1043 ?_
    refine z_iadd dL_law_1044 ?_
    refine q_sld (j := i + 2) dL_law_1045 (by omega) (by omega) hL ?_
    refine z_if_eq (tgt := 1053) dL_law_1046 (by decide) (xv_r xs _) (fun _ => ?_) (fun q => absurd c2 q)
    refine z_iconst dL_law_1053 ?_
    refine w_mod (MM := mX7_period) (as := [.int (iZ (xv xs (i + 1))), .int (iZ 0)]) dL_law_1054 okX7_period mlL_134 rfl rfl rfl hm (fun σ2 J2 => ?_)
    exact q_icmp_eq (tgt := 1661) dL_law_1057 (by decide) (fun _ => K σ2 J2) (fun q => absurd rfl q)
  · refine z_iconst dL_law_1027 ?_
    refine q_goto (tgt := 1032) dL_law_1028 (by decide) ?_
    refine w_cls (MX := mX6_period) (MM := mX7_period) (as := [.int (iZ (xv xs (i + 1))), .int (iZ 1)]) dL_law_1032 okX6_period mlL_130 rfl rfl rfl (j_period (by decide) hc J (xv_r xs _) (Or.inr rfl)) (fun z σ1 hm => ?_)
    refine q_aload_n dL_law_1035 rfl rfl ?_
    refine q_aload_n dL_law_1036 rfl rfl ?_
    refine q_iload_n dL_law_1037 rfl rfl ?_
    refine z_iconst dL_law_1038 ?_
    refine z_iadd dL_law_1039 ?_
    refine q_sld (j := i + 1) dL_law_1040 (by omega) (by omega) hL ?_
    refine q_aload_n dL_law_1041 rfl rfl ?_
    refine q_iload_n dL_law_1042 rfl rfl ?_
    refine z_iconst dL_law_1043 ?_
    refine z_iadd dL_law_1044 ?_
    refine q_sld (j := i + 2) dL_law_1045 (by omega) (by omega) hL ?_
    refine z_if_eq (tgt := 1053) dL_law_1046 (by decide) (xv_r xs _) (fun q => absurd q c2) (fun _ => ?_)
    refine z_iconst dL_law_1049 ?_
    refine q_goto (tgt := 1054) dL_law_1050 (by decide) ?_
    refine w_mod (MM := mX7_period) (as := [.int (iZ (xv xs (i + 1))), .int (iZ 1)]) dL_law_1054 okX7_period mlL_134 rfl rfl rfl hm (fun σ2 J2 => ?_)
    exact q_icmp_eq (tgt := 1661) dL_law_1057 (by decide) (fun _ => K σ2 J2) (fun q => absurd rfl q)
set_option maxHeartbeats 4000000 in
set_option maxRecDepth 100000 in
theorem lw_least {L i : Nat} {xs : Nat → Int32} (hL : L ≤ 3072) (hi : i + 6 ≤ L) {τ : gS} {c : Int} (hc : c ≤ 45000) {W V : wF} (J : JM τ W V c ∧ JC τ W V) (K : ∀ σ2, JJ σ2 (c + 80) → gE (gYL L xs) mL_law 1000 (0, 0, 398, 15794) lwR1 1661 [some (.ref 1000002), some (.ref 0), some (.ref 384), some (.int (iZ (i : Int)))] [] (hE σ2)) : gE (gYL L xs) mL_law 1000 (0, 0, 398, 15794) lwR1 1062 [some (.ref 1000002), some (.ref 0), some (.ref 384), some (.int (iZ (i : Int)))] [] (hE τ) := by
  refine q_aload_n dL_law_1062 rfl rfl ?_
  refine q_aload_n dL_law_1063 rfl rfl ?_
  refine q_iload_n dL_law_1064 rfl rfl ?_
  refine z_iconst dL_law_1065 ?_
  refine z_iadd dL_law_1066 ?_
  refine q_sld (j := i + 1) dL_law_1067 (by omega) (by omega) hL ?_
  refine q_aload_n dL_law_1068 rfl rfl ?_
  refine q_iload_n dL_law_1069 rfl rfl ?_
  refine z_iconst dL_law_1070 ?_
  refine z_iadd dL_law_1071 ?_
  refine q_sld (j := i + 2) dL_law_1072 (by omega) (by omega) hL ?_
  refine z_if_eq (tgt := 1080) dL_law_1073 (by decide) (xv_r xs _) (fun c2 => ?_) (fun c2 => ?_)
  · refine z_iconst dL_law_1080 ?_
    refine w_cls (MX := mX6_least) (MM := mX7_least) (as := [.int (iZ (xv xs (i + 1))), .int (iZ 0)]) dL_law_1081 okX6_least mlL_135 rfl rfl rfl (j_least (by decide) hc J (xv_r xs _) (Or.inl rfl)) (fun z σ1 hm => ?_)
    refine q_aload_n dL_law_1084 rfl rfl ?_
    refine q_aload_n dL_law_1085 rfl rfl ?_
    refine q_iload_n dL_law_1086 rfl rfl ?_
    refine z_iconst dL_law_1087 ?_
    refine z_iadd dL_law_1088 ?_
    refine q_sld (j := i + 1) dL_law_1089 (by omega) (by omega) hL ?_
    refine q_aload_n dL_law_1090 rfl rfl ?_
    refine q_iload_n dL_law_1091 rfl rfl ?_
    refine z_iconst dL_law_1092 ?_
    refine z_iadd dL_law_1093 ?_
    refine q_sld (j := i + 2) dL_law_1094 (by omega) (by omega) hL ?_
    refine z_if_eq (tgt := 1102) dL_law_1095 (by decide) (xv_r xs _) (fun _ => ?_) (fun q => absurd c2 q)
    refine z_iconst dL_law_1102 ?_
    refine w_mod (MM := mX7_least) (as := [.int (iZ (xv xs (i + 1))), .int (iZ 0)]) dL_law_1103 okX7_least mlL_138 rfl rfl rfl hm (fun σ2 J2 => ?_)
    exact q_icmp_eq (tgt := 1661) dL_law_1106 (by decide) (fun _ => K σ2 J2) (fun q => absurd rfl q)
  · refine z_iconst dL_law_1076 ?_
    refine q_goto (tgt := 1081) dL_law_1077 (by decide) ?_
    refine w_cls (MX := mX6_least) (MM := mX7_least) (as := [.int (iZ (xv xs (i + 1))), .int (iZ 1)]) dL_law_1081 okX6_least mlL_135 rfl rfl rfl (j_least (by decide) hc J (xv_r xs _) (Or.inr rfl)) (fun z σ1 hm => ?_)
    refine q_aload_n dL_law_1084 rfl rfl ?_
    refine q_aload_n dL_law_1085 rfl rfl ?_
    refine q_iload_n dL_law_1086 rfl rfl ?_
    refine z_iconst dL_law_1087 ?_
    refine z_iadd dL_law_1088 ?_
    refine q_sld (j := i + 1) dL_law_1089 (by omega) (by omega) hL ?_
    refine q_aload_n dL_law_1090 rfl rfl ?_
    refine q_iload_n dL_law_1091 rfl rfl ?_
    refine z_iconst dL_law_1092 ?_
    refine z_iadd dL_law_1093 ?_
    refine q_sld (j := i + 2) dL_law_1094 (by omega) (by omega) hL ?_
    refine z_if_eq (tgt := 1102) dL_law_1095 (by decide) (xv_r xs _) (fun q => absurd q c2) (fun _ => ?_)
    refine z_iconst dL_law_1098 ?_
    refine q_goto (tgt := 1103) dL_law_1099 (by decide) ?_
    refine w_mod (MM := mX7_least) (as := [.int (iZ (xv xs (i + 1))), .int (iZ 1)]) dL_law_1103 okX7_least mlL_138 rfl rfl rfl hm (fun σ2 J2 => ?_)
    exact q_icmp_eq (tgt := 1661) dL_law_1106 (by decide) (fun _ => K σ2 J2) (fun q => absurd rfl q)
set_option maxHeartbeats 4000000 in
set_option maxRecDepth 100000 in
theorem lw_meet {L i : Nat} {xs : Nat → Int32} (hL : L ≤ 3072) (hi : i + 6 ≤ L) {τ : gS} {c : Int} (hc : c ≤ 45000) {W V : wF} (J : JM τ W V c ∧ JC τ W V) (K : ∀ σ2, JJ σ2 (c + 80) → gE (gYL L xs) mL_law 1000 (0, 0, 398, 15794) lwR1 1661 [some (.ref 1000002), some (.ref 0), some (.ref 384), some (.int (iZ (i : Int)))] [] (hE σ2)) : gE (gYL L xs) mL_law 1000 (0, 0, 398, 15794) lwR1 1111 [some (.ref 1000002), some (.ref 0), some (.ref 384), some (.int (iZ (i : Int)))] [] (hE τ) := by
  refine q_aload_n dL_law_1111 rfl rfl ?_
  refine q_aload_n dL_law_1112 rfl rfl ?_
  refine q_iload_n dL_law_1113 rfl rfl ?_
  refine z_iconst dL_law_1114 ?_
  refine z_iadd dL_law_1115 ?_
  refine q_sld (j := i + 1) dL_law_1116 (by omega) (by omega) hL ?_
  refine q_aload_n dL_law_1117 rfl rfl ?_
  refine q_iload_n dL_law_1118 rfl rfl ?_
  refine z_iconst dL_law_1119 ?_
  refine z_iadd dL_law_1120 ?_
  refine q_sld (j := i + 2) dL_law_1121 (by omega) (by omega) hL ?_
  refine q_aload_n dL_law_1122 rfl rfl ?_
  refine q_iload_n dL_law_1123 rfl rfl ?_
  refine z_iconst dL_law_1124 ?_
  refine z_iadd dL_law_1125 ?_
  refine q_sld (j := i + 3) dL_law_1126 (by omega) (by omega) hL ?_
  refine w_cls (MX := mX6_meet) (MM := mX7_meet) (as := [.int (iZ (xv xs (i + 1))), .int (iZ (xv xs (i + 2))), .int (iZ (xv xs (i + 3)))]) dL_law_1127 okX6_meet mlL_139 rfl rfl rfl (j_meet (by decide) hc J (xv_r xs _) (xv_r xs _) (xv_r xs _)) (fun z σ1 hm => ?_)
  refine q_aload_n dL_law_1130 rfl rfl ?_
  refine q_aload_n dL_law_1131 rfl rfl ?_
  refine q_iload_n dL_law_1132 rfl rfl ?_
  refine z_iconst dL_law_1133 ?_
  refine z_iadd dL_law_1134 ?_
  refine q_sld (j := i + 1) dL_law_1135 (by omega) (by omega) hL ?_
  refine q_aload_n dL_law_1136 rfl rfl ?_
  refine q_iload_n dL_law_1137 rfl rfl ?_
  refine z_iconst dL_law_1138 ?_
  refine z_iadd dL_law_1139 ?_
  refine q_sld (j := i + 2) dL_law_1140 (by omega) (by omega) hL ?_
  refine q_aload_n dL_law_1141 rfl rfl ?_
  refine q_iload_n dL_law_1142 rfl rfl ?_
  refine z_iconst dL_law_1143 ?_
  refine z_iadd dL_law_1144 ?_
  refine q_sld (j := i + 3) dL_law_1145 (by omega) (by omega) hL ?_
  refine w_mod (MM := mX7_meet) (as := [.int (iZ (xv xs (i + 1))), .int (iZ (xv xs (i + 2))), .int (iZ (xv xs (i + 3)))]) dL_law_1146 okX7_meet mlL_142 rfl rfl rfl hm (fun σ2 J2 => ?_)
  exact q_icmp_eq (tgt := 1661) dL_law_1149 (by decide) (fun _ => K σ2 J2) (fun q => absurd rfl q)
set_option maxHeartbeats 4000000 in
set_option maxRecDepth 100000 in
theorem lw_doers {L i : Nat} {xs : Nat → Int32} (hL : L ≤ 3072) (hi : i + 6 ≤ L) {τ : gS} {c : Int} (hc : c ≤ 45000) {W V : wF} (J : JM τ W V c ∧ JC τ W V) (K : ∀ σ2, JJ σ2 (c + 80) → gE (gYL L xs) mL_law 1000 (0, 0, 398, 15794) lwR1 1661 [some (.ref 1000002), some (.ref 0), some (.ref 384), some (.int (iZ (i : Int)))] [] (hE σ2)) : gE (gYL L xs) mL_law 1000 (0, 0, 398, 15794) lwR1 1154 [some (.ref 1000002), some (.ref 0), some (.ref 384), some (.int (iZ (i : Int)))] [] (hE τ) := by
  refine q_aload_n dL_law_1154 rfl rfl ?_
  refine q_aload_n dL_law_1155 rfl rfl ?_
  refine q_iload_n dL_law_1156 rfl rfl ?_
  refine z_iconst dL_law_1157 ?_
  refine z_iadd dL_law_1158 ?_
  refine q_sld (j := i + 1) dL_law_1159 (by omega) (by omega) hL ?_
  refine z_if_eq (tgt := 1167) dL_law_1160 (by decide) (xv_r xs _) (fun c1 => ?_) (fun c1 => ?_)
  · refine z_iconst dL_law_1167 ?_
    refine w_cls (MX := mX6_doers) (MM := mX7_doers) (as := [.int (iZ 0)]) dL_law_1168 okX6_doers mlL_143 rfl rfl rfl (j_doers (by decide) hc J (Or.inl rfl)) (fun z σ1 hm => ?_)
    refine q_aload_n dL_law_1171 rfl rfl ?_
    refine q_aload_n dL_law_1172 rfl rfl ?_
    refine q_iload_n dL_law_1173 rfl rfl ?_
    refine z_iconst dL_law_1174 ?_
    refine z_iadd dL_law_1175 ?_
    refine q_sld (j := i + 1) dL_law_1176 (by omega) (by omega) hL ?_
    refine z_if_eq (tgt := 1184) dL_law_1177 (by decide) (xv_r xs _) (fun _ => ?_) (fun q => absurd c1 q)
    refine z_iconst dL_law_1184 ?_
    refine w_mod (MM := mX7_doers) (as := [.int (iZ 0)]) dL_law_1185 okX7_doers mlL_146 rfl rfl rfl hm (fun σ2 J2 => ?_)
    exact q_icmp_eq (tgt := 1661) dL_law_1188 (by decide) (fun _ => K σ2 J2) (fun q => absurd rfl q)
  · refine z_iconst dL_law_1163 ?_
    refine q_goto (tgt := 1168) dL_law_1164 (by decide) ?_
    refine w_cls (MX := mX6_doers) (MM := mX7_doers) (as := [.int (iZ 1)]) dL_law_1168 okX6_doers mlL_143 rfl rfl rfl (j_doers (by decide) hc J (Or.inr rfl)) (fun z σ1 hm => ?_)
    refine q_aload_n dL_law_1171 rfl rfl ?_
    refine q_aload_n dL_law_1172 rfl rfl ?_
    refine q_iload_n dL_law_1173 rfl rfl ?_
    refine z_iconst dL_law_1174 ?_
    refine z_iadd dL_law_1175 ?_
    refine q_sld (j := i + 1) dL_law_1176 (by omega) (by omega) hL ?_
    refine z_if_eq (tgt := 1184) dL_law_1177 (by decide) (xv_r xs _) (fun q => absurd q c1) (fun _ => ?_)
    refine z_iconst dL_law_1180 ?_
    refine q_goto (tgt := 1185) dL_law_1181 (by decide) ?_
    refine w_mod (MM := mX7_doers) (as := [.int (iZ 1)]) dL_law_1185 okX7_doers mlL_146 rfl rfl rfl hm (fun σ2 J2 => ?_)
    exact q_icmp_eq (tgt := 1661) dL_law_1188 (by decide) (fun _ => K σ2 J2) (fun q => absurd rfl q)
set_option maxHeartbeats 4000000 in
set_option maxRecDepth 100000 in
theorem lw_likely {L i : Nat} {xs : Nat → Int32} (hL : L ≤ 3072) (hi : i + 6 ≤ L) {τ : gS} {c : Int} (hc : c ≤ 45000) {W V : wF} (J : JM τ W V c ∧ JC τ W V) (K : ∀ σ2, JJ σ2 (c + 80) → gE (gYL L xs) mL_law 1000 (0, 0, 398, 15794) lwR1 1661 [some (.ref 1000002), some (.ref 0), some (.ref 384), some (.int (iZ (i : Int)))] [] (hE σ2)) : gE (gYL L xs) mL_law 1000 (0, 0, 398, 15794) lwR1 1193 [some (.ref 1000002), some (.ref 0), some (.ref 384), some (.int (iZ (i : Int)))] [] (hE τ) := by
  refine q_aload_n dL_law_1193 rfl rfl ?_
  refine q_aload_n dL_law_1194 rfl rfl ?_
  refine q_iload_n dL_law_1195 rfl rfl ?_
  refine z_iconst dL_law_1196 ?_
  refine z_iadd dL_law_1197 ?_
  refine q_sld (j := i + 1) dL_law_1198 (by omega) (by omega) hL ?_
  refine q_aload_n dL_law_1199 rfl rfl ?_
  refine q_iload_n dL_law_1200 rfl rfl ?_
  refine z_iconst dL_law_1201 ?_
  refine z_iadd dL_law_1202 ?_
  refine q_sld (j := i + 2) dL_law_1203 (by omega) (by omega) hL ?_
  refine q_aload_n dL_law_1204 rfl rfl ?_
  refine q_iload_n dL_law_1205 rfl rfl ?_
  refine z_iconst dL_law_1206 ?_
  refine z_iadd dL_law_1207 ?_
  refine q_sld (j := i + 3) dL_law_1208 (by omega) (by omega) hL ?_
  refine z_if_eq (tgt := 1216) dL_law_1209 (by decide) (xv_r xs _) (fun c3 => ?_) (fun c3 => ?_)
  · refine z_iconst dL_law_1216 ?_
    refine w_cls (MX := mX6_likely) (MM := mX7_likely) (as := [.int (iZ (xv xs (i + 1))), .int (iZ (xv xs (i + 2))), .int (iZ 0)]) dL_law_1217 okX6_likely mlL_147 rfl rfl rfl (j_likely (by decide) hc J (xv_r xs _) (xv_r xs _) (Or.inl rfl)) (fun z σ1 hm => ?_)
    refine q_aload_n dL_law_1220 rfl rfl ?_
    refine q_aload_n dL_law_1221 rfl rfl ?_
    refine q_iload_n dL_law_1222 rfl rfl ?_
    refine z_iconst dL_law_1223 ?_
    refine z_iadd dL_law_1224 ?_
    refine q_sld (j := i + 1) dL_law_1225 (by omega) (by omega) hL ?_
    refine q_aload_n dL_law_1226 rfl rfl ?_
    refine q_iload_n dL_law_1227 rfl rfl ?_
    refine z_iconst dL_law_1228 ?_
    refine z_iadd dL_law_1229 ?_
    refine q_sld (j := i + 2) dL_law_1230 (by omega) (by omega) hL ?_
    refine q_aload_n dL_law_1231 rfl rfl ?_
    refine q_iload_n dL_law_1232 rfl rfl ?_
    refine z_iconst dL_law_1233 ?_
    refine z_iadd dL_law_1234 ?_
    refine q_sld (j := i + 3) dL_law_1235 (by omega) (by omega) hL ?_
    refine z_if_eq (tgt := 1243) dL_law_1236 (by decide) (xv_r xs _) (fun _ => ?_) (fun q => absurd c3 q)
    refine z_iconst dL_law_1243 ?_
    refine w_mod (MM := mX7_likely) (as := [.int (iZ (xv xs (i + 1))), .int (iZ (xv xs (i + 2))), .int (iZ 0)]) dL_law_1244 okX7_likely mlL_151 rfl rfl rfl hm (fun σ2 J2 => ?_)
    exact q_icmp_eq (tgt := 1661) dL_law_1247 (by decide) (fun _ => K σ2 J2) (fun q => absurd rfl q)
  · refine z_iconst dL_law_1212 ?_
    refine q_goto (tgt := 1217) dL_law_1213 (by decide) ?_
    refine w_cls (MX := mX6_likely) (MM := mX7_likely) (as := [.int (iZ (xv xs (i + 1))), .int (iZ (xv xs (i + 2))), .int (iZ 1)]) dL_law_1217 okX6_likely mlL_147 rfl rfl rfl (j_likely (by decide) hc J (xv_r xs _) (xv_r xs _) (Or.inr rfl)) (fun z σ1 hm => ?_)
    refine q_aload_n dL_law_1220 rfl rfl ?_
    refine q_aload_n dL_law_1221 rfl rfl ?_
    refine q_iload_n dL_law_1222 rfl rfl ?_
    refine z_iconst dL_law_1223 ?_
    refine z_iadd dL_law_1224 ?_
    refine q_sld (j := i + 1) dL_law_1225 (by omega) (by omega) hL ?_
    refine q_aload_n dL_law_1226 rfl rfl ?_
    refine q_iload_n dL_law_1227 rfl rfl ?_
    refine z_iconst dL_law_1228 ?_
    refine z_iadd dL_law_1229 ?_
    refine q_sld (j := i + 2) dL_law_1230 (by omega) (by omega) hL ?_
    refine q_aload_n dL_law_1231 rfl rfl ?_
    refine q_iload_n dL_law_1232 rfl rfl ?_
    refine z_iconst dL_law_1233 ?_
    refine z_iadd dL_law_1234 ?_
    refine q_sld (j := i + 3) dL_law_1235 (by omega) (by omega) hL ?_
    refine z_if_eq (tgt := 1243) dL_law_1236 (by decide) (xv_r xs _) (fun q => absurd q c3) (fun _ => ?_)
    refine z_iconst dL_law_1239 ?_
    refine q_goto (tgt := 1244) dL_law_1240 (by decide) ?_
    refine w_mod (MM := mX7_likely) (as := [.int (iZ (xv xs (i + 1))), .int (iZ (xv xs (i + 2))), .int (iZ 1)]) dL_law_1244 okX7_likely mlL_151 rfl rfl rfl hm (fun σ2 J2 => ?_)
    exact q_icmp_eq (tgt := 1661) dL_law_1247 (by decide) (fun _ => K σ2 J2) (fun q => absurd rfl q)
set_option maxHeartbeats 4000000 in
set_option maxRecDepth 100000 in
theorem lw_off {L i : Nat} {xs : Nat → Int32} (hL : L ≤ 3072) (hi : i + 6 ≤ L) {τ : gS} {c : Int} (hc : c ≤ 45000) {W V : wF} (J : JM τ W V c ∧ JC τ W V) (K : ∀ σ2, JJ σ2 (c + 80) → gE (gYL L xs) mL_law 1000 (0, 0, 398, 15794) lwR1 1661 [some (.ref 1000002), some (.ref 0), some (.ref 384), some (.int (iZ (i : Int)))] [] (hE σ2)) : gE (gYL L xs) mL_law 1000 (0, 0, 398, 15794) lwR1 1252 [some (.ref 1000002), some (.ref 0), some (.ref 384), some (.int (iZ (i : Int)))] [] (hE τ) := by
  refine q_aload_n dL_law_1252 rfl rfl ?_
  refine q_aload_n dL_law_1253 rfl rfl ?_
  refine q_iload_n dL_law_1254 rfl rfl ?_
  refine z_iconst dL_law_1255 ?_
  refine z_iadd dL_law_1256 ?_
  refine q_sld (j := i + 1) dL_law_1257 (by omega) (by omega) hL ?_
  refine q_aload_n dL_law_1258 rfl rfl ?_
  refine q_iload_n dL_law_1259 rfl rfl ?_
  refine z_iconst dL_law_1260 ?_
  refine z_iadd dL_law_1261 ?_
  refine q_sld (j := i + 2) dL_law_1262 (by omega) (by omega) hL ?_
  refine z_if_eq (tgt := 1270) dL_law_1263 (by decide) (xv_r xs _) (fun c2 => ?_) (fun c2 => ?_)
  · refine z_iconst dL_law_1270 ?_
    refine w_cls (MX := mX6_off) (MM := mX7_off) (as := [.int (iZ (xv xs (i + 1))), .int (iZ 0)]) dL_law_1271 okX6_off mlL_152 rfl rfl rfl (j_off (by decide) hc J (xv_r xs _) (Or.inl rfl)) (fun z σ1 hm => ?_)
    refine q_aload_n dL_law_1274 rfl rfl ?_
    refine q_aload_n dL_law_1275 rfl rfl ?_
    refine q_iload_n dL_law_1276 rfl rfl ?_
    refine z_iconst dL_law_1277 ?_
    refine z_iadd dL_law_1278 ?_
    refine q_sld (j := i + 1) dL_law_1279 (by omega) (by omega) hL ?_
    refine q_aload_n dL_law_1280 rfl rfl ?_
    refine q_iload_n dL_law_1281 rfl rfl ?_
    refine z_iconst dL_law_1282 ?_
    refine z_iadd dL_law_1283 ?_
    refine q_sld (j := i + 2) dL_law_1284 (by omega) (by omega) hL ?_
    refine z_if_eq (tgt := 1292) dL_law_1285 (by decide) (xv_r xs _) (fun _ => ?_) (fun q => absurd c2 q)
    refine z_iconst dL_law_1292 ?_
    refine w_mod (MM := mX7_off) (as := [.int (iZ (xv xs (i + 1))), .int (iZ 0)]) dL_law_1293 okX7_off mlL_155 rfl rfl rfl hm (fun σ2 J2 => ?_)
    exact q_icmp_eq (tgt := 1661) dL_law_1296 (by decide) (fun _ => K σ2 J2) (fun q => absurd rfl q)
  · refine z_iconst dL_law_1266 ?_
    refine q_goto (tgt := 1271) dL_law_1267 (by decide) ?_
    refine w_cls (MX := mX6_off) (MM := mX7_off) (as := [.int (iZ (xv xs (i + 1))), .int (iZ 1)]) dL_law_1271 okX6_off mlL_152 rfl rfl rfl (j_off (by decide) hc J (xv_r xs _) (Or.inr rfl)) (fun z σ1 hm => ?_)
    refine q_aload_n dL_law_1274 rfl rfl ?_
    refine q_aload_n dL_law_1275 rfl rfl ?_
    refine q_iload_n dL_law_1276 rfl rfl ?_
    refine z_iconst dL_law_1277 ?_
    refine z_iadd dL_law_1278 ?_
    refine q_sld (j := i + 1) dL_law_1279 (by omega) (by omega) hL ?_
    refine q_aload_n dL_law_1280 rfl rfl ?_
    refine q_iload_n dL_law_1281 rfl rfl ?_
    refine z_iconst dL_law_1282 ?_
    refine z_iadd dL_law_1283 ?_
    refine q_sld (j := i + 2) dL_law_1284 (by omega) (by omega) hL ?_
    refine z_if_eq (tgt := 1292) dL_law_1285 (by decide) (xv_r xs _) (fun q => absurd q c2) (fun _ => ?_)
    refine z_iconst dL_law_1288 ?_
    refine q_goto (tgt := 1293) dL_law_1289 (by decide) ?_
    refine w_mod (MM := mX7_off) (as := [.int (iZ (xv xs (i + 1))), .int (iZ 1)]) dL_law_1293 okX7_off mlL_155 rfl rfl rfl hm (fun σ2 J2 => ?_)
    exact q_icmp_eq (tgt := 1661) dL_law_1296 (by decide) (fun _ => K σ2 J2) (fun q => absurd rfl q)
set_option maxHeartbeats 4000000 in
set_option maxRecDepth 100000 in
theorem lw_need {L i : Nat} {xs : Nat → Int32} (hL : L ≤ 3072) (hi : i + 6 ≤ L) {τ : gS} {c : Int} (hc : c ≤ 45000) {W V : wF} (J : JM τ W V c ∧ JC τ W V) (K : ∀ σ2, JJ σ2 (c + 80) → gE (gYL L xs) mL_law 1000 (0, 0, 398, 15794) lwR1 1661 [some (.ref 1000002), some (.ref 0), some (.ref 384), some (.int (iZ (i : Int)))] [] (hE σ2)) : gE (gYL L xs) mL_law 1000 (0, 0, 398, 15794) lwR1 1301 [some (.ref 1000002), some (.ref 0), some (.ref 384), some (.int (iZ (i : Int)))] [] (hE τ) := by
  refine q_aload_n dL_law_1301 rfl rfl ?_
  refine q_aload_n dL_law_1302 rfl rfl ?_
  refine q_iload_n dL_law_1303 rfl rfl ?_
  refine z_iconst dL_law_1304 ?_
  refine z_iadd dL_law_1305 ?_
  refine q_sld (j := i + 1) dL_law_1306 (by omega) (by omega) hL ?_
  refine q_aload_n dL_law_1307 rfl rfl ?_
  refine q_iload_n dL_law_1308 rfl rfl ?_
  refine z_iconst dL_law_1309 ?_
  refine z_iadd dL_law_1310 ?_
  refine q_sld (j := i + 2) dL_law_1311 (by omega) (by omega) hL ?_
  refine w_cls (MX := mX6_need) (MM := mX7_need) (as := [.int (iZ (xv xs (i + 1))), .int (iZ (xv xs (i + 2)))]) dL_law_1312 okX6_need mlL_156 rfl rfl rfl (j_need (by decide) hc J (xv_r xs _) (xv_r xs _)) (fun z σ1 hm => ?_)
  refine q_aload_n dL_law_1315 rfl rfl ?_
  refine q_aload_n dL_law_1316 rfl rfl ?_
  refine q_iload_n dL_law_1317 rfl rfl ?_
  refine z_iconst dL_law_1318 ?_
  refine z_iadd dL_law_1319 ?_
  refine q_sld (j := i + 1) dL_law_1320 (by omega) (by omega) hL ?_
  refine q_aload_n dL_law_1321 rfl rfl ?_
  refine q_iload_n dL_law_1322 rfl rfl ?_
  refine z_iconst dL_law_1323 ?_
  refine z_iadd dL_law_1324 ?_
  refine q_sld (j := i + 2) dL_law_1325 (by omega) (by omega) hL ?_
  refine w_mod (MM := mX7_need) (as := [.int (iZ (xv xs (i + 1))), .int (iZ (xv xs (i + 2)))]) dL_law_1326 okX7_need mlL_159 rfl rfl rfl hm (fun σ2 J2 => ?_)
  exact q_icmp_eq (tgt := 1661) dL_law_1329 (by decide) (fun _ => K σ2 J2) (fun q => absurd rfl q)
set_option maxHeartbeats 4000000 in
set_option maxRecDepth 100000 in
theorem lw_cart {L i : Nat} {xs : Nat → Int32} (hL : L ≤ 3072) (hi : i + 6 ≤ L) {τ : gS} {c : Int} (hc : c ≤ 45000) {W V : wF} (J : JM τ W V c ∧ JC τ W V) (K : ∀ σ2, JJ σ2 (c + 80) → gE (gYL L xs) mL_law 1000 (0, 0, 398, 15794) lwR1 1661 [some (.ref 1000002), some (.ref 0), some (.ref 384), some (.int (iZ (i : Int)))] [] (hE σ2)) : gE (gYL L xs) mL_law 1000 (0, 0, 398, 15794) lwR1 1334 [some (.ref 1000002), some (.ref 0), some (.ref 384), some (.int (iZ (i : Int)))] [] (hE τ) := by
  refine q_aload_n dL_law_1334 rfl rfl ?_
  refine q_aload_n dL_law_1335 rfl rfl ?_
  refine q_iload_n dL_law_1336 rfl rfl ?_
  refine z_iconst dL_law_1337 ?_
  refine z_iadd dL_law_1338 ?_
  refine q_sld (j := i + 1) dL_law_1339 (by omega) (by omega) hL ?_
  refine w_cls (MX := mX6_cart) (MM := mX7_cart) (as := [.int (iZ (xv xs (i + 1)))]) dL_law_1340 okX6_cart mlL_160 rfl rfl rfl (j_cart (by decide) hc J (xv_r xs _)) (fun z σ1 hm => ?_)
  refine q_aload_n dL_law_1343 rfl rfl ?_
  refine q_aload_n dL_law_1344 rfl rfl ?_
  refine q_iload_n dL_law_1345 rfl rfl ?_
  refine z_iconst dL_law_1346 ?_
  refine z_iadd dL_law_1347 ?_
  refine q_sld (j := i + 1) dL_law_1348 (by omega) (by omega) hL ?_
  refine w_mod (MM := mX7_cart) (as := [.int (iZ (xv xs (i + 1)))]) dL_law_1349 okX7_cart mlL_163 rfl rfl rfl hm (fun σ2 J2 => ?_)
  exact q_icmp_eq (tgt := 1661) dL_law_1352 (by decide) (fun _ => K σ2 J2) (fun q => absurd rfl q)
set_option maxHeartbeats 4000000 in
set_option maxRecDepth 100000 in
theorem lw_round {L i : Nat} {xs : Nat → Int32} (hL : L ≤ 3072) (hi : i + 6 ≤ L) {τ : gS} {c : Int} (hc : c ≤ 45000) {W V : wF} (J : JM τ W V c ∧ JC τ W V) (K : ∀ σ2, JJ σ2 (c + 80) → gE (gYL L xs) mL_law 1000 (0, 0, 398, 15794) lwR1 1661 [some (.ref 1000002), some (.ref 0), some (.ref 384), some (.int (iZ (i : Int)))] [] (hE σ2)) : gE (gYL L xs) mL_law 1000 (0, 0, 398, 15794) lwR1 1357 [some (.ref 1000002), some (.ref 0), some (.ref 384), some (.int (iZ (i : Int)))] [] (hE τ) := by
  refine q_aload_n dL_law_1357 rfl rfl ?_
  refine q_aload_n dL_law_1358 rfl rfl ?_
  refine q_iload_n dL_law_1359 rfl rfl ?_
  refine z_iconst dL_law_1360 ?_
  refine z_iadd dL_law_1361 ?_
  refine q_sld (j := i + 1) dL_law_1362 (by omega) (by omega) hL ?_
  refine q_aload_n dL_law_1363 rfl rfl ?_
  refine q_iload_n dL_law_1364 rfl rfl ?_
  refine z_iconst dL_law_1365 ?_
  refine z_iadd dL_law_1366 ?_
  refine q_sld (j := i + 2) dL_law_1367 (by omega) (by omega) hL ?_
  refine w_cls (MX := mX6_round) (MM := mX7_round) (as := [.int (iZ (xv xs (i + 1))), .int (iZ (xv xs (i + 2)))]) dL_law_1368 okX6_round mlL_164 rfl rfl rfl (j_round (by decide) hc J (xv_r xs _) (xv_r xs _)) (fun z σ1 hm => ?_)
  refine q_aload_n dL_law_1371 rfl rfl ?_
  refine q_aload_n dL_law_1372 rfl rfl ?_
  refine q_iload_n dL_law_1373 rfl rfl ?_
  refine z_iconst dL_law_1374 ?_
  refine z_iadd dL_law_1375 ?_
  refine q_sld (j := i + 1) dL_law_1376 (by omega) (by omega) hL ?_
  refine q_aload_n dL_law_1377 rfl rfl ?_
  refine q_iload_n dL_law_1378 rfl rfl ?_
  refine z_iconst dL_law_1379 ?_
  refine z_iadd dL_law_1380 ?_
  refine q_sld (j := i + 2) dL_law_1381 (by omega) (by omega) hL ?_
  refine w_mod (MM := mX7_round) (as := [.int (iZ (xv xs (i + 1))), .int (iZ (xv xs (i + 2)))]) dL_law_1382 okX7_round mlL_167 rfl rfl rfl hm (fun σ2 J2 => ?_)
  exact q_icmp_eq (tgt := 1661) dL_law_1385 (by decide) (fun _ => K σ2 J2) (fun q => absurd rfl q)
set_option maxHeartbeats 4000000 in
set_option maxRecDepth 100000 in
theorem lw_sick {L i : Nat} {xs : Nat → Int32} (hL : L ≤ 3072) (hi : i + 6 ≤ L) {τ : gS} {c : Int} (hc : c ≤ 45000) {W V : wF} (J : JM τ W V c ∧ JC τ W V) (K : ∀ σ2, JJ σ2 (c + 80) → gE (gYL L xs) mL_law 1000 (0, 0, 398, 15794) lwR1 1661 [some (.ref 1000002), some (.ref 0), some (.ref 384), some (.int (iZ (i : Int)))] [] (hE σ2)) : gE (gYL L xs) mL_law 1000 (0, 0, 398, 15794) lwR1 1390 [some (.ref 1000002), some (.ref 0), some (.ref 384), some (.int (iZ (i : Int)))] [] (hE τ) := by
  refine q_aload_n dL_law_1390 rfl rfl ?_
  refine w_cls (MX := mX6_sick) (MM := mX7_sick) (as := []) dL_law_1391 okX6_sick mlL_168 rfl rfl rfl (j_sick (by decide) hc J ) (fun z σ1 hm => ?_)
  refine q_aload_n dL_law_1394 rfl rfl ?_
  refine w_mod (MM := mX7_sick) (as := []) dL_law_1395 okX7_sick mlL_171 rfl rfl rfl hm (fun σ2 J2 => ?_)
  exact q_icmp_eq (tgt := 1661) dL_law_1398 (by decide) (fun _ => K σ2 J2) (fun q => absurd rfl q)
set_option maxHeartbeats 4000000 in
set_option maxRecDepth 100000 in
theorem lw_beside {L i : Nat} {xs : Nat → Int32} (hL : L ≤ 3072) (hi : i + 6 ≤ L) {τ : gS} {c : Int} (hc : c ≤ 45000) {W V : wF} (J : JM τ W V c ∧ JC τ W V) (K : ∀ σ2, JJ σ2 (c + 80) → gE (gYL L xs) mL_law 1000 (0, 0, 398, 15794) lwR1 1661 [some (.ref 1000002), some (.ref 0), some (.ref 384), some (.int (iZ (i : Int)))] [] (hE σ2)) : gE (gYL L xs) mL_law 1000 (0, 0, 398, 15794) lwR1 1403 [some (.ref 1000002), some (.ref 0), some (.ref 384), some (.int (iZ (i : Int)))] [] (hE τ) := by
  refine q_aload_n dL_law_1403 rfl rfl ?_
  refine q_aload_n dL_law_1404 rfl rfl ?_
  refine q_iload_n dL_law_1405 rfl rfl ?_
  refine z_iconst dL_law_1406 ?_
  refine z_iadd dL_law_1407 ?_
  refine q_sld (j := i + 1) dL_law_1408 (by omega) (by omega) hL ?_
  refine w_cls (MX := mX6_beside) (MM := mX7_beside) (as := [.int (iZ (xv xs (i + 1)))]) dL_law_1409 okX6_beside mlL_172 rfl rfl rfl (j_beside (by decide) hc J (xv_r xs _)) (fun z σ1 hm => ?_)
  refine q_aload_n dL_law_1412 rfl rfl ?_
  refine q_aload_n dL_law_1413 rfl rfl ?_
  refine q_iload_n dL_law_1414 rfl rfl ?_
  refine z_iconst dL_law_1415 ?_
  refine z_iadd dL_law_1416 ?_
  refine q_sld (j := i + 1) dL_law_1417 (by omega) (by omega) hL ?_
  refine w_mod (MM := mX7_beside) (as := [.int (iZ (xv xs (i + 1)))]) dL_law_1418 okX7_beside mlL_175 rfl rfl rfl hm (fun σ2 J2 => ?_)
  exact q_icmp_eq (tgt := 1661) dL_law_1421 (by decide) (fun _ => K σ2 J2) (fun q => absurd rfl q)
set_option maxHeartbeats 4000000 in
set_option maxRecDepth 100000 in
theorem lw_alone {L i : Nat} {xs : Nat → Int32} (hL : L ≤ 3072) (hi : i + 6 ≤ L) {τ : gS} {c : Int} (hc : c ≤ 45000) {W V : wF} (J : JM τ W V c ∧ JC τ W V) (K : ∀ σ2, JJ σ2 (c + 80) → gE (gYL L xs) mL_law 1000 (0, 0, 398, 15794) lwR1 1661 [some (.ref 1000002), some (.ref 0), some (.ref 384), some (.int (iZ (i : Int)))] [] (hE σ2)) : gE (gYL L xs) mL_law 1000 (0, 0, 398, 15794) lwR1 1426 [some (.ref 1000002), some (.ref 0), some (.ref 384), some (.int (iZ (i : Int)))] [] (hE τ) := by
  refine q_aload_n dL_law_1426 rfl rfl ?_
  refine w_cls (MX := mX6_alone) (MM := mX7_alone) (as := []) dL_law_1427 okX6_alone mlL_176 rfl rfl rfl (j_alone (by decide) hc J ) (fun z σ1 hm => ?_)
  refine q_aload_n dL_law_1430 rfl rfl ?_
  refine w_mod (MM := mX7_alone) (as := []) dL_law_1431 okX7_alone mlL_179 rfl rfl rfl hm (fun σ2 J2 => ?_)
  exact q_icmp_eq (tgt := 1661) dL_law_1434 (by decide) (fun _ => K σ2 J2) (fun q => absurd rfl q)
set_option maxHeartbeats 4000000 in
set_option maxRecDepth 100000 in
theorem lw_spread {L i : Nat} {xs : Nat → Int32} (hL : L ≤ 3072) (hi : i + 6 ≤ L) {τ : gS} {c : Int} (hc : c ≤ 45000) {W V : wF} (J : JM τ W V c ∧ JC τ W V) (K : ∀ σ2, JJ σ2 (c + 80) → gE (gYL L xs) mL_law 1000 (0, 0, 398, 15794) lwR1 1661 [some (.ref 1000002), some (.ref 0), some (.ref 384), some (.int (iZ (i : Int)))] [] (hE σ2)) : gE (gYL L xs) mL_law 1000 (0, 0, 398, 15794) lwR1 1439 [some (.ref 1000002), some (.ref 0), some (.ref 384), some (.int (iZ (i : Int)))] [] (hE τ) := by
  refine q_aload_n dL_law_1439 rfl rfl ?_
  refine w_cls (MX := mX6_spread) (MM := mX7_spread) (as := []) dL_law_1440 okX6_spread mlL_180 rfl rfl rfl (j_spread (by decide) hc J ) (fun z σ1 hm => ?_)
  refine q_aload_n dL_law_1443 rfl rfl ?_
  refine w_mod (MM := mX7_spread) (as := []) dL_law_1444 okX7_spread mlL_183 rfl rfl rfl hm (fun σ2 J2 => ?_)
  exact q_icmp_eq (tgt := 1661) dL_law_1447 (by decide) (fun _ => K σ2 J2) (fun q => absurd rfl q)
set_option maxHeartbeats 4000000 in
set_option maxRecDepth 100000 in
theorem lw_crowded {L i : Nat} {xs : Nat → Int32} (hL : L ≤ 3072) (hi : i + 6 ≤ L) {τ : gS} {c : Int} (hc : c ≤ 45000) {W V : wF} (J : JM τ W V c ∧ JC τ W V) (K : ∀ σ2, JJ σ2 (c + 80) → gE (gYL L xs) mL_law 1000 (0, 0, 398, 15794) lwR1 1661 [some (.ref 1000002), some (.ref 0), some (.ref 384), some (.int (iZ (i : Int)))] [] (hE σ2)) : gE (gYL L xs) mL_law 1000 (0, 0, 398, 15794) lwR1 1452 [some (.ref 1000002), some (.ref 0), some (.ref 384), some (.int (iZ (i : Int)))] [] (hE τ) := by
  refine q_aload_n dL_law_1452 rfl rfl ?_
  refine w_cls (MX := mX6_crowded) (MM := mX7_crowded) (as := []) dL_law_1453 okX6_crowded mlL_184 rfl rfl rfl (j_crowded (by decide) hc J ) (fun z σ1 hm => ?_)
  refine q_aload_n dL_law_1456 rfl rfl ?_
  refine w_mod (MM := mX7_crowded) (as := []) dL_law_1457 okX7_crowded mlL_187 rfl rfl rfl hm (fun σ2 J2 => ?_)
  exact q_icmp_eq (tgt := 1661) dL_law_1460 (by decide) (fun _ => K σ2 J2) (fun q => absurd rfl q)
set_option maxHeartbeats 4000000 in
set_option maxRecDepth 100000 in
theorem lw_empty {L i : Nat} {xs : Nat → Int32} (hL : L ≤ 3072) (hi : i + 6 ≤ L) {τ : gS} {c : Int} (hc : c ≤ 45000) {W V : wF} (J : JM τ W V c ∧ JC τ W V) (K : ∀ σ2, JJ σ2 (c + 80) → gE (gYL L xs) mL_law 1000 (0, 0, 398, 15794) lwR1 1661 [some (.ref 1000002), some (.ref 0), some (.ref 384), some (.int (iZ (i : Int)))] [] (hE σ2)) : gE (gYL L xs) mL_law 1000 (0, 0, 398, 15794) lwR1 1465 [some (.ref 1000002), some (.ref 0), some (.ref 384), some (.int (iZ (i : Int)))] [] (hE τ) := by
  refine q_aload_n dL_law_1465 rfl rfl ?_
  refine w_cls (MX := mX6_empty) (MM := mX7_empty) (as := []) dL_law_1466 okX6_empty mlL_188 rfl rfl rfl (j_empty (by decide) hc J ) (fun z σ1 hm => ?_)
  refine q_aload_n dL_law_1469 rfl rfl ?_
  refine w_mod (MM := mX7_empty) (as := []) dL_law_1470 okX7_empty mlL_191 rfl rfl rfl hm (fun σ2 J2 => ?_)
  exact q_icmp_eq (tgt := 1661) dL_law_1473 (by decide) (fun _ => K σ2 J2) (fun q => absurd rfl q)
set_option maxHeartbeats 4000000 in
set_option maxRecDepth 100000 in
theorem lw_said {L i : Nat} {xs : Nat → Int32} (hL : L ≤ 3072) (hi : i + 6 ≤ L) {τ : gS} {c : Int} (hc : c ≤ 45000) {W V : wF} (J : JM τ W V c ∧ JC τ W V) (K : ∀ σ2, JJ σ2 (c + 80) → gE (gYL L xs) mL_law 1000 (0, 0, 398, 15794) lwR1 1661 [some (.ref 1000002), some (.ref 0), some (.ref 384), some (.int (iZ (i : Int)))] [] (hE σ2)) : gE (gYL L xs) mL_law 1000 (0, 0, 398, 15794) lwR1 1478 [some (.ref 1000002), some (.ref 0), some (.ref 384), some (.int (iZ (i : Int)))] [] (hE τ) := by
  refine q_aload_n dL_law_1478 rfl rfl ?_
  refine q_aload_n dL_law_1479 rfl rfl ?_
  refine q_iload_n dL_law_1480 rfl rfl ?_
  refine z_iconst dL_law_1481 ?_
  refine z_iadd dL_law_1482 ?_
  refine q_sld (j := i + 1) dL_law_1483 (by omega) (by omega) hL ?_
  refine q_aload_n dL_law_1484 rfl rfl ?_
  refine q_iload_n dL_law_1485 rfl rfl ?_
  refine z_iconst dL_law_1486 ?_
  refine z_iadd dL_law_1487 ?_
  refine q_sld (j := i + 2) dL_law_1488 (by omega) (by omega) hL ?_
  refine w_cls (MX := mX6_said) (MM := mX7_said) (as := [.int (iZ (xv xs (i + 1))), .int (iZ (xv xs (i + 2)))]) dL_law_1489 okX6_said mlL_192 rfl rfl rfl (j_said (by decide) hc J (xv_r xs _) (xv_r xs _)) (fun z σ1 hm => ?_)
  refine q_aload_n dL_law_1492 rfl rfl ?_
  refine q_aload_n dL_law_1493 rfl rfl ?_
  refine q_iload_n dL_law_1494 rfl rfl ?_
  refine z_iconst dL_law_1495 ?_
  refine z_iadd dL_law_1496 ?_
  refine q_sld (j := i + 1) dL_law_1497 (by omega) (by omega) hL ?_
  refine q_aload_n dL_law_1498 rfl rfl ?_
  refine q_iload_n dL_law_1499 rfl rfl ?_
  refine z_iconst dL_law_1500 ?_
  refine z_iadd dL_law_1501 ?_
  refine q_sld (j := i + 2) dL_law_1502 (by omega) (by omega) hL ?_
  refine w_mod (MM := mX7_said) (as := [.int (iZ (xv xs (i + 1))), .int (iZ (xv xs (i + 2)))]) dL_law_1503 okX7_said mlL_195 rfl rfl rfl hm (fun σ2 J2 => ?_)
  exact q_icmp_eq (tgt := 1661) dL_law_1506 (by decide) (fun _ => K σ2 J2) (fun q => absurd rfl q)
set_option maxHeartbeats 4000000 in
set_option maxRecDepth 100000 in
theorem lw_whose {L i : Nat} {xs : Nat → Int32} (hL : L ≤ 3072) (hi : i + 6 ≤ L) {τ : gS} {c : Int} (hc : c ≤ 45000) {W V : wF} (J : JM τ W V c ∧ JC τ W V) (K : ∀ σ2, JJ σ2 (c + 80) → gE (gYL L xs) mL_law 1000 (0, 0, 398, 15794) lwR1 1661 [some (.ref 1000002), some (.ref 0), some (.ref 384), some (.int (iZ (i : Int)))] [] (hE σ2)) : gE (gYL L xs) mL_law 1000 (0, 0, 398, 15794) lwR1 1511 [some (.ref 1000002), some (.ref 0), some (.ref 384), some (.int (iZ (i : Int)))] [] (hE τ) := by
  refine q_aload_n dL_law_1511 rfl rfl ?_
  refine w_cls (MX := mX6_whose) (MM := mX7_whose) (as := []) dL_law_1512 okX6_whose mlL_196 rfl rfl rfl (j_whose (by decide) hc J ) (fun z σ1 hm => ?_)
  refine q_aload_n dL_law_1515 rfl rfl ?_
  refine w_mod (MM := mX7_whose) (as := []) dL_law_1516 okX7_whose mlL_199 rfl rfl rfl hm (fun σ2 J2 => ?_)
  exact q_icmp_eq (tgt := 1661) dL_law_1519 (by decide) (fun _ => K σ2 J2) (fun q => absurd rfl q)
set_option maxHeartbeats 4000000 in
set_option maxRecDepth 100000 in
theorem lw_ready {L i : Nat} {xs : Nat → Int32} (hL : L ≤ 3072) (hi : i + 6 ≤ L) {τ : gS} {c : Int} (hc : c ≤ 45000) {W V : wF} (J : JM τ W V c ∧ JC τ W V) (K : ∀ σ2, JJ σ2 (c + 80) → gE (gYL L xs) mL_law 1000 (0, 0, 398, 15794) lwR1 1661 [some (.ref 1000002), some (.ref 0), some (.ref 384), some (.int (iZ (i : Int)))] [] (hE σ2)) : gE (gYL L xs) mL_law 1000 (0, 0, 398, 15794) lwR1 1524 [some (.ref 1000002), some (.ref 0), some (.ref 384), some (.int (iZ (i : Int)))] [] (hE τ) := by
  refine q_aload_n dL_law_1524 rfl rfl ?_
  refine w_cls (MX := mX6_ready) (MM := mX7_ready) (as := []) dL_law_1525 okX6_ready mlL_200 rfl rfl rfl (j_ready (by decide) hc J ) (fun z σ1 hm => ?_)
  refine q_aload_n dL_law_1528 rfl rfl ?_
  refine w_mod (MM := mX7_ready) (as := []) dL_law_1529 okX7_ready mlL_203 rfl rfl rfl hm (fun σ2 J2 => ?_)
  exact q_icmp_eq (tgt := 1661) dL_law_1532 (by decide) (fun _ => K σ2 J2) (fun q => absurd rfl q)
set_option maxHeartbeats 4000000 in
set_option maxRecDepth 100000 in
theorem lw_balance {L i : Nat} {xs : Nat → Int32} (hL : L ≤ 3072) (hi : i + 6 ≤ L) {τ : gS} {c : Int} (hc : c ≤ 45000) {W V : wF} (J : JM τ W V c ∧ JC τ W V) (K : ∀ σ2, JJ σ2 (c + 80) → gE (gYL L xs) mL_law 1000 (0, 0, 398, 15794) lwR1 1661 [some (.ref 1000002), some (.ref 0), some (.ref 384), some (.int (iZ (i : Int)))] [] (hE σ2)) : gE (gYL L xs) mL_law 1000 (0, 0, 398, 15794) lwR1 1537 [some (.ref 1000002), some (.ref 0), some (.ref 384), some (.int (iZ (i : Int)))] [] (hE τ) := by
  refine q_aload_n dL_law_1537 rfl rfl ?_
  refine w_cls (MX := mX6_balance) (MM := mX7_balance) (as := []) dL_law_1538 okX6_balance mlL_204 rfl rfl rfl (j_balance (by decide) hc J ) (fun z σ1 hm => ?_)
  refine q_aload_n dL_law_1541 rfl rfl ?_
  refine w_mod (MM := mX7_balance) (as := []) dL_law_1542 okX7_balance mlL_207 rfl rfl rfl hm (fun σ2 J2 => ?_)
  exact q_icmp_eq (tgt := 1661) dL_law_1545 (by decide) (fun _ => K σ2 J2) (fun q => absurd rfl q)
set_option maxHeartbeats 4000000 in
set_option maxRecDepth 100000 in
theorem lw_middle {L i : Nat} {xs : Nat → Int32} (hL : L ≤ 3072) (hi : i + 6 ≤ L) {τ : gS} {c : Int} (hc : c ≤ 45000) {W V : wF} (J : JM τ W V c ∧ JC τ W V) (K : ∀ σ2, JJ σ2 (c + 80) → gE (gYL L xs) mL_law 1000 (0, 0, 398, 15794) lwR1 1661 [some (.ref 1000002), some (.ref 0), some (.ref 384), some (.int (iZ (i : Int)))] [] (hE σ2)) : gE (gYL L xs) mL_law 1000 (0, 0, 398, 15794) lwR1 1550 [some (.ref 1000002), some (.ref 0), some (.ref 384), some (.int (iZ (i : Int)))] [] (hE τ) := by
  refine q_aload_n dL_law_1550 rfl rfl ?_
  refine w_cls (MX := mX6_middle) (MM := mX7_middle) (as := []) dL_law_1551 okX6_middle mlL_208 rfl rfl rfl (j_middle (by decide) hc J ) (fun z σ1 hm => ?_)
  refine q_aload_n dL_law_1554 rfl rfl ?_
  refine w_mod (MM := mX7_middle) (as := []) dL_law_1555 okX7_middle mlL_211 rfl rfl rfl hm (fun σ2 J2 => ?_)
  exact q_icmp_eq (tgt := 1661) dL_law_1558 (by decide) (fun _ => K σ2 J2) (fun q => absurd rfl q)
set_option maxHeartbeats 4000000 in
set_option maxRecDepth 100000 in
theorem lw_kindest {L i : Nat} {xs : Nat → Int32} (hL : L ≤ 3072) (hi : i + 6 ≤ L) {τ : gS} {c : Int} (hc : c ≤ 45000) {W V : wF} (J : JM τ W V c ∧ JC τ W V) (K : ∀ σ2, JJ σ2 (c + 80) → gE (gYL L xs) mL_law 1000 (0, 0, 398, 15794) lwR1 1661 [some (.ref 1000002), some (.ref 0), some (.ref 384), some (.int (iZ (i : Int)))] [] (hE σ2)) : gE (gYL L xs) mL_law 1000 (0, 0, 398, 15794) lwR1 1563 [some (.ref 1000002), some (.ref 0), some (.ref 384), some (.int (iZ (i : Int)))] [] (hE τ) := by
  refine q_aload_n dL_law_1563 rfl rfl ?_
  refine w_cls (MX := mX6_kindest) (MM := mX7_kindest) (as := []) dL_law_1564 okX6_kindest mlL_212 rfl rfl rfl (j_kindest (by decide) hc J ) (fun z σ1 hm => ?_)
  refine q_aload_n dL_law_1567 rfl rfl ?_
  refine w_mod (MM := mX7_kindest) (as := []) dL_law_1568 okX7_kindest mlL_215 rfl rfl rfl hm (fun σ2 J2 => ?_)
  exact q_icmp_eq (tgt := 1661) dL_law_1571 (by decide) (fun _ => K σ2 J2) (fun q => absurd rfl q)
set_option maxHeartbeats 4000000 in
set_option maxRecDepth 100000 in
theorem lw_travelled {L i : Nat} {xs : Nat → Int32} (hL : L ≤ 3072) (hi : i + 6 ≤ L) {τ : gS} {c : Int} (hc : c ≤ 45000) {W V : wF} (J : JM τ W V c ∧ JC τ W V) (K : ∀ σ2, JJ σ2 (c + 80) → gE (gYL L xs) mL_law 1000 (0, 0, 398, 15794) lwR1 1661 [some (.ref 1000002), some (.ref 0), some (.ref 384), some (.int (iZ (i : Int)))] [] (hE σ2)) : gE (gYL L xs) mL_law 1000 (0, 0, 398, 15794) lwR1 1576 [some (.ref 1000002), some (.ref 0), some (.ref 384), some (.int (iZ (i : Int)))] [] (hE τ) := by
  refine q_aload_n dL_law_1576 rfl rfl ?_
  refine w_cls (MX := mX6_travelled) (MM := mX7_travelled) (as := []) dL_law_1577 okX6_travelled mlL_216 rfl rfl rfl (j_travelled (by decide) hc J ) (fun z σ1 hm => ?_)
  refine q_aload_n dL_law_1580 rfl rfl ?_
  refine w_mod (MM := mX7_travelled) (as := []) dL_law_1581 okX7_travelled mlL_219 rfl rfl rfl hm (fun σ2 J2 => ?_)
  exact q_icmp_eq (tgt := 1661) dL_law_1584 (by decide) (fun _ => K σ2 J2) (fun q => absurd rfl q)
set_option maxHeartbeats 4000000 in
set_option maxRecDepth 100000 in
theorem lw_ledger {L i : Nat} {xs : Nat → Int32} (hL : L ≤ 3072) (hi : i + 6 ≤ L) {τ : gS} {c : Int} (hc : c ≤ 45000) {W V : wF} (J : JM τ W V c ∧ JC τ W V) (K : ∀ σ2, JJ σ2 (c + 80) → gE (gYL L xs) mL_law 1000 (0, 0, 398, 15794) lwR1 1661 [some (.ref 1000002), some (.ref 0), some (.ref 384), some (.int (iZ (i : Int)))] [] (hE σ2)) : gE (gYL L xs) mL_law 1000 (0, 0, 398, 15794) lwR1 1589 [some (.ref 1000002), some (.ref 0), some (.ref 384), some (.int (iZ (i : Int)))] [] (hE τ) := by
  refine q_aload_n dL_law_1589 rfl rfl ?_
  refine q_aload_n dL_law_1590 rfl rfl ?_
  refine q_iload_n dL_law_1591 rfl rfl ?_
  refine z_iconst dL_law_1592 ?_
  refine z_iadd dL_law_1593 ?_
  refine q_sld (j := i + 1) dL_law_1594 (by omega) (by omega) hL ?_
  refine w_cls (MX := mX6_ledger) (MM := mX7_ledger) (as := [.int (iZ (xv xs (i + 1)))]) dL_law_1595 okX6_ledger mlL_220 rfl rfl rfl (j_ledger (by decide) hc J (xv_r xs _)) (fun z σ1 hm => ?_)
  refine q_aload_n dL_law_1598 rfl rfl ?_
  refine q_aload_n dL_law_1599 rfl rfl ?_
  refine q_iload_n dL_law_1600 rfl rfl ?_
  refine z_iconst dL_law_1601 ?_
  refine z_iadd dL_law_1602 ?_
  refine q_sld (j := i + 1) dL_law_1603 (by omega) (by omega) hL ?_
  refine w_mod (MM := mX7_ledger) (as := [.int (iZ (xv xs (i + 1)))]) dL_law_1604 okX7_ledger mlL_223 rfl rfl rfl hm (fun σ2 J2 => ?_)
  exact q_icmp_eq (tgt := 1661) dL_law_1607 (by decide) (fun _ => K σ2 J2) (fun q => absurd rfl q)
set_option maxHeartbeats 4000000 in
set_option maxRecDepth 100000 in
theorem lw_image {L i : Nat} {xs : Nat → Int32} (hL : L ≤ 3072) (hi : i + 6 ≤ L) {τ : gS} {c : Int} (hc : c ≤ 45000) {W V : wF} (J : JM τ W V c ∧ JC τ W V) (K : ∀ σ2, JJ σ2 (c + 80) → gE (gYL L xs) mL_law 1000 (0, 0, 398, 15794) lwR1 1661 [some (.ref 1000002), some (.ref 0), some (.ref 384), some (.int (iZ (i : Int)))] [] (hE σ2)) : gE (gYL L xs) mL_law 1000 (0, 0, 398, 15794) lwR1 1612 [some (.ref 1000002), some (.ref 0), some (.ref 384), some (.int (iZ (i : Int)))] [] (hE τ) := by
  refine q_aload_n dL_law_1612 rfl rfl ?_
  refine w_cls (MX := mX6_image) (MM := mX7_image) (as := []) dL_law_1613 okX6_image mlL_224 rfl rfl rfl (j_image (by decide) hc J ) (fun z σ1 hm => ?_)
  refine q_aload_n dL_law_1616 rfl rfl ?_
  refine w_mod (MM := mX7_image) (as := []) dL_law_1617 okX7_image mlL_227 rfl rfl rfl hm (fun σ2 J2 => ?_)
  exact q_icmp_eq (tgt := 1661) dL_law_1620 (by decide) (fun _ => K σ2 J2) (fun q => absurd rfl q)
set_option maxHeartbeats 4000000 in
set_option maxRecDepth 100000 in
theorem lw_back {L i : Nat} {xs : Nat → Int32} (hL : L ≤ 3072) (hi : i + 6 ≤ L) {τ : gS} {c : Int} (hc : c ≤ 45000) {W V : wF} (J : JM τ W V c ∧ JC τ W V) (K : ∀ σ2, JJ σ2 (c + 80) → gE (gYL L xs) mL_law 1000 (0, 0, 398, 15794) lwR1 1661 [some (.ref 1000002), some (.ref 0), some (.ref 384), some (.int (iZ (i : Int)))] [] (hE σ2)) : gE (gYL L xs) mL_law 1000 (0, 0, 398, 15794) lwR1 1625 [some (.ref 1000002), some (.ref 0), some (.ref 384), some (.int (iZ (i : Int)))] [] (hE τ) := by
  refine q_aload_n dL_law_1625 rfl rfl ?_
  refine w_cls (MX := mX6_back) (MM := mX7_back) (as := []) dL_law_1626 okX6_back mlL_228 rfl rfl rfl (j_back (by decide) hc J ) (fun z σ1 hm => ?_)
  refine q_aload_n dL_law_1629 rfl rfl ?_
  refine w_mod (MM := mX7_back) (as := []) dL_law_1630 okX7_back mlL_231 rfl rfl rfl hm (fun σ2 J2 => ?_)
  exact q_icmp_eq (tgt := 1661) dL_law_1633 (by decide) (fun _ => K σ2 J2) (fun q => absurd rfl q)
set_option maxHeartbeats 4000000 in
set_option maxRecDepth 100000 in
theorem lw_about {L i : Nat} {xs : Nat → Int32} (hL : L ≤ 3072) (hi : i + 6 ≤ L) {τ : gS} {c : Int} (hc : c ≤ 45000) {W V : wF} (J : JM τ W V c ∧ JC τ W V) (K : ∀ σ2, JJ σ2 (c + 80) → gE (gYL L xs) mL_law 1000 (0, 0, 398, 15794) lwR1 1661 [some (.ref 1000002), some (.ref 0), some (.ref 384), some (.int (iZ (i : Int)))] [] (hE σ2)) : gE (gYL L xs) mL_law 1000 (0, 0, 398, 15794) lwR1 1638 [some (.ref 1000002), some (.ref 0), some (.ref 384), some (.int (iZ (i : Int)))] [] (hE τ) := by
  refine q_aload_n dL_law_1638 rfl rfl ?_
  refine q_aload_n dL_law_1639 rfl rfl ?_
  refine q_iload_n dL_law_1640 rfl rfl ?_
  refine z_iconst dL_law_1641 ?_
  refine z_iadd dL_law_1642 ?_
  refine q_sld (j := i + 1) dL_law_1643 (by omega) (by omega) hL ?_
  refine w_cls (MX := mX6_about) (MM := mX7_about) (as := [.int (iZ (xv xs (i + 1)))]) dL_law_1644 okX6_about mlL_232 rfl rfl rfl (j_about (by decide) hc J (xv_r xs _)) (fun z σ1 hm => ?_)
  refine q_aload_n dL_law_1647 rfl rfl ?_
  refine q_aload_n dL_law_1648 rfl rfl ?_
  refine q_iload_n dL_law_1649 rfl rfl ?_
  refine z_iconst dL_law_1650 ?_
  refine z_iadd dL_law_1651 ?_
  refine q_sld (j := i + 1) dL_law_1652 (by omega) (by omega) hL ?_
  refine w_mod (MM := mX7_about) (as := [.int (iZ (xv xs (i + 1)))]) dL_law_1653 okX7_about mlL_235 rfl rfl rfl hm (fun σ2 J2 => ?_)
  exact q_icmp_eq (tgt := 1661) dL_law_1656 (by decide) (fun _ => K σ2 J2) (fun q => absurd rfl q)
