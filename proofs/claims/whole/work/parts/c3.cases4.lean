/-! PURE: the law's cases, on -/
theorem lc_18 {xs : Nat → Int32} {N : Nat} {ρ : Rh} {x : Int32} (hG : GO ρ) (v1 : vp_in (x + 1) N) (v2 : vp_in (x + 2) N) (v3 : vp_in (x + 3) N) (v4 : vp_in (x + 4) N) (v5 : vp_in (x + 5) N) : vp_in (x + 1) N ∧ vp_in (x + 2) N ∧ (∃ J359 : Rh → Int32 → Prop, (∀ (σ357 : Rh) (x358 : Int32), J359 σ357 x358 → wp_L_suspend σ357.2.1 σ357.1 (xs (x + 1).toNatClampNeg) x358 (fun (x360 : Int32) (σ361 : Mm) (L362 : List Nat) => ∀ ρ363 : Rh, ρ363 = (σ361, L362, σ357.2.2) → vp_in (x + 1) N ∧ vp_in (x + 2) N ∧ (∃ J368 : Rh → Int32 → Prop, (∀ (σ366 : Rh) (x367 : Int32), J368 σ366 x367 → wp_X7_suspend σ366.2.2 (xs (x + 1).toNatClampNeg) x367 (fun (x369 : Int32) (τ370 : Mm) => ∀ ρ371 : Rh, ρ371 = (σ366.1, σ366.2.1, τ370) → wp_X7_thrown ρ371.2.2  (fun (x372 : Int32) (τ373 : Mm) => ∀ ρ374 : Rh, ρ374 = (ρ371.1, ρ371.2.1, τ373) → ((x372 = x360 → (∃ J376 : Rh → Prop, (∀ (σ375 : Rh), J376 σ375 → GO σ375) ∧ ((¬ x360 = 0 → J376 ρ374) ∧ (¬ (¬ x360 = 0) → vp_in 0 1 ∧ (∃ J380 : Rh → Int64 → Prop, (∀ (σ378 : Rh) (y379 : Int64), J380 σ378 y379 → (((gJ ρ374.1 17 (0 : Int32).toNatClampNeg) = y379 → J376 σ378) ∧ (¬ ((gJ ρ374.1 17 (0 : Int32).toNatClampNeg) = y379) → False))) ∧ ((x369 = 0 → J380 ρ374 0) ∧ (¬ (x369 = 0) → J380 ρ374 1))))))) ∧ (¬ (x372 = x360) → False))))) ∧ (((xs (x + 2).toNatClampNeg) = 0 → J368 ρ363 0) ∧ (¬ ((xs (x + 2).toNatClampNeg) = 0) → J368 ρ363 1))))) ∧ (((xs (x + 2).toNatClampNeg) = 0 → J359 ρ 0) ∧ (¬ ((xs (x + 2).toNatClampNeg) = 0) → J359 ρ 1))) := by
  obtain ⟨C, hI, hc, hR⟩ := hG
  by_cases hb : xs (x + 2).toNatClampNeg = 0
  · refine ⟨v1, v2, jn2 ⟨fun _ => K_suspend hI hR (by decide) (fun z σ' L' R' ρ1 h1 => ?_) (fun d1 σ' L' R' O' ρ1 h1 => ?_), fun w => absurd hb w⟩⟩
    · subst h1
      refine ⟨v1, v2, jn2 ⟨fun _ => M_suspend hc hI zb_0 (fun _ τ' c' t' ρ2 h2 => ?_) (fun d1 => absurd d1 z), fun w => absurd hb w⟩⟩
      subst h2
      intro ρ3 h3
      subst h3
      exact tailBn t' ⟨C, hI, c', R'⟩ (by decide)
    · subst h1
      refine ⟨v1, v2, jn2 ⟨fun _ => M_suspend hc hI zb_0 (fun z => absurd d1 z) (fun _ τ' c' t' ρ2 h2 => ?_), fun w => absurd hb w⟩⟩
      subst h2
      intro ρ3 h3
      subst h3
      exact tailB (d := C 222 _ = 1) t' ⟨_, Inv_sus hI (by decide), c', R'⟩ (su_bz (hI.su _ (by omega))) (fun _ => O')
  · refine ⟨v1, v2, jn2 ⟨fun w => absurd w hb, fun _ => K_suspend hI hR (by decide) (fun z σ' L' R' ρ1 h1 => ?_) (fun d1 σ' L' R' O' ρ1 h1 => ?_)⟩⟩
    · subst h1
      refine ⟨v1, v2, jn2 ⟨fun w => absurd w hb, fun _ => M_suspend hc hI zb_1 (fun _ τ' c' t' ρ2 h2 => ?_) (fun d1 => absurd d1 z)⟩⟩
      subst h2
      intro ρ3 h3
      subst h3
      exact tailBn t' ⟨C, hI, c', R'⟩ (by decide)
    · subst h1
      refine ⟨v1, v2, jn2 ⟨fun w => absurd w hb, fun _ => M_suspend hc hI zb_1 (fun z => absurd d1 z) (fun _ τ' c' t' ρ2 h2 => ?_)⟩⟩
      subst h2
      intro ρ3 h3
      subst h3
      exact tailB (d := C 222 _ = 1) t' ⟨_, Inv_sus hI (by decide), c', R'⟩ (su_bz (hI.su _ (by omega))) (fun _ => O')
theorem lc_19 {xs : Nat → Int32} {N : Nat} {ρ : Rh} {x : Int32} (hG : GO ρ) (v1 : vp_in (x + 1) N) (v2 : vp_in (x + 2) N) (v3 : vp_in (x + 3) N) (v4 : vp_in (x + 4) N) (v5 : vp_in (x + 5) N) : vp_in (x + 1) N ∧ wp_L_least ρ.2.1 ρ.1 (xs (x + 1).toNatClampNeg) (fun (x382 : Int32) (σ383 : Mm) (L384 : List Nat) => ∀ ρ385 : Rh, ρ385 = (σ383, L384, ρ.2.2) → vp_in (x + 1) N ∧ wp_X7_least ρ385.2.2 (xs (x + 1).toNatClampNeg) (fun (x387 : Int32) (τ388 : Mm) => ∀ ρ389 : Rh, ρ389 = (ρ385.1, ρ385.2.1, τ388) → wp_X7_thrown ρ389.2.2  (fun (x390 : Int32) (τ391 : Mm) => ∀ ρ392 : Rh, ρ392 = (ρ389.1, ρ389.2.1, τ391) → ((x390 = x382 → (∃ J394 : Rh → Prop, (∀ (σ393 : Rh), J394 σ393 → GO σ393) ∧ ((¬ x382 = 0 → J394 ρ392) ∧ (¬ (¬ x382 = 0) → vp_in 0 1 ∧ (((gJ ρ392.1 17 (0 : Int32).toNatClampNeg) = x387.toInt64 → J394 ρ392) ∧ (¬ ((gJ ρ392.1 17 (0 : Int32).toNatClampNeg) = x387.toInt64) → False)))))) ∧ (¬ (x390 = x382) → False))))) := by
  obtain ⟨C, hI, hc, hR⟩ := hG
  refine ⟨v1, K_least hI hR (fun z σ' L' R' ρ1 h1 => ?_) (fun d1 σ' L' R' O' ρ1 h1 => ?_)⟩
  · subst h1
    refine ⟨v1, M_least hc (fun _ τ' c' t' ρ2 h2 => ?_) (fun d1 => absurd d1 z)⟩
    subst h2
    intro ρ3 h3
    subst h3
    exact tailI t' ⟨C, hI, c', R'⟩ (fun y => absurd y (by decide))
  · subst h1
    refine ⟨v1, M_least hc (fun z => absurd d1 z) (fun _ τ' y c' t' w ρ2 h2 => ?_)⟩
    subst h2
    intro ρ3 h3
    subst h3
    exact tailI t' ⟨_, Inv_lst hI d1, c', R'⟩ (fun _ => by rw [i2lT w]; exact O')
theorem lc_20 {xs : Nat → Int32} {N : Nat} {ρ : Rh} {x : Int32} (hG : GO ρ) (v1 : vp_in (x + 1) N) (v2 : vp_in (x + 2) N) (v3 : vp_in (x + 3) N) (v4 : vp_in (x + 4) N) (v5 : vp_in (x + 5) N) : wp_X6_payDay ρ.2.1 ρ.1 (fun (y396 : Int64) (σ397 : Mm) => ∀ ρ398 : Rh, ρ398 = (σ397, ρ.2.1, ρ.2.2) → wp_X7_payDay ρ398.2.2  (fun (y399 : Int64) (τ400 : Mm) => ∀ ρ401 : Rh, ρ401 = (ρ398.1, ρ398.2.1, τ400) → ((y396 = y399 → GO ρ401) ∧ (¬ (y396 = y399) → False)))) := by
  obtain ⟨C, hI, hc, hR⟩ := hG
  refine k_payDay hI hR (fun σ' R' ρ1 h1 => ?_)
  subst h1
  refine M_payDay hc hI (fun τ' c' _ ρ2 h2 => ?_)
  subst h2
  exact ⟨fun _ => ⟨_, Inv_pay hI, c', R'⟩, fun z => z rfl⟩
theorem lc_21 {xs : Nat → Int32} {N : Nat} {ρ : Rh} {x : Int32} (hG : GO ρ) (v1 : vp_in (x + 1) N) (v2 : vp_in (x + 2) N) (v3 : vp_in (x + 3) N) (v4 : vp_in (x + 4) N) (v5 : vp_in (x + 5) N) : vp_in (x + 1) N ∧ wp_L_owed ρ.2.1 ρ.1 (xs (x + 1).toNatClampNeg) (fun (x403 : Int32) (σ404 : Mm) (L405 : List Nat) => ∀ ρ406 : Rh, ρ406 = (σ404, L405, ρ.2.2) → vp_in (x + 1) N ∧ wp_X7_owed ρ406.2.2 (xs (x + 1).toNatClampNeg) (fun (y408 : Int64) (τ409 : Mm) => ∀ ρ410 : Rh, ρ410 = (ρ406.1, ρ406.2.1, τ409) → wp_X7_thrown ρ410.2.2  (fun (x411 : Int32) (τ412 : Mm) => ∀ ρ413 : Rh, ρ413 = (ρ410.1, ρ410.2.1, τ412) → ((x411 = x403 → (∃ J415 : Rh → Prop, (∀ (σ414 : Rh), J415 σ414 → GO σ414) ∧ ((¬ x403 = 0 → J415 ρ413) ∧ (¬ (¬ x403 = 0) → vp_in 0 1 ∧ (((gJ ρ413.1 17 (0 : Int32).toNatClampNeg) = y408 → J415 ρ413) ∧ (¬ ((gJ ρ413.1 17 (0 : Int32).toNatClampNeg) = y408) → False)))))) ∧ (¬ (x411 = x403) → False))))) := by
  obtain ⟨C, hI, hc, hR⟩ := hG
  refine ⟨v1, K_owed hI hR (fun z σ' L' R' ρ1 h1 => ?_) (fun d1 σ' L' R' O' ρ1 h1 => ?_)⟩
  · subst h1
    refine ⟨v1, M_owed hc hI (fun _ τ' c' t' ρ2 h2 => ?_) (fun d1 => absurd d1 z)⟩
    subst h2
    intro ρ3 h3
    subst h3
    exact tailL t' ⟨C, hI, c', R'⟩ (fun y => absurd y (by decide))
  · subst h1
    refine ⟨v1, M_owed hc hI (fun z => absurd d1 z) (fun _ τ' c' t' ρ2 h2 => ?_)⟩
    subst h2
    intro ρ3 h3
    subst h3
    exact tailL t' ⟨C, hI, c', R'⟩ (fun _ => O')
theorem lc_22 {xs : Nat → Int32} {N : Nat} {ρ : Rh} {x : Int32} (hG : GO ρ) (v1 : vp_in (x + 1) N) (v2 : vp_in (x + 2) N) (v3 : vp_in (x + 3) N) (v4 : vp_in (x + 4) N) (v5 : vp_in (x + 5) N) : vp_in (x + 1) N ∧ wp_L_paid ρ.2.1 ρ.1 (xs (x + 1).toNatClampNeg) (fun (x418 : Int32) (σ419 : Mm) (L420 : List Nat) => ∀ ρ421 : Rh, ρ421 = (σ419, L420, ρ.2.2) → vp_in (x + 1) N ∧ wp_X7_paid ρ421.2.2 (xs (x + 1).toNatClampNeg) (fun (y423 : Int64) (τ424 : Mm) => ∀ ρ425 : Rh, ρ425 = (ρ421.1, ρ421.2.1, τ424) → wp_X7_thrown ρ425.2.2  (fun (x426 : Int32) (τ427 : Mm) => ∀ ρ428 : Rh, ρ428 = (ρ425.1, ρ425.2.1, τ427) → ((x426 = x418 → (∃ J430 : Rh → Prop, (∀ (σ429 : Rh), J430 σ429 → GO σ429) ∧ ((¬ x418 = 0 → J430 ρ428) ∧ (¬ (¬ x418 = 0) → vp_in 0 1 ∧ (((gJ ρ428.1 17 (0 : Int32).toNatClampNeg) = y423 → J430 ρ428) ∧ (¬ ((gJ ρ428.1 17 (0 : Int32).toNatClampNeg) = y423) → False)))))) ∧ (¬ (x426 = x418) → False))))) := by
  obtain ⟨C, hI, hc, hR⟩ := hG
  refine ⟨v1, K_paid hR (fun z σ' L' R' ρ1 h1 => ?_) (fun d1 σ' L' R' O' ρ1 h1 => ?_)⟩
  · subst h1
    refine ⟨v1, M_paid hc (fun _ τ' c' t' ρ2 h2 => ?_) (fun d1 => absurd d1 z)⟩
    subst h2
    intro ρ3 h3
    subst h3
    exact tailL t' ⟨C, hI, c', R'⟩ (fun y => absurd y (by decide))
  · subst h1
    refine ⟨v1, M_paid hc (fun z => absurd d1 z) (fun _ τ' c' t' ρ2 h2 => ?_)⟩
    subst h2
    intro ρ3 h3
    subst h3
    exact tailL t' ⟨C, hI, c', R'⟩ (fun _ => O')
