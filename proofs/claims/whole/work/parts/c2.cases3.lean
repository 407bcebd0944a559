/-! PURE: the law's cases, on -/
theorem lc_12 {xs : Nat → Int32} {N : Nat} {ρ : Rh} {x : Int32} (hG : GO ρ) (v1 : vp_in (x + 1) N) (v2 : vp_in (x + 2) N) (v3 : vp_in (x + 3) N) (v4 : vp_in (x + 4) N) (v5 : vp_in (x + 5) N) : vp_in (x + 1) N ∧ wp_L_penalty ρ.2.1 ρ.1 (xs (x + 1).toNatClampNeg) (fun (x239 : Int32) (σ240 : Mm) (L241 : List Nat) => ∀ ρ242 : Rh, ρ242 = (σ240, L241, ρ.2.2) → vp_in (x + 1) N ∧ wp_X7_penalty ρ242.2.2 (xs (x + 1).toNatClampNeg) (fun (x244 : Int32) (τ245 : Mm) => ∀ ρ246 : Rh, ρ246 = (ρ242.1, ρ242.2.1, τ245) → wp_X7_thrown ρ246.2.2  (fun (x247 : Int32) (τ248 : Mm) => ∀ ρ249 : Rh, ρ249 = (ρ246.1, ρ246.2.1, τ248) → ((x247 = x239 → (∃ J251 : Rh → Prop, (∀ (σ250 : Rh), J251 σ250 → GO σ250) ∧ ((¬ x239 = 0 → J251 ρ249) ∧ (¬ (¬ x239 = 0) → vp_in 0 1 ∧ (((gJ ρ249.1 17 (0 : Int32).toNatClampNeg) = x244.toInt64 → J251 ρ249) ∧ (¬ ((gJ ρ249.1 17 (0 : Int32).toNatClampNeg) = x244.toInt64) → False)))))) ∧ (¬ (x247 = x239) → False))))) := by
  obtain ⟨C, hI, hc, hR⟩ := hG
  refine ⟨v1, K_penalty hI hR (fun z σ' L' R' ρ1 h1 => ?_) (fun d1 σ' L' R' O' ρ1 h1 => ?_)⟩
  · subst h1
    refine ⟨v1, M_penalty hc (fun _ τ' c' t' ρ2 h2 => ?_) (fun d1 => absurd d1 z)⟩
    subst h2
    intro ρ3 h3
    subst h3
    exact tailI t' ⟨C, hI, c', R'⟩ (fun y => absurd y (by decide))
  · subst h1
    refine ⟨v1, M_penalty hc (fun z => absurd d1 z) (fun _ τ' y c' t' w ρ2 h2 => ?_)⟩
    subst h2
    intro ρ3 h3
    subst h3
    exact tailI t' ⟨_, Inv_pen hI d1, c', R'⟩ (fun _ => by rw [i2lT w]; exact O')
theorem lc_13 {xs : Nat → Int32} {N : Nat} {ρ : Rh} {x : Int32} (hG : GO ρ) (v1 : vp_in (x + 1) N) (v2 : vp_in (x + 2) N) (v3 : vp_in (x + 3) N) (v4 : vp_in (x + 4) N) (v5 : vp_in (x + 5) N) : vp_in (x + 1) N ∧ vp_in (x + 2) N ∧ vp_in (x + 3) N ∧ vp_in (x + 4) N ∧ (∃ J259 : Rh → Int32 → Prop, (∀ (σ257 : Rh) (x258 : Int32), J259 σ257 x258 → wp_L_interest σ257.2.1 σ257.1 (xs (x + 1).toNatClampNeg) (xs (x + 2).toNatClampNeg) (xs (x + 3).toNatClampNeg) x258 (fun (x260 : Int32) (σ261 : Mm) (L262 : List Nat) => ∀ ρ263 : Rh, ρ263 = (σ261, L262, σ257.2.2) → vp_in (x + 1) N ∧ vp_in (x + 2) N ∧ vp_in (x + 3) N ∧ vp_in (x + 4) N ∧ (∃ J270 : Rh → Int32 → Prop, (∀ (σ268 : Rh) (x269 : Int32), J270 σ268 x269 → wp_X7_interest σ268.2.2 (xs (x + 1).toNatClampNeg) (xs (x + 2).toNatClampNeg) (xs (x + 3).toNatClampNeg) x269 (fun (x271 : Int32) (τ272 : Mm) => ∀ ρ273 : Rh, ρ273 = (σ268.1, σ268.2.1, τ272) → wp_X7_thrown ρ273.2.2  (fun (x274 : Int32) (τ275 : Mm) => ∀ ρ276 : Rh, ρ276 = (ρ273.1, ρ273.2.1, τ275) → ((x274 = x260 → (∃ J278 : Rh → Prop, (∀ (σ277 : Rh), J278 σ277 → GO σ277) ∧ ((¬ x260 = 0 → J278 ρ276) ∧ (¬ (¬ x260 = 0) → vp_in 0 1 ∧ (((gJ ρ276.1 17 (0 : Int32).toNatClampNeg) = x271.toInt64 → J278 ρ276) ∧ (¬ ((gJ ρ276.1 17 (0 : Int32).toNatClampNeg) = x271.toInt64) → False)))))) ∧ (¬ (x274 = x260) → False))))) ∧ (((xs (x + 4).toNatClampNeg) = 0 → J270 ρ263 0) ∧ (¬ ((xs (x + 4).toNatClampNeg) = 0) → J270 ρ263 1))))) ∧ (((xs (x + 4).toNatClampNeg) = 0 → J259 ρ 0) ∧ (¬ ((xs (x + 4).toNatClampNeg) = 0) → J259 ρ 1))) := by
  obtain ⟨C, hI, hc, hR⟩ := hG
  by_cases hb : xs (x + 4).toNatClampNeg = 0
  · refine ⟨v1, v2, v3, v4, jn2 ⟨fun _ => K_interest hI hR (fun z σ' L' R' ρ1 h1 => ?_) (fun d1 σ' L' R' O' ρ1 h1 => ?_), fun w => absurd hb w⟩⟩
    · subst h1
      refine ⟨v1, v2, v3, v4, jn2 ⟨fun _ => M_interest hc hI (fun _ τ' c' t' ρ2 h2 => ?_) (fun d1 => absurd d1 z), fun w => absurd hb w⟩⟩
      subst h2
      intro ρ3 h3
      subst h3
      exact tailI t' ⟨C, hI, c', R'⟩ (fun y => absurd y (by decide))
    · subst h1
      refine ⟨v1, v2, v3, v4, jn2 ⟨fun _ => M_interest hc hI (fun z => absurd d1 z) (fun _ τ' c' t' ρ2 h2 => ?_), fun w => absurd hb w⟩⟩
      subst h2
      intro ρ3 h3
      subst h3
      exact tailI t' ⟨C, hI, c', R'⟩ (fun _ => by rw [i2l]; exact O')
  · refine ⟨v1, v2, v3, v4, jn2 ⟨fun w => absurd w hb, fun _ => K_interest hI hR (fun z σ' L' R' ρ1 h1 => ?_) (fun d1 σ' L' R' O' ρ1 h1 => ?_)⟩⟩
    · subst h1
      refine ⟨v1, v2, v3, v4, jn2 ⟨fun w => absurd w hb, fun _ => M_interest hc hI (fun _ τ' c' t' ρ2 h2 => ?_) (fun d1 => absurd d1 z)⟩⟩
      subst h2
      intro ρ3 h3
      subst h3
      exact tailI t' ⟨C, hI, c', R'⟩ (fun y => absurd y (by decide))
    · subst h1
      refine ⟨v1, v2, v3, v4, jn2 ⟨fun w => absurd w hb, fun _ => M_interest hc hI (fun z => absurd d1 z) (fun _ τ' c' t' ρ2 h2 => ?_)⟩⟩
      subst h2
      intro ρ3 h3
      subst h3
      exact tailI t' ⟨C, hI, c', R'⟩ (fun _ => by rw [i2l]; exact O')
theorem lc_14 {xs : Nat → Int32} {N : Nat} {ρ : Rh} {x : Int32} (hG : GO ρ) (v1 : vp_in (x + 1) N) (v2 : vp_in (x + 2) N) (v3 : vp_in (x + 3) N) (v4 : vp_in (x + 4) N) (v5 : vp_in (x + 5) N) : vp_in (x + 1) N ∧ vp_in (x + 2) N ∧ wp_L_revenue ρ.2.1 ρ.1 (xs (x + 1).toNatClampNeg) (xs (x + 2).toNatClampNeg) (fun (x282 : Int32) (σ283 : Mm) (L284 : List Nat) => ∀ ρ285 : Rh, ρ285 = (σ283, L284, ρ.2.2) → vp_in (x + 1) N ∧ vp_in (x + 2) N ∧ wp_X7_revenue ρ285.2.2 (xs (x + 1).toNatClampNeg) (xs (x + 2).toNatClampNeg) (fun (x288 : Int32) (τ289 : Mm) => ∀ ρ290 : Rh, ρ290 = (ρ285.1, ρ285.2.1, τ289) → wp_X7_thrown ρ290.2.2  (fun (x291 : Int32) (τ292 : Mm) => ∀ ρ293 : Rh, ρ293 = (ρ290.1, ρ290.2.1, τ292) → ((x291 = x282 → (∃ J295 : Rh → Prop, (∀ (σ294 : Rh), J295 σ294 → GO σ294) ∧ ((¬ x282 = 0 → J295 ρ293) ∧ (¬ (¬ x282 = 0) → vp_in 0 1 ∧ (((gJ ρ293.1 17 (0 : Int32).toNatClampNeg) = x288.toInt64 → J295 ρ293) ∧ (¬ ((gJ ρ293.1 17 (0 : Int32).toNatClampNeg) = x288.toInt64) → False)))))) ∧ (¬ (x291 = x282) → False))))) := by
  obtain ⟨C, hI, hc, hR⟩ := hG
  refine ⟨v1, v2, K_revenue hI hR (fun z σ' L' R' ρ1 h1 => ?_) (fun d1 σ' L' R' O' ρ1 h1 => ?_)⟩
  · subst h1
    refine ⟨v1, v2, M_revenue hc hI (fun _ τ' c' t' ρ2 h2 => ?_) (fun d1 => absurd d1 z)⟩
    subst h2
    intro ρ3 h3
    subst h3
    exact tailI t' ⟨C, hI, c', R'⟩ (fun y => absurd y (by decide))
  · subst h1
    refine ⟨v1, v2, M_revenue hc hI (fun z => absurd d1 z) (fun _ τ' c' t' ρ2 h2 => ?_)⟩
    subst h2
    intro ρ3 h3
    subst h3
    exact tailI t' ⟨C, hI, c', R'⟩ (fun _ => by rw [i2l]; exact O')
theorem lc_15 {xs : Nat → Int32} {N : Nat} {ρ : Rh} {x : Int32} (hG : GO ρ) (v1 : vp_in (x + 1) N) (v2 : vp_in (x + 2) N) (v3 : vp_in (x + 3) N) (v4 : vp_in (x + 4) N) (v5 : vp_in (x + 5) N) : vp_in (x + 1) N ∧ vp_in (x + 2) N ∧ vp_in (x + 3) N ∧ wp_L_due ρ.2.1 ρ.1 (xs (x + 1).toNatClampNeg) (xs (x + 2).toNatClampNeg) (xs (x + 3).toNatClampNeg) (fun (x300 : Int32) (σ301 : Mm) (L302 : List Nat) => ∀ ρ303 : Rh, ρ303 = (σ301, L302, ρ.2.2) → vp_in (x + 1) N ∧ vp_in (x + 2) N ∧ vp_in (x + 3) N ∧ wp_X7_due ρ303.2.2 (xs (x + 1).toNatClampNeg) (xs (x + 2).toNatClampNeg) (xs (x + 3).toNatClampNeg) (fun (x307 : Int32) (τ308 : Mm) => ∀ ρ309 : Rh, ρ309 = (ρ303.1, ρ303.2.1, τ308) → wp_X7_thrown ρ309.2.2  (fun (x310 : Int32) (τ311 : Mm) => ∀ ρ312 : Rh, ρ312 = (ρ309.1, ρ309.2.1, τ311) → ((x310 = x300 → (∃ J314 : Rh → Prop, (∀ (σ313 : Rh), J314 σ313 → GO σ313) ∧ ((¬ x300 = 0 → J314 ρ312) ∧ (¬ (¬ x300 = 0) → vp_in 0 1 ∧ (((gJ ρ312.1 17 (0 : Int32).toNatClampNeg) = x307.toInt64 → J314 ρ312) ∧ (¬ ((gJ ρ312.1 17 (0 : Int32).toNatClampNeg) = x307.toInt64) → False)))))) ∧ (¬ (x310 = x300) → False))))) := by
  obtain ⟨C, hI, hc, hR⟩ := hG
  refine ⟨v1, v2, v3, K_due hI hR (fun z σ' L' R' ρ1 h1 => ?_) (fun d1 σ' L' R' O' ρ1 h1 => ?_)⟩
  · subst h1
    refine ⟨v1, v2, v3, M_due hc hI (fun _ τ' c' t' ρ2 h2 => ?_) (fun d1 => absurd d1 z)⟩
    subst h2
    intro ρ3 h3
    subst h3
    exact tailI t' ⟨C, hI, c', R'⟩ (fun y => absurd y (by decide))
  · subst h1
    refine ⟨v1, v2, v3, M_due hc hI (fun z => absurd d1 z) (fun _ τ' c' t' ρ2 h2 => ?_)⟩
    subst h2
    intro ρ3 h3
    subst h3
    exact tailI t' ⟨C, hI, c', R'⟩ (fun _ => by rw [i2l]; exact O')
theorem lc_16 {xs : Nat → Int32} {N : Nat} {ρ : Rh} {x : Int32} (hG : GO ρ) (v1 : vp_in (x + 1) N) (v2 : vp_in (x + 2) N) (v3 : vp_in (x + 3) N) (v4 : vp_in (x + 4) N) (v5 : vp_in (x + 5) N) : vp_in (x + 1) N ∧ vp_in (x + 2) N ∧ vp_in (x + 3) N ∧ wp_L_balance ρ.2.1 ρ.1 (xs (x + 1).toNatClampNeg) (xs (x + 2).toNatClampNeg) (xs (x + 3).toNatClampNeg) (fun (x319 : Int32) (σ320 : Mm) (L321 : List Nat) => ∀ ρ322 : Rh, ρ322 = (σ320, L321, ρ.2.2) → vp_in (x + 1) N ∧ vp_in (x + 2) N ∧ vp_in (x + 3) N ∧ wp_X7_balance ρ322.2.2 (xs (x + 1).toNatClampNeg) (xs (x + 2).toNatClampNeg) (xs (x + 3).toNatClampNeg) (fun (y326 : Int64) (τ327 : Mm) => ∀ ρ328 : Rh, ρ328 = (ρ322.1, ρ322.2.1, τ327) → wp_X7_thrown ρ328.2.2  (fun (x329 : Int32) (τ330 : Mm) => ∀ ρ331 : Rh, ρ331 = (ρ328.1, ρ328.2.1, τ330) → ((x329 = x319 → (∃ J333 : Rh → Prop, (∀ (σ332 : Rh), J333 σ332 → GO σ332) ∧ ((¬ x319 = 0 → J333 ρ331) ∧ (¬ (¬ x319 = 0) → vp_in 0 1 ∧ (((gJ ρ331.1 17 (0 : Int32).toNatClampNeg) = y326 → J333 ρ331) ∧ (¬ ((gJ ρ331.1 17 (0 : Int32).toNatClampNeg) = y326) → False)))))) ∧ (¬ (x329 = x319) → False))))) := by
  obtain ⟨C, hI, hc, hR⟩ := hG
  refine ⟨v1, v2, v3, K_balance hI hR (fun z σ' L' R' ρ1 h1 => ?_) (fun d1 σ' L' R' O' ρ1 h1 => ?_)⟩
  · subst h1
    refine ⟨v1, v2, v3, M_balance hc hI (fun _ τ' c' t' ρ2 h2 => ?_) (fun d1 => absurd d1 z)⟩
    subst h2
    intro ρ3 h3
    subst h3
    exact tailL t' ⟨C, hI, c', R'⟩ (fun y => absurd y (by decide))
  · subst h1
    refine ⟨v1, v2, v3, M_balance hc hI (fun z => absurd d1 z) (fun _ τ' c' t' ρ2 h2 => ?_)⟩
    subst h2
    intro ρ3 h3
    subst h3
    exact tailL t' ⟨C, hI, c', R'⟩ (fun _ => O')
theorem lc_17 {xs : Nat → Int32} {N : Nat} {ρ : Rh} {x : Int32} (hG : GO ρ) (v1 : vp_in (x + 1) N) (v2 : vp_in (x + 2) N) (v3 : vp_in (x + 3) N) (v4 : vp_in (x + 4) N) (v5 : vp_in (x + 5) N) : vp_in (x + 1) N ∧ vp_in (x + 2) N ∧ wp_L_agrees ρ.2.1 ρ.1 (xs (x + 1).toNatClampNeg) (xs (x + 2).toNatClampNeg) (fun (x337 : Int32) (σ338 : Mm) (L339 : List Nat) => ∀ ρ340 : Rh, ρ340 = (σ338, L339, ρ.2.2) → vp_in (x + 1) N ∧ vp_in (x + 2) N ∧ wp_X7_agrees ρ340.2.2 (xs (x + 1).toNatClampNeg) (xs (x + 2).toNatClampNeg) (fun (x343 : Int32) (τ344 : Mm) => ∀ ρ345 : Rh, ρ345 = (ρ340.1, ρ340.2.1, τ344) → wp_X7_thrown ρ345.2.2  (fun (x346 : Int32) (τ347 : Mm) => ∀ ρ348 : Rh, ρ348 = (ρ345.1, ρ345.2.1, τ347) → ((x346 = x337 → (∃ J350 : Rh → Prop, (∀ (σ349 : Rh), J350 σ349 → GO σ349) ∧ ((¬ x337 = 0 → J350 ρ348) ∧ (¬ (¬ x337 = 0) → vp_in 0 1 ∧ (∃ J354 : Rh → Int64 → Prop, (∀ (σ352 : Rh) (y353 : Int64), J354 σ352 y353 → (((gJ ρ348.1 17 (0 : Int32).toNatClampNeg) = y353 → J350 σ352) ∧ (¬ ((gJ ρ348.1 17 (0 : Int32).toNatClampNeg) = y353) → False))) ∧ ((x343 = 0 → J354 ρ348 0) ∧ (¬ (x343 = 0) → J354 ρ348 1))))))) ∧ (¬ (x346 = x337) → False))))) := by
  obtain ⟨C, hI, hc, hR⟩ := hG
  refine ⟨v1, v2, K_agrees hI hR (fun z σ' L' R' ρ1 h1 => ?_) (fun d1 σ' L' R' O' ρ1 h1 => ?_)⟩
  · subst h1
    refine ⟨v1, v2, M_agrees hc hI (fun _ τ' c' t' ρ2 h2 => ?_) (fun d1 => absurd d1 z)⟩
    subst h2
    intro ρ3 h3
    subst h3
    exact tailBn t' ⟨C, hI, c', R'⟩ (by decide)
  · subst h1
    refine ⟨v1, v2, M_agrees hc hI (fun z => absurd d1 z) (fun _ τ' c' t' ρ2 h2 => ?_)⟩
    subst h2
    intro ρ3 h3
    subst h3
    exact tailB t' ⟨C, hI, c', R'⟩ rfl (fun _ => O')
