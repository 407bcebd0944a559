/-! PURE: the law's cases, one by one -/
def GO (ρ : Rh) : Prop := ∃ C, Inv C ∧ core ρ.2.2 = C ∧ Rel ρ.2.1 ρ.1 C
theorem rf_x3 {c1 c2 c3 : Prop} [Decidable c1] [Decidable c2] [Decidable c3] {x : Int32} (z : ¬ (c1 ∧ c2 ∧ c3)) (h1 : ¬ c1 → x = 1) (h2 : c1 → ¬ c2 → x = 2) (h3 : c1 → c2 → x = 3) : rf c1 c2 c3 = x := by
  by_cases y1 : c1
  · by_cases y2 : c2
    · rw [rf_3 y1 y2 (fun w => z ⟨y1, y2, w⟩), h3 y1 y2]
    · rw [rf_2 y1 y2, h2 y1 y2]
  · rw [rf_1 y1, h1 y1]
theorem rf_x2 {c1 c2 : Prop} [Decidable c1] [Decidable c2] {x : Int32} (z : ¬ (c1 ∧ c2 ∧ True)) (h1 : ¬ c1 → x = 1) (h2 : c1 → x = 2) : rf c1 c2 True = x := rf_x3 z h1 (fun a _ => h2 a) (fun a b => absurd ⟨a, b, trivial⟩ z)
theorem v01 : vp_in 0 1 := vin (by rw [t_0]; omega) (by rw [t_0]; omega)
theorem tailI {J4 : Rh → Prop} {ρ : Rh} {x7 x12 x15 : Int32} (h15 : x15 = x7) (hJ : J4 ρ) (h : x7 = 0 → gJ ρ.1 17 0 = x12.toInt64) : (x15 = x7 → (∃ J19 : Rh → Prop, (∀ (σ18 : Rh), J19 σ18 → J4 σ18) ∧ ((¬ x7 = 0 → J19 ρ) ∧ (¬ (¬ x7 = 0) → vp_in 0 1 ∧ (((gJ ρ.1 17 (0 : Int32).toNatClampNeg) = x12.toInt64 → J19 ρ) ∧ (¬ ((gJ ρ.1 17 (0 : Int32).toNatClampNeg) = x12.toInt64) → False)))))) ∧ (¬ (x15 = x7) → False) :=
  ⟨fun _ => ⟨J4, fun _ h => h, fun _ => hJ, fun z => ⟨v01, fun _ => hJ, fun z2 => z2 (h (Decidable.not_not.mp z))⟩⟩, fun z => z h15⟩
theorem tailL {J4 : Rh → Prop} {ρ : Rh} {x7 x15 : Int32} {y : Int64} (h15 : x15 = x7) (hJ : J4 ρ) (h : x7 = 0 → gJ ρ.1 17 0 = y) : (x15 = x7 → (∃ J19 : Rh → Prop, (∀ (σ18 : Rh), J19 σ18 → J4 σ18) ∧ ((¬ x7 = 0 → J19 ρ) ∧ (¬ (¬ x7 = 0) → vp_in 0 1 ∧ (((gJ ρ.1 17 (0 : Int32).toNatClampNeg) = y → J19 ρ) ∧ (¬ ((gJ ρ.1 17 (0 : Int32).toNatClampNeg) = y) → False)))))) ∧ (¬ (x15 = x7) → False) :=
  ⟨fun _ => ⟨J4, fun _ h => h, fun _ => hJ, fun z => ⟨v01, fun _ => hJ, fun z2 => z2 (h (Decidable.not_not.mp z))⟩⟩, fun z => z h15⟩
theorem tailBn {J4 : Rh → Prop} {ρ : Rh} {x7 x12 x15 : Int32} (h15 : x15 = x7) (hJ : J4 ρ) (h : ¬ x7 = 0) : (x15 = x7 → (∃ J118 : Rh → Prop, (∀ (σ117 : Rh), J118 σ117 → J4 σ117) ∧ ((¬ x7 = 0 → J118 ρ) ∧ (¬ (¬ x7 = 0) → vp_in 0 1 ∧ (∃ J122 : Rh → Int64 → Prop, (∀ (σ120 : Rh) (y121 : Int64), J122 σ120 y121 → (((gJ ρ.1 17 (0 : Int32).toNatClampNeg) = y121 → J118 σ120) ∧ (¬ ((gJ ρ.1 17 (0 : Int32).toNatClampNeg) = y121) → False))) ∧ ((x12 = 0 → J122 ρ 0) ∧ (¬ (x12 = 0) → J122 ρ 1))))))) ∧ (¬ (x15 = x7) → False) :=
  ⟨fun _ => ⟨J4, fun _ h => h, fun _ => hJ, fun z => absurd h z⟩, fun z => z h15⟩
theorem tailB {J4 : Rh → Prop} {ρ : Rh} {x7 x12 x15 : Int32} {d : Prop} [Decidable d] (h15 : x15 = x7) (hJ : J4 ρ) (hx : x12 = bz d) (h : x7 = 0 → gJ ρ.1 17 0 = lZ (if d then 1 else 0)) : (x15 = x7 → (∃ J118 : Rh → Prop, (∀ (σ117 : Rh), J118 σ117 → J4 σ117) ∧ ((¬ x7 = 0 → J118 ρ) ∧ (¬ (¬ x7 = 0) → vp_in 0 1 ∧ (∃ J122 : Rh → Int64 → Prop, (∀ (σ120 : Rh) (y121 : Int64), J122 σ120 y121 → (((gJ ρ.1 17 (0 : Int32).toNatClampNeg) = y121 → J118 σ120) ∧ (¬ ((gJ ρ.1 17 (0 : Int32).toNatClampNeg) = y121) → False))) ∧ ((x12 = 0 → J122 ρ 0) ∧ (¬ (x12 = 0) → J122 ρ 1))))))) ∧ (¬ (x15 = x7) → False) := by
  refine ⟨fun _ => ⟨J4, fun _ h => h, fun _ => hJ, fun z => ⟨v01, fun s y => s = ρ ∧ y = lZ (if d then 1 else 0), fun s y hs => ?_, fun z2 => ⟨rfl, ?_⟩, fun z2 => ⟨rfl, ?_⟩⟩⟩, fun z => z h15⟩
  · obtain ⟨rfl, rfl⟩ := hs
    exact ⟨fun _ => hJ, fun w => w (h (Decidable.not_not.mp z))⟩
  · rw [hx, bz_0] at z2; rw [if_neg z2]; rfl
  · rw [hx, bz_0, Decidable.not_not] at z2; rw [if_pos z2]; rfl
theorem su_bz {v : Int} (h : v = 0 ∨ v = 1) : iZ v = bz (v = 1) := by
  rcases h with h | h <;> rw [h] <;> rfl
theorem lc_0 {xs : Nat → Int32} {N : Nat} {ρ : Rh} {x : Int32} (hG : GO ρ) (v1 : vp_in (x + 1) N) (v2 : vp_in (x + 2) N) (v3 : vp_in (x + 3) N) (v4 : vp_in (x + 4) N) (v5 : vp_in (x + 5) N) : vp_in (x + 1) N ∧ wp_L_pass ρ.2.1 ρ.1 (xs (x + 1).toNatClampNeg) (fun (x7 : Int32) (σ8 : Mm) (L9 : List Nat) => ∀ ρ10 : Rh, ρ10 = (σ8, L9, ρ.2.2) → vp_in (x + 1) N ∧ wp_X7_pass ρ10.2.2 (xs (x + 1).toNatClampNeg) (fun (x12 : Int32) (τ13 : Mm) => ∀ ρ14 : Rh, ρ14 = (ρ10.1, ρ10.2.1, τ13) → wp_X7_thrown ρ14.2.2  (fun (x15 : Int32) (τ16 : Mm) => ∀ ρ17 : Rh, ρ17 = (ρ14.1, ρ14.2.1, τ16) → ((x15 = x7 → (∃ J19 : Rh → Prop, (∀ (σ18 : Rh), J19 σ18 → GO σ18) ∧ ((¬ x7 = 0 → J19 ρ17) ∧ (¬ (¬ x7 = 0) → vp_in 0 1 ∧ (((gJ ρ17.1 17 (0 : Int32).toNatClampNeg) = x12.toInt64 → J19 ρ17) ∧ (¬ ((gJ ρ17.1 17 (0 : Int32).toNatClampNeg) = x12.toInt64) → False)))))) ∧ (¬ (x15 = x7) → False))))) := by
  obtain ⟨C, hI, hc, hR⟩ := hG
  refine ⟨v1, K_pass hI hR (fun z σ' L' R' ρ1 h1 => ?_) (fun d1 d2 σ' L' R' O' ρ1 h1 => ?_)⟩
  · subst h1
    refine ⟨v1, M_pass hc hI (fun _ τ' c' t' ρ2 h2 => ?_) (fun d1 d2 => absurd ⟨d1, d2, trivial⟩ z)⟩
    subst h2
    intro ρ3 h3
    subst h3
    exact tailI t' ⟨C, hI, c', R'⟩ (fun y => absurd y (rf_ne z))
  · subst h1
    refine ⟨v1, M_pass hc hI (fun z => absurd ⟨d1, d2, trivial⟩ z) (fun _ _ τ' y c' t' w ρ2 h2 => ?_)⟩
    subst h2
    intro ρ3 h3
    subst h3
    exact tailI t' ⟨_, Inv_pass hI (by omega) d2, c', R'⟩ (fun _ => by rw [i2lT w]; exact O')
theorem lc_1 {xs : Nat → Int32} {N : Nat} {ρ : Rh} {x : Int32} (hG : GO ρ) (v1 : vp_in (x + 1) N) (v2 : vp_in (x + 2) N) (v3 : vp_in (x + 3) N) (v4 : vp_in (x + 4) N) (v5 : vp_in (x + 5) N) : vp_in (x + 1) N ∧ vp_in (x + 2) N ∧ wp_L_tract ρ.2.1 ρ.1 (xs (x + 1).toNatClampNeg) (xs (x + 2).toNatClampNeg) (fun (x23 : Int32) (σ24 : Mm) (L25 : List Nat) => ∀ ρ26 : Rh, ρ26 = (σ24, L25, ρ.2.2) → vp_in (x + 1) N ∧ vp_in (x + 2) N ∧ wp_X7_tract ρ26.2.2 (xs (x + 1).toNatClampNeg) (xs (x + 2).toNatClampNeg) (fun (x29 : Int32) (τ30 : Mm) => ∀ ρ31 : Rh, ρ31 = (ρ26.1, ρ26.2.1, τ30) → wp_X7_thrown ρ31.2.2  (fun (x32 : Int32) (τ33 : Mm) => ∀ ρ34 : Rh, ρ34 = (ρ31.1, ρ31.2.1, τ33) → ((x32 = x23 → (∃ J36 : Rh → Prop, (∀ (σ35 : Rh), J36 σ35 → GO σ35) ∧ ((¬ x23 = 0 → J36 ρ34) ∧ (¬ (¬ x23 = 0) → vp_in 0 1 ∧ (((gJ ρ34.1 17 (0 : Int32).toNatClampNeg) = x29.toInt64 → J36 ρ34) ∧ (¬ ((gJ ρ34.1 17 (0 : Int32).toNatClampNeg) = x29.toInt64) → False)))))) ∧ (¬ (x32 = x23) → False))))) := by
  obtain ⟨C, hI, hc, hR⟩ := hG
  refine ⟨v1, v2, K_tract hI hR (fun z σ' L' R' ρ1 h1 => ?_) (fun d1 d2 d3 σ' L' R' O' ρ1 h1 => ?_)⟩
  · subst h1
    refine ⟨v1, v2, M_tract hc hI (fun _ τ' c' t' ρ2 h2 => ?_) (fun d1 d2 d3 => absurd ⟨d1, d2, d3⟩ z)⟩
    subst h2
    intro ρ3 h3
    subst h3
    exact tailI t' ⟨C, hI, c', R'⟩ (fun y => absurd y (rf_ne z))
  · subst h1
    refine ⟨v1, v2, M_tract hc hI (fun z => absurd ⟨d1, d2, d3⟩ z) (fun _ _ _ τ' y c' t' w ρ2 h2 => ?_)⟩
    subst h2
    intro ρ3 h3
    subst h3
    exact tailI t' ⟨_, Inv_tract hI d1 d2 d3, c', R'⟩ (fun _ => by rw [i2lT w]; exact O')
theorem lc_2 {xs : Nat → Int32} {N : Nat} {ρ : Rh} {x : Int32} (hG : GO ρ) (v1 : vp_in (x + 1) N) (v2 : vp_in (x + 2) N) (v3 : vp_in (x + 3) N) (v4 : vp_in (x + 4) N) (v5 : vp_in (x + 5) N) : vp_in (x + 1) N ∧ vp_in (x + 2) N ∧ vp_in (x + 3) N ∧ vp_in (x + 4) N ∧ vp_in (x + 5) N ∧ wp_L_deed ρ.2.1 ρ.1 (xs (x + 1).toNatClampNeg) (xs (x + 2).toNatClampNeg) (xs (x + 3).toNatClampNeg) (xs (x + 4).toNatClampNeg) (xs (x + 5).toNatClampNeg) (fun (x43 : Int32) (σ44 : Mm) (L45 : List Nat) => ∀ ρ46 : Rh, ρ46 = (σ44, L45, ρ.2.2) → vp_in (x + 1) N ∧ vp_in (x + 2) N ∧ vp_in (x + 3) N ∧ vp_in (x + 4) N ∧ vp_in (x + 5) N ∧ wp_X7_deed ρ46.2.2 (xs (x + 1).toNatClampNeg) (xs (x + 2).toNatClampNeg) (xs (x + 3).toNatClampNeg) (xs (x + 4).toNatClampNeg) (xs (x + 5).toNatClampNeg) (fun (x52 : Int32) (τ53 : Mm) => ∀ ρ54 : Rh, ρ54 = (ρ46.1, ρ46.2.1, τ53) → wp_X7_thrown ρ54.2.2  (fun (x55 : Int32) (τ56 : Mm) => ∀ ρ57 : Rh, ρ57 = (ρ54.1, ρ54.2.1, τ56) → ((x55 = x43 → (∃ J59 : Rh → Prop, (∀ (σ58 : Rh), J59 σ58 → GO σ58) ∧ ((¬ x43 = 0 → J59 ρ57) ∧ (¬ (¬ x43 = 0) → vp_in 0 1 ∧ (((gJ ρ57.1 17 (0 : Int32).toNatClampNeg) = x52.toInt64 → J59 ρ57) ∧ (¬ ((gJ ρ57.1 17 (0 : Int32).toNatClampNeg) = x52.toInt64) → False)))))) ∧ (¬ (x55 = x43) → False))))) := by
  obtain ⟨C, hI, hc, hR⟩ := hG
  refine ⟨v1, v2, v3, v4, v5, K_deed hI hR (fun z σ' L' R' y0 y1 y2 y3 ρ1 h1 => ?_) (fun d1 d2 d3 σ' L' R' O' ρ1 h1 => ?_)⟩
  · subst h1
    refine ⟨v1, v2, v3, v4, v5, M_deed hc hI (fun _ τ' c' t' ρ2 h2 => ?_) (fun d1 d2 d3 => absurd ⟨d1, d2, d3⟩ z)⟩
    subst h2
    intro ρ3 h3
    subst h3
    have e : rf (dDe1 C (xs (x + 1).toNatClampNeg).toInt (xs (x + 2).toNatClampNeg).toInt (xs (x + 3).toNatClampNeg).toInt (xs (x + 5).toNatClampNeg).toInt) (dDe2 (xs (x + 2).toNatClampNeg).toInt (xs (x + 3).toNatClampNeg).toInt (xs (x + 4).toNatClampNeg).toInt) (dDe3 C (xs (x + 1).toNatClampNeg).toInt (xs (x + 2).toNatClampNeg).toInt (xs (x + 4).toNatClampNeg).toInt (xs (x + 5).toNatClampNeg).toInt) = y0 := rf_x3 z y1 y2 y3
    exact tailI (t'.trans e) ⟨C, hI, c', R'⟩ (fun y => absurd (e.trans y) (rf_ne z))
  · subst h1
    refine ⟨v1, v2, v3, v4, v5, M_deed hc hI (fun z => absurd ⟨d1, d2, d3⟩ z) (fun _ _ _ τ' c' t' ρ2 h2 => ?_)⟩
    subst h2
    intro ρ3 h3
    subst h3
    exact tailI t' ⟨_, Inv_deed hI d1 d2 d3, c', R'⟩ (fun _ => by rw [i2l]; exact O')
theorem lc_3 {xs : Nat → Int32} {N : Nat} {ρ : Rh} {x : Int32} (hG : GO ρ) (v1 : vp_in (x + 1) N) (v2 : vp_in (x + 2) N) (v3 : vp_in (x + 3) N) (v4 : vp_in (x + 4) N) (v5 : vp_in (x + 5) N) : vp_in (x + 1) N ∧ vp_in (x + 2) N ∧ vp_in (x + 3) N ∧ wp_L_title ρ.2.1 ρ.1 (xs (x + 1).toNatClampNeg) (xs (x + 2).toNatClampNeg) (xs (x + 3).toNatClampNeg) (fun (x64 : Int32) (σ65 : Mm) (L66 : List Nat) => ∀ ρ67 : Rh, ρ67 = (σ65, L66, ρ.2.2) → vp_in (x + 1) N ∧ vp_in (x + 2) N ∧ vp_in (x + 3) N ∧ wp_X7_title ρ67.2.2 (xs (x + 1).toNatClampNeg) (xs (x + 2).toNatClampNeg) (xs (x + 3).toNatClampNeg) (fun (x71 : Int32) (τ72 : Mm) => ∀ ρ73 : Rh, ρ73 = (ρ67.1, ρ67.2.1, τ72) → wp_X7_thrown ρ73.2.2  (fun (x74 : Int32) (τ75 : Mm) => ∀ ρ76 : Rh, ρ76 = (ρ73.1, ρ73.2.1, τ75) → ((x74 = x64 → (∃ J78 : Rh → Prop, (∀ (σ77 : Rh), J78 σ77 → GO σ77) ∧ ((¬ x64 = 0 → J78 ρ76) ∧ (¬ (¬ x64 = 0) → vp_in 0 1 ∧ (((gJ ρ76.1 17 (0 : Int32).toNatClampNeg) = x71.toInt64 → J78 ρ76) ∧ (¬ ((gJ ρ76.1 17 (0 : Int32).toNatClampNeg) = x71.toInt64) → False)))))) ∧ (¬ (x74 = x64) → False))))) := by
  obtain ⟨C, hI, hc, hR⟩ := hG
  refine ⟨v1, v2, v3, K_title hI hR (fun z σ' L' R' ρ1 h1 => ?_) (fun d1 σ' L' R' O' ρ1 h1 => ?_)⟩
  · subst h1
    refine ⟨v1, v2, v3, M_title hc hI (fun _ τ' c' t' ρ2 h2 => ?_) (fun d1 => absurd d1 z)⟩
    subst h2
    intro ρ3 h3
    subst h3
    exact tailI t' ⟨C, hI, c', R'⟩ (fun y => absurd y (by decide))
  · subst h1
    refine ⟨v1, v2, v3, M_title hc hI (fun z => absurd d1 z) (fun _ τ' c' t' ρ2 h2 => ?_)⟩
    subst h2
    intro ρ3 h3
    subst h3
    exact tailI t' ⟨C, hI, c', R'⟩ (fun _ => by rw [i2l]; exact O')
theorem lc_4 {xs : Nat → Int32} {N : Nat} {ρ : Rh} {x : Int32} (hG : GO ρ) (v1 : vp_in (x + 1) N) (v2 : vp_in (x + 2) N) (v3 : vp_in (x + 3) N) (v4 : vp_in (x + 4) N) (v5 : vp_in (x + 5) N) : vp_in (x + 1) N ∧ vp_in (x + 2) N ∧ vp_in (x + 3) N ∧ vp_in (x + 4) N ∧ vp_in (x + 5) N ∧ wp_L_lease ρ.2.1 ρ.1 (xs (x + 1).toNatClampNeg) (xs (x + 2).toNatClampNeg) (xs (x + 3).toNatClampNeg) (xs (x + 4).toNatClampNeg) (xs (x + 5).toNatClampNeg) (fun (x85 : Int32) (σ86 : Mm) (L87 : List Nat) => ∀ ρ88 : Rh, ρ88 = (σ86, L87, ρ.2.2) → vp_in (x + 1) N ∧ vp_in (x + 2) N ∧ vp_in (x + 3) N ∧ vp_in (x + 4) N ∧ vp_in (x + 5) N ∧ wp_X7_lease ρ88.2.2 (xs (x + 1).toNatClampNeg) (xs (x + 2).toNatClampNeg) (xs (x + 3).toNatClampNeg) (xs (x + 4).toNatClampNeg) (xs (x + 5).toNatClampNeg) (fun (x94 : Int32) (τ95 : Mm) => ∀ ρ96 : Rh, ρ96 = (ρ88.1, ρ88.2.1, τ95) → wp_X7_thrown ρ96.2.2  (fun (x97 : Int32) (τ98 : Mm) => ∀ ρ99 : Rh, ρ99 = (ρ96.1, ρ96.2.1, τ98) → ((x97 = x85 → (∃ J101 : Rh → Prop, (∀ (σ100 : Rh), J101 σ100 → GO σ100) ∧ ((¬ x85 = 0 → J101 ρ99) ∧ (¬ (¬ x85 = 0) → vp_in 0 1 ∧ (((gJ ρ99.1 17 (0 : Int32).toNatClampNeg) = x94.toInt64 → J101 ρ99) ∧ (¬ ((gJ ρ99.1 17 (0 : Int32).toNatClampNeg) = x94.toInt64) → False)))))) ∧ (¬ (x97 = x85) → False))))) := by
  obtain ⟨C, hI, hc, hR⟩ := hG
  refine ⟨v1, v2, v3, v4, v5, K_lease hI hR (fun z σ' L' R' ρ1 h1 => ?_) (fun d1 d2 d3 σ' L' R' O' ρ1 h1 => ?_)⟩
  · subst h1
    refine ⟨v1, v2, v3, v4, v5, M_lease hc hI (fun _ τ' c' t' ρ2 h2 => ?_) (fun d1 d2 d3 => absurd ⟨d1, d2, d3⟩ z)⟩
    subst h2
    intro ρ3 h3
    subst h3
    exact tailI t' ⟨C, hI, c', R'⟩ (fun y => absurd y (rf_ne z))
  · subst h1
    refine ⟨v1, v2, v3, v4, v5, M_lease hc hI (fun z => absurd ⟨d1, d2, d3⟩ z) (fun _ _ _ τ' y c' t' w ρ2 h2 => ?_)⟩
    subst h2
    intro ρ3 h3
    subst h3
    exact tailI t' ⟨_, Inv_lease hI d1 d2 d3, c', R'⟩ (fun _ => by rw [i2lT w]; exact O')
theorem lc_5 {xs : Nat → Int32} {N : Nat} {ρ : Rh} {x : Int32} (hG : GO ρ) (v1 : vp_in (x + 1) N) (v2 : vp_in (x + 2) N) (v3 : vp_in (x + 3) N) (v4 : vp_in (x + 4) N) (v5 : vp_in (x + 5) N) : vp_in (x + 1) N ∧ vp_in (x + 2) N ∧ wp_L_isHeld ρ.2.1 ρ.1 (xs (x + 1).toNatClampNeg) (xs (x + 2).toNatClampNeg) (fun (x105 : Int32) (σ106 : Mm) (L107 : List Nat) => ∀ ρ108 : Rh, ρ108 = (σ106, L107, ρ.2.2) → vp_in (x + 1) N ∧ vp_in (x + 2) N ∧ wp_X7_isHeld ρ108.2.2 (xs (x + 1).toNatClampNeg) (xs (x + 2).toNatClampNeg) (fun (x111 : Int32) (τ112 : Mm) => ∀ ρ113 : Rh, ρ113 = (ρ108.1, ρ108.2.1, τ112) → wp_X7_thrown ρ113.2.2  (fun (x114 : Int32) (τ115 : Mm) => ∀ ρ116 : Rh, ρ116 = (ρ113.1, ρ113.2.1, τ115) → ((x114 = x105 → (∃ J118 : Rh → Prop, (∀ (σ117 : Rh), J118 σ117 → GO σ117) ∧ ((¬ x105 = 0 → J118 ρ116) ∧ (¬ (¬ x105 = 0) → vp_in 0 1 ∧ (∃ J122 : Rh → Int64 → Prop, (∀ (σ120 : Rh) (y121 : Int64), J122 σ120 y121 → (((gJ ρ116.1 17 (0 : Int32).toNatClampNeg) = y121 → J118 σ120) ∧ (¬ ((gJ ρ116.1 17 (0 : Int32).toNatClampNeg) = y121) → False))) ∧ ((x111 = 0 → J122 ρ116 0) ∧ (¬ (x111 = 0) → J122 ρ116 1))))))) ∧ (¬ (x114 = x105) → False))))) := by
  obtain ⟨C, hI, hc, hR⟩ := hG
  refine ⟨v1, v2, K_isHeld hI hR (fun z σ' L' R' ρ1 h1 => ?_) (fun d1 σ' L' R' O' ρ1 h1 => ?_)⟩
  · subst h1
    refine ⟨v1, v2, M_isHeld hc hI (fun _ τ' c' t' ρ2 h2 => ?_) (fun d1 => absurd d1 z)⟩
    subst h2
    intro ρ3 h3
    subst h3
    exact tailBn t' ⟨C, hI, c', R'⟩ (by decide)
  · subst h1
    refine ⟨v1, v2, M_isHeld hc hI (fun z => absurd d1 z) (fun _ τ' c' t' ρ2 h2 => ?_)⟩
    subst h2
    intro ρ3 h3
    subst h3
    exact tailB t' ⟨C, hI, c', R'⟩ rfl (fun _ => O')
