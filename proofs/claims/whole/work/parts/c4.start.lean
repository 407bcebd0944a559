/-! PURE: the law's loop, and its start -/
theorem v_at {a j N : Nat} (h : a + j < N) (hN : N ≤ 3072) {y : Int32} (hy : y = iZ (j : Int)) : vp_in (iZ (a : Int) + y) N := by
  subst hy
  rw [iZ_add]
  have : (iZ ((a : Int) + (j : Int))).toInt = (a : Int) + (j : Int) := toInt_iZ (by omega) (by omega)
  exact vin (by omega) (by omega)
theorem law_all {xs : Nat → Int32} {N : Nat} (hN : N ≤ 3072) {ρ0 : Rh} (hG : GO ρ0) : ∃ n, lpw (law_body xs N) n (ρ0, 0) := by
  have eN : nI N = iZ (N : Int) := (Int32.ofInt_eq_ofNat).symm
  refine lpw_inv (fun i (s : Rh × Int32) => s.2 = iZ ((6 * i : Nat) : Int) ∧ GO s.1) (N / 6) ⟨rfl, hG⟩ ?_
  intro i s rec hi hs hrec
  obtain ⟨ρ, x⟩ := s
  obtain ⟨ex, hG⟩ := hs
  dsimp only at ex hG
  subst ex
  have tN : (nI N - 6).toInt = (N : Int) - 6 := by rw [eN, show (6 : Int32) = iZ 6 from rfl, iZ_sub, toInt_iZ (by omega) (by omega)]
  have tx : (iZ ((6 * i : Nat) : Int)).toInt = (6 * i : Nat) := n_iZ (by omega)
  unfold law_body
  refine ⟨fun _ => trivial, fun q => ?_⟩
  rw [ltT, tN, tx] at q
  have v1 : vp_in (iZ ((6 * i : Nat) : Int) + 1) N := v_at (j := 1) (by omega) hN rfl
  have v2 : vp_in (iZ ((6 * i : Nat) : Int) + 2) N := v_at (j := 2) (by omega) hN rfl
  have v3 : vp_in (iZ ((6 * i : Nat) : Int) + 3) N := v_at (j := 3) (by omega) hN rfl
  have v4 : vp_in (iZ ((6 * i : Nat) : Int) + 4) N := v_at (j := 4) (by omega) hN rfl
  have v5 : vp_in (iZ ((6 * i : Nat) : Int) + 5) N := v_at (j := 5) (by omega) hN rfl
  refine ⟨vin (by omega) (by omega), fun x2 _ => ⟨GO, fun σ3 h3 x5 h5 => hrec (by omega) _ ⟨?_, h3⟩, fun _ => lc_0 hG v1 v2 v3 v4 v5, fun _ => lc_1 hG v1 v2 v3 v4 v5, fun _ => lc_2 hG v1 v2 v3 v4 v5, fun _ => lc_3 hG v1 v2 v3 v4 v5, fun _ => lc_4 hG v1 v2 v3 v4 v5, fun _ => lc_5 hG v1 v2 v3 v4 v5, fun _ => lc_6 hG v1 v2 v3 v4 v5, fun _ => lc_7 hG v1 v2 v3 v4 v5, fun _ => lc_8 hG v1 v2 v3 v4 v5, fun _ => lc_9 hG v1 v2 v3 v4 v5, fun _ => lc_10 hG v1 v2 v3 v4 v5, fun _ => lc_11 hG v1 v2 v3 v4 v5, fun _ => lc_12 hG v1 v2 v3 v4 v5, fun _ => lc_13 hG v1 v2 v3 v4 v5, fun _ => lc_14 hG v1 v2 v3 v4 v5, fun _ => lc_15 hG v1 v2 v3 v4 v5, fun _ => lc_16 hG v1 v2 v3 v4 v5, fun _ => lc_17 hG v1 v2 v3 v4 v5, fun _ => lc_18 hG v1 v2 v3 v4 v5, fun _ => lc_19 hG v1 v2 v3 v4 v5, fun _ => lc_20 (xs := xs) hG v1 v2 v3 v4 v5, fun _ => lc_21 hG v1 v2 v3 v4 v5, fun _ => lc_22 hG v1 v2 v3 v4 v5, fun _ => hG⟩⟩
  show x5 = _
  rw [h5, show (6 : Int32) = iZ 6 from rfl, iZ_add]
  congr 1
theorem Inv_start {C : Cr} (c0 : ∀ i, C 200 i = if i = 27 then 300 else if i = 28 then 100 else 0) (c203 : ∀ t, t < 8 → C 203 t = -1) (c220 : ∀ m, m < 61 → C 220 m = -1) (cz : ∀ k, 201 ≤ k → k ≠ 203 → k ≠ 220 → ∀ i, C k i = 0) : Inv C := by
  have z : ∀ i, i ≠ 27 → i ≠ 28 → C 200 i = 0 := fun i a b => by rw [c0, if_neg a, if_neg b]
  have z0 := z 0 (by decide) (by decide)
  have z1 := z 1 (by decide) (by decide)
  have z5 := z 5 (by decide) (by decide)
  have z11 := z 11 (by decide) (by decide)
  have z18 := z 18 (by decide) (by decide)
  have z20 := z 20 (by decide) (by decide)
  have z27 : C 200 27 = 300 := by rw [c0, if_pos rfl]
  have z28 : C 200 28 = 100 := by rw [c0, if_neg (by decide), if_pos rfl]
  have nT0 : nT C = 0 := by unfold nT; omega
  have nD0 : nD C = 0 := by unfold nD; omega
  have nS0 : nS C = 0 := by unfold nS; omega
  have nU0 : nU C = 0 := by unfold nU; omega
  have nW0 : nW C = 0 := by unfold nW; omega
  refine ⟨by omega, by omega, by omega, by omega, by omega, by omega, by omega, by omega, fun t ht => by omega, fun t _ h8 => c203 t h8, fun k hk => by omega, fun t ht => by omega, fun k hk => by omega, fun u hu => by omega, fun u hu => by omega, fun w hw => by omega, fun i _ => ?_, fun w _ _ m _ => ?_, fun m hm => ?_, fun i _ => ?_, fun u o m _ _ _ _ => ?_, fun o _ => ?_⟩
  · rw [cz 217 (by decide) (by decide) (by decide), cz 218 (by decide) (by decide) (by decide), cz 219 (by decide) (by decide) (by decide)]
    omega
  · rw [cz 217 (by decide) (by decide) (by decide), cz 218 (by decide) (by decide) (by decide), cz 219 (by decide) (by decide) (by decide)]
    exact ⟨rfl, rfl, rfl⟩
  · rw [c220 m hm]
    omega
  · rw [cz 221 (by decide) (by decide) (by decide)]
    omega
  · exact cz 221 (by decide) (by decide) (by decide) _
  · exact Or.inl (cz 222 (by decide) (by decide) (by decide) _)
theorem Rel_start {C : Cr} {σ : Mm} (c0 : ∀ i, C 200 i = if i = 27 then 300 else if i = 28 then 100 else 0) (c220 : ∀ m, m < 61 → C 220 m = -1) (cz : ∀ k, 201 ≤ k → k ≠ 203 → k ≠ 220 → ∀ i, C k i = 0) (s0 : ∀ i, gI σ 0 i = if i = 12 then 300 else if i = 14 then 100 else 0) (s6 : ∀ m, m < 61 → gI σ 6 m = -1) (sr : ∀ j i, gR σ j i = none) (s7 : ∀ o, gJ σ 7 o = 0) : Rel [] σ C := by
  have z : ∀ i, i ≠ 27 → i ≠ 28 → C 200 i = 0 := fun i a b => by rw [c0, if_neg a, if_neg b]
  have z0 := z 0 (by decide) (by decide)
  have z1 := z 1 (by decide) (by decide)
  have z5 := z 5 (by decide) (by decide)
  have z11 := z 11 (by decide) (by decide)
  have z18 := z 18 (by decide) (by decide)
  have z20 := z 20 (by decide) (by decide)
  have z27 : C 200 27 = 300 := by rw [c0, if_pos rfl]
  have z28 : C 200 28 = 100 := by rw [c0, if_neg (by decide), if_pos rfl]
  have nT0 : nT C = 0 := by unfold nT; omega
  have nD0 : nD C = 0 := by unfold nD; omega
  have nS0 : nS C = 0 := by unfold nS; omega
  have nU0 : nU C = 0 := by unfold nU; omega
  have nW0 : nW C = 0 := by unfold nW; omega
  have sz : ∀ i, i ≠ 12 → i ≠ 14 → gI σ 0 i = 0 := fun i a b => by rw [s0, if_neg a, if_neg b]
  refine ⟨fun k => ⟨fun h => absurd h List.not_mem_nil, fun h => ?_⟩, by rw [sz 0 (by decide) (by decide), z0]; rfl, by rw [sz 2 (by decide) (by decide), z1]; rfl, by rw [sz 4 (by decide) (by decide), z5]; rfl, by rw [sz 6 (by decide) (by decide), z11]; rfl, by rw [sz 8 (by decide) (by decide), z18]; rfl, by rw [sz 10 (by decide) (by decide), z20]; rfl, by rw [s0, if_pos rfl, z27]; rfl, by rw [s0, if_neg (by decide), if_pos rfl, z28]; rfl, fun o _ => ?_, ?_, fun t _ => ?_, fun t _ => ?_, fun t _ => ?_, fun t _ => ?_, fun t _ => ?_, fun j i k h => ?_, fun t ht => by omega, fun t ht => by omega, fun t ht => by omega, fun t ht => by omega, fun t ht => by omega, fun m hm => ?_, fun o _ => ?_, fun u m hu => by omega⟩
  · unfold al at h
    omega
  · rw [sz 13 (by decide) (by decide), bt_z, cz 222 (by decide) (by decide) (by decide)]
    constructor <;> (intro h; cases h)
  · rw [sz 16 (by decide) (by decide), t_0, z0]
    omega
  · rw [sr, if_neg (by omega)]
  · rw [sr, if_neg (by omega)]
  · rw [sr, if_neg (by omega)]
  · rw [sr, if_neg (by omega)]
  · rw [sr, if_neg (by omega)]
  · rw [sr] at h; cases h
  · rw [s6 m hm, c220 m hm]; rfl
  · rw [s7, cz 223 (by decide) (by decide) (by decide)]; rfl
theorem st_all (xs : Nat → Int32) (N : Nat) (hN : N ≤ 3072) : st_pure xs N := by
  unfold st_pure
  refine lpw_inv (fun i (s : Mm × Int32) => s.2 = iZ (i : Int) ∧ gJ s.1 = gJ m0_X6_init ∧ gR s.1 = gR m0_X6_init ∧ ∀ k b, gI s.1 k b = if k = 6 ∧ b < i then -1 else gI m0_X6_init k b) 61 ⟨rfl, rfl, rfl, fun k b => by rw [if_neg (by omega)]⟩ ?_
  intro i s rec hi hs0 hrec
  obtain ⟨σ1, x2⟩ := s
  obtain ⟨e2, j1, r1, i1⟩ := hs0
  dsimp only at e2 j1 r1 i1
  subst e2
  have ti1 : (iZ (i : Int)).toInt = i := n_iZ (by omega)
  have ni : (iZ (i : Int)).toNatClampNeg = i := nat_iZ (by omega)
  refine ⟨fun q => ?_, fun q => ?_⟩
  rotate_left
  · rw [leT, t_61, ti1] at q
    have hrec := hrec (by omega)
    rw [ni]
    refine ⟨vin (by omega) (by omega), fun σ6 h6 x7 h7 => hrec _ ⟨by rw [h7, iZ_s], ?_, ?_, fun k b => ?_⟩⟩
    · show gJ σ6 = _
      rw [h6]; exact j1
    · show gR σ6 = _
      rw [h6]; exact r1
    · show gI σ6 k b = _
      rw [h6, gI_sI]
      by_cases e : k = 6 ∧ b = i
      · rw [if_pos e, if_pos ⟨e.1, by omega⟩]
      · rw [if_neg e, i1]
        by_cases e2 : k = 6 ∧ b < i
        · rw [if_pos e2, if_pos ⟨e2.1, by omega⟩]
        · rw [if_neg e2, if_neg (fun z => by omega)]
  rw [leT, t_61, ti1] at q
  have e : i = 61 := by omega
  subst e
  clear hrec q
  refine ⟨fun j i => by rw [r1]; rfl, ?_⟩
  refine lpw_inv (fun i (s : Mm × Int32) => s.2 = iZ (i : Int) ∧ gJ s.1 = gJ m0_X7_init ∧ ∀ k b, gI s.1 k b = if k = 220 ∧ b < i then -1 else gI m0_X7_init k b) 61 ⟨rfl, rfl, fun k b => by rw [if_neg (by omega)]⟩ ?_
  intro i s rec hi hs0 hrec
  obtain ⟨τ1, x2⟩ := s
  obtain ⟨e2, tj1, ti⟩ := hs0
  dsimp only at e2 tj1 ti
  subst e2
  have ti1 : (iZ (i : Int)).toInt = i := n_iZ (by omega)
  have ni : (iZ (i : Int)).toNatClampNeg = i := nat_iZ (by omega)
  refine ⟨fun q => ?_, fun q => ?_⟩
  rotate_left
  · rw [ltT, t_60, ti1] at q
    have hrec := hrec (by omega)
    rw [ni]
    refine ⟨vin (by omega) (by omega), fun σ6 h6 x7 h7 => hrec _ ⟨by rw [h7, iZ_s], ?_, fun k b => ?_⟩⟩
    · show gJ σ6 = _
      rw [h6]; exact tj1
    · show gI σ6 k b = _
      rw [h6, gI_sI]
      by_cases e : k = 220 ∧ b = i
      · rw [if_pos e, if_pos ⟨e.1, by omega⟩]
      · rw [if_neg e, ti]
        by_cases e2 : k = 220 ∧ b < i
        · rw [if_pos e2, if_pos ⟨e2.1, by omega⟩]
        · rw [if_neg e2, if_neg (fun z => by omega)]
  rw [ltT, t_60, ti1] at q
  have e : i = 61 := by omega
  subst e
  clear hrec q
  refine lpw_inv (fun i (s : Mm × Int32) => s.2 = iZ (i : Int) ∧ gJ s.1 = gJ m0_X7_init ∧ ∀ k b, gI s.1 k b = if k = 220 ∧ b < 61 then -1 else if k = 203 ∧ b < i then -1 else gI m0_X7_init k b) 8 ⟨rfl, tj1, fun k b => by
    show gI τ1 k b = _
    rw [ti, if_neg (show ¬ (k = 203 ∧ b < 0) by omega)]⟩ ?_
  intro i s rec hi hs0 hrec
  obtain ⟨τ2, x2⟩ := s
  obtain ⟨e2, tj2, ti2⟩ := hs0
  dsimp only at e2 tj2 ti2
  subst e2
  have ti1 : (iZ (i : Int)).toInt = i := n_iZ (by omega)
  have ni : (iZ (i : Int)).toNatClampNeg = i := nat_iZ (by omega)
  refine ⟨fun q => ?_, fun q => ?_⟩
  rotate_left
  · rw [leT, t_8, ti1] at q
    have hrec := hrec (by omega)
    rw [ni]
    refine ⟨vin (by omega) (by omega), fun σ6 h6 x7 h7 => hrec _ ⟨by rw [h7, iZ_s], ?_, fun k b => ?_⟩⟩
    · show gJ σ6 = _
      rw [h6]; exact tj2
    · show gI σ6 k b = _
      rw [h6, gI_sI]
      by_cases e : k = 203 ∧ b = i
      · rw [if_pos e, if_neg (fun z => by omega), if_pos ⟨e.1, by omega⟩]
      · rw [if_neg e, ti2]
        by_cases e0 : k = 220 ∧ b < 61
        · rw [if_pos e0, if_pos e0]
        · rw [if_neg e0, if_neg e0]
          by_cases e2 : k = 203 ∧ b < i
          · rw [if_pos e2, if_pos ⟨e2.1, by omega⟩]
          · rw [if_neg e2, if_neg (fun z => by omega)]
  rw [leT, t_8, ti1] at q
  have e : i = 8 := by omega
  subst e
  clear hrec q
  refine law_all hN ?_
  have m6 : ∀ k b, gI m0_X6_init k b = if k = 0 then (if b = 12 then 300 else if b = 14 then 100 else 0) else 0 := fun k b => rfl
  have m7 : ∀ k b, gI m0_X7_init k b = if k = 200 then (if b = 27 then 300 else if b = 28 then 100 else 0) else 0 := fun k b => rfl
  have g2 : ∀ k b, k ≠ 220 → k ≠ 203 → gI τ2 k b = gI m0_X7_init k b := fun k b a c => by rw [ti2, if_neg (fun z => a z.1), if_neg (fun z => c z.1)]
  have c0 : ∀ i, core τ2 200 i = if i = 27 then 300 else if i = 28 then 100 else 0 := fun i => by
    by_cases h : i = 39
    · subst h; rfl
    · rw [← ct_I (τ := τ2) rfl (k := 200) (by decide) (by decide) (Or.inr h), g2 200 i (by decide) (by decide), m7, if_pos rfl]
      by_cases h1 : i = 27
      · rw [if_pos h1, if_pos h1]; rfl
      · rw [if_neg h1, if_neg h1]
        by_cases h2 : i = 28
        · rw [if_pos h2, if_pos h2]; rfl
        · rw [if_neg h2, if_neg h2]; rfl
  have c203 : ∀ t, t < 8 → core τ2 203 t = -1 := fun t ht => by
    rw [← ct_I (τ := τ2) rfl (k := 203) (by decide) (by decide) (Or.inl (by decide)), ti2, if_neg (fun z => absurd z.1 (by decide)), if_pos ⟨rfl, ht⟩]; rfl
  have c220 : ∀ m, m < 61 → core τ2 220 m = -1 := fun m hm => by
    rw [← ct_I (τ := τ2) rfl (k := 220) (by decide) (by decide) (Or.inl (by decide)), ti2, if_pos ⟨rfl, hm⟩]; rfl
  have cz : ∀ k, 201 ≤ k → k ≠ 203 → k ≠ 220 → ∀ i, core τ2 k i = 0 := fun k h1 h2 h3 i => by
    unfold core
    rw [if_neg (by omega)]
    by_cases h : 200 ≤ k ∧ k ≤ 222
    · rw [if_pos h, g2 k i h3 h2, m7, if_neg (by omega)]; rfl
    · rw [if_neg h]
      by_cases h4 : k = 223
      · rw [if_pos h4, tj2]; rfl
      · rw [if_neg h4]
  refine ⟨core τ2, Inv_start c0 c203 c220 cz, rfl, Rel_start c0 c220 cz (fun i => ?_) (fun m hm => ?_) (fun j i => ?_) (fun o => ?_)⟩
  · show gI σ1 0 i = _
    rw [i1, if_neg (fun z => absurd z.1 (by decide)), m6, if_pos rfl]
  · show gI σ1 6 m = _
    rw [i1, if_pos ⟨rfl, hm⟩]
  · show gR σ1 j i = none
    rw [r1]; rfl
  · show gJ (o17 σ1) 7 o = 0
    have : gJ (o17 σ1) 7 o = gJ σ1 7 o := rfl
    rw [this, j1]; rfl
