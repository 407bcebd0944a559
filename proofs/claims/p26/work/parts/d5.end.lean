/-! PURE: the law's end: all that is owed and was paid; the whole body; the start -/
theorem c_fin {C : Cr} {x2 x3 x4 x5 x7 : Int32} {y6 : Int64} (hG : GC C) (hV : VS C x2 x3 x4 x5 y6) (e7 : x7 = 1) (hn : C 200 0 ≤ 6) {σ11 : Rh} (hR : Rel σ11.2.1 σ11.1 C) (hw : σ11.2.2 ≤ 1792) : (∃ n : Nat, lpw (S := Rh × Int64 × Int32) (fun (R16 : Rh × Int64 × Int32 → Prop) (s17 : Rh × Int64 × Int32) => match s17 with | (σ13, y14, x15) => (∃ J19 : Rh → Prop, (∀ (σ18 : Rh), J19 σ18 → (∃ n : Nat, lpw (S := Rh × Int64 × Int32) (fun (R23 : Rh × Int64 × Int32 → Prop) (s24 : Rh × Int64 × Int32) => match s24 with | (σ20, y21, x22) => (∃ J26 : Rh → Prop, (∀ (σ25 : Rh), J26 σ25 → (∃ J29 : Rh → Int32 → Prop, (∀ (σ27 : Rh) (x28 : Int32), J29 σ27 x28 → σ27.2.2 ≤ 3500 ∧ x28 = 1) ∧ (∃ J31 : Rh → Prop, (∀ (σ30 : Rh), J31 σ30 → J29 σ30 0) ∧ ((x7 = 0 → J31 σ25) ∧ (¬ (x7 = 0) → ((¬ y14 = (y21 - y6) → J31 σ25) ∧ (¬ (¬ y14 = (y21 - y6)) → J29 σ25 1))))))) ∧ ((x3 ≤ x22 → J26 σ20) ∧ (¬ (x3 ≤ x22) → ((x7 = 0 → J26 σ20) ∧ (¬ (x7 = 0) → (∃ n : Nat, lpw (S := Rh × Int64 × Int32) (fun (R35 : Rh × Int64 × Int32 → Prop) (s36 : Rh × Int64 × Int32) => match s36 with | (σ32, y33, x34) => ((x5 < x34 → ∀ x37 : Int32, x37 = x22 + 1 → R23 (σ32, y33, x37)) ∧ (¬ (x5 < x34) → σ32.2.2 + 1 ≤ 3500 ∧ wp_L_revenue σ32.2.1 σ32.1 x22 x34 (fun (x38 : Int32) (σ39 : Mm) (L40 : List Nat) => ∀ ρ42 : Rh, ρ42 = (σ39, L40, σ32.2.2 + 1) → (∃ J45 : Rh → Int64 → Prop, (∀ (σ43 : Rh) (y44 : Int64), J45 σ43 y44 → ∀ y46 : Int64, y46 = y33 + y44 → ∀ x47 : Int32, x47 = x34 + 1 → R35 (σ43, y46, x47)) ∧ ((0 ≤ x38 → J45 ρ42 x38.toInt64) ∧ (¬ (0 ≤ x38) → J45 ρ42 0))))))) n (σ20, y21, 0)))))))) n (σ18, 0, 0))) ∧ ((10 ≤ x15 → J19 σ13) ∧ (¬ (10 ≤ x15) → ((x7 = 0 → J19 σ13) ∧ (¬ (x7 = 0) → σ13.2.2 + 1 ≤ 3500 ∧ wp_L_owed σ13.2.1 σ13.1 x15 (fun (y48 : Int64) (σ49 : Mm) (L50 : List Nat) => ∀ ρ52 : Rh, ρ52 = (σ49, L50, σ13.2.2 + 1) → ρ52.2.2 + 1 ≤ 3500 ∧ wp_L_paid ρ52.2.1 ρ52.1 x15 (fun (y53 : Int64) (σ54 : Mm) (L55 : List Nat) => ∀ ρ57 : Rh, ρ57 = (σ54, L55, ρ52.2.2 + 1) → ∀ y58 : Int64, y58 = y14 + (y48 + y53) → ∀ x59 : Int32, x59 = x15 + 1 → R16 (ρ57, y58, x59))))))))) n (σ11, 0, 0)) := by
  subst e7
  obtain ⟨v2, v3, v4, v5, v6⟩ := id hV
  have hu3 := hG.1.nu
  have hn6 := hG.1.now
  have hnN : ((nN C : Nat) : Int) = C 200 0 := by unfold nN; omega
  have hnU : ((nU C : Nat) : Int) = C 200 18 := by unfold nU; omega
  have hD : ∀ k : Nat, k < 10 → dOw (iZ (k : Int)).toInt := fun k hk => by rw [n_iZ (by omega)]; exact ⟨by omega, by omega⟩
  refine lpw_inv (fun k (s : Rh × Int64 × Int32) => Rel s.1.2.1 s.1.1 C ∧ s.1.2.2 ≤ 1792 + 2 * k ∧ s.2.1 = lZ (sm (fun o => ow C o + C 223 o) k) ∧ s.2.2 = iZ (k : Int)) 10 ⟨hR, hw, rfl, rfl⟩ ?_
  intro k s rec hk hs hrec
  obtain ⟨σ13, y14, x15⟩ := s
  obtain ⟨R1, w1, e1, e2⟩ := hs
  dsimp only at R1 w1 e1 e2
  subst e1 e2
  have ti1 : (iZ (k : Int)).toInt = k := n_iZ (by omega)
  refine ⟨fun s => Rel s.2.1 s.1 C ∧ s.2.2 ≤ 1812 ∧ k = 10, fun σ18 h => ?_, fun q => ?_, fun q => ⟨fun z => absurd z (by decide), fun _ => ?_⟩⟩
  rotate_left
  · rw [leT, ti1, t_10] at q
    exact ⟨R1, by omega, by omega⟩
  · rw [leT, ti1, t_10] at q
    have hrec := hrec (by omega)
    refine ⟨by omega, K_owed hG.1 R1 (fun z => absurd (hD k (by omega)) z) (fun _ σ2 L2 y48 R2 o2 ρ2 h2 => ?_)⟩
    subst h2
    refine ⟨(show σ13.2.2 + 1 + 1 ≤ 3500 by omega), K_paid R2 (fun z => absurd (hD k (by omega)) z) (fun _ σ3 L3 y53 R3 o3 ρ3 h3 y58 h58 x59 h59 => hrec _ ⟨?_, ?_, ?_, by rw [h59, iZ_s]⟩)⟩
    · rw [h3]; exact R3
    · rw [h3]
      show σ13.2.2 + 1 + 1 ≤ _
      omega
    · show y58 = _
      rw [h58, o2, o3, ti1, Int.toNat_natCast, lZ_add, lZ_add, sm_s]
  obtain ⟨R18, w18, ek⟩ := h
  subst ek
  clear hrec
  refine lpw_inv (fun u (s : Rh × Int64 × Int32) => Rel s.1.2.1 s.1.1 C ∧ s.1.2.2 ≤ 1812 + 7 * u ∧ s.2.1 = lZ (sm (fun u => sm (gq C u) (nN C + 1)) u) ∧ s.2.2 = iZ (u : Int)) (nU C) ⟨R18, w18, rfl, rfl⟩ ?_
  intro u s rec hku hs hrec
  obtain ⟨σ20, y21, x22⟩ := s
  obtain ⟨R4, w4, e4, e5⟩ := hs
  dsimp only at R4 w4 e4 e5
  subst e4 e5
  have tu : (iZ (u : Int)).toInt = u := n_iZ (by omega)
  refine ⟨fun s => Rel s.2.1 s.1 C ∧ s.2.2 ≤ 3500 ∧ u = nU C, fun σ25 h => ?_, fun q => ?_, fun q => ⟨fun z => absurd z (by decide), fun _ => ?_⟩⟩
  · obtain ⟨R25, w25, eu⟩ := h
    subst eu
    refine ⟨fun s v => s = σ25 ∧ v = 1, fun s v h => ?_, fun _ => False, fun _ z => z.elim, fun z => absurd z (by decide), fun _ => ⟨fun z => absurd ?_ z, fun _ => ⟨rfl, rfl⟩⟩⟩
    · obtain ⟨rfl, rfl⟩ := h
      exact ⟨w25, rfl⟩
    · rw [v6, lZ_sub, all_eq hG.1 hG.2.2]
  · rw [leT, tu, v3] at q
    exact ⟨R4, by omega, by omega⟩
  · rw [leT, tu, v3] at q
    have huU : u < nU C := by omega
    have hrec := hrec huU
    have hun := hG.1.un u huU
    have hum := um_eq hG.1 huU
    refine lpw_inv (fun m (s : Rh × Int64 × Int32) => Rel s.1.2.1 s.1.1 C ∧ s.1.2.2 ≤ 1812 + 7 * u + m ∧ s.2.1 = lZ (sm (fun u => sm (gq C u) (nN C + 1)) u + sm (gq C u) m) ∧ s.2.2 = iZ (m : Int)) (nN C + 1) ⟨R4, w4, by rw [sm_0, Int.add_zero], rfl⟩ ?_
    intro m s rec2 hkm hs hrec2
    obtain ⟨σ32, y33, x34⟩ := s
    obtain ⟨R6, w6, e6, e8⟩ := hs
    dsimp only at R6 w6 e6 e8
    subst e6 e8
    have tm : (iZ (m : Int)).toInt = m := n_iZ (by omega)
    refine ⟨fun qm x37 h37 => ?_, fun qm => ?_⟩
    · rw [ltT, tm, v5] at qm
      have em : m = nN C + 1 := by omega
      subst em
      refine hrec _ ⟨R6, (show σ32.2.2 ≤ _ by omega), ?_, by rw [h37, iZ_s]⟩
      exact congrArg lZ (sm_s (fun u => sm (gq C u) (nN C + 1)) u).symm
    · rw [ltT, tm, v5] at qm
      have hrec2 := hrec2 (by omega)
      have t1 : (iZ (m : Int)).toInt.toNat = m := by rw [tm]; exact Int.toNat_natCast m
      have t2 : (iZ (u : Int)).toInt.toNat = u := by rw [tu]; exact Int.toNat_natCast u
      have iff : isUM C (iZ (u : Int)).toInt (iZ (m : Int)).toInt ↔ um C u ≤ m := by
        unfold isUM
        rw [tu, tm, Int.toNat_natCast]
        omega
      have go : ∀ (s : Rh) (v : Int64), Rel s.2.1 s.1 C → s.2.2 ≤ 1812 + 7 * u + (m + 1) → v = lZ (gq C u m) → ∀ y46 : Int64, y46 = lZ (sm (fun u => sm (gq C u) (nN C + 1)) u + sm (gq C u) m) + v → ∀ x47 : Int32, x47 = iZ (m : Int) + 1 → rec2 (s, y46, x47) := fun s v Rs ws hv y46 h46 x47 h47 => hrec2 _ ⟨Rs, ws, by
        show y46 = _
        rw [h46, hv, lZ_add, sm_s, Int.add_assoc], by rw [h47, iZ_s]⟩
      refine ⟨by omega, K_revenue hG.1 R6 (fun z σ2 L2 R2 ρ2 h2 => ?_) (fun z σ2 L2 x38 R2 o2 ρ2 h2 => ?_)⟩
      · subst h2
        have ge : gq C u m = 0 := if_neg (fun y => z (iff.mpr y))
        refine ⟨fun s v => s = (σ2, L2, σ32.2.2 + 1) ∧ v = 0, fun s v h => ?_, fun y => absurd y (by decide), fun _ => ⟨rfl, rfl⟩⟩
        obtain ⟨rfl, rfl⟩ := h
        exact go _ _ R2 (show σ32.2.2 + 1 ≤ _ by omega) (by rw [ge]; rfl)
      · subst h2
        have rg := rv_rg hG.1 (iZ (u : Int)).toInt (m := m) (by omega)
        have ge : gq C u m = rv C u m := if_pos (iff.mp z)
        have t38 := l_E o2
        rw [t1] at t38
        refine ⟨fun s v => s = (σ2, L2, σ32.2.2 + 1) ∧ v = x38.toInt64, fun s v h => ?_, fun _ => ⟨rfl, rfl⟩, fun y => absurd ?_ y⟩
        · obtain ⟨rfl, rfl⟩ := h
          refine go _ _ R2 (show σ32.2.2 + 1 ≤ _ by omega) ?_
          rw [t38, iZ_l (by omega) (by omega), ge, tu]
        · rw [t38, leT, t_0, toInt_iZ (by omega) (by omega)]
          omega
theorem law_all {ρ0 : Rh} (h : GI 0 (ρ0, 0, 0, 0, 0, 0, 1, 0)) : law_body ρ0 := by
  unfold law_body
  refine lpw_inv GI 28 h ?_
  intro i s rec hi hs hrec
  obtain ⟨σ1, x2, x3, x4, x5, y6, x7, x8⟩ := s
  obtain ⟨C, hG, hR, hw, hV, e7, e8, ht, h2, hn⟩ := hs
  dsimp only at hR hw hV e7 e8
  subst e7 e8
  obtain ⟨v2, v3, v4, v5, v6⟩ := id hV
  have hn6 := hG.1.now
  have ti1 : (iZ (i : Int)).toInt = i := n_iZ (by omega)
  have t28 : (28 : Int32).toInt = 28 := rfl
  refine ⟨fun s => s = σ1 ∧ i = 28, fun σ11 h => ?_, fun q => ?_, fun q => ⟨fun z => absurd z (by decide), fun _ => ?_⟩⟩
  · obtain ⟨rfl, ei⟩ := h
    exact c_fin hG hV rfl hn hR (by omega)
  · rw [leT, ti1, t28] at q
    exact ⟨rfl, by omega⟩
  · rw [leT, ti1, t28] at q
    have hi28 : i < 28 := by omega
    have hrec := hrec hi28
    refine ⟨by omega, by rw [ti1]; omega, fun x61 h61 x63 h63 => ⟨fun s v => s = σ1 ∧ (¬ v = 0 → 3 ≤ i), fun σ64 x65 h => ?_, fun q3 => ?_, fun _ => ⟨rfl, fun z => absurd rfl z⟩⟩⟩
    · obtain ⟨e, hk⟩ := h
      subst e
      have hz : 0 ≤ x63.toInt := by rw [h63]; exact dv_nn h61 (by decide)
      have t5 : (x5 + 1).toInt = C 200 0 + 1 := by rw [ad32 (by rw [t_1]; omega) (by rw [t_1]; omega), t_1, v5]
      refine ⟨nz (by omega), fun x68 h68 => ?_⟩
      have a := jr_rg (x := x63) (y := x5 + 1) hz (by omega)
      rw [← h68] at a
      have hm : 0 ≤ x68.toInt ∧ x68.toInt ≤ C 200 0 := ⟨a.1, by omega⟩
      exact ⟨MI i (C 200 0), fun σ69 x70 x71 x72 x73 y74 x75 h => c_tail hi28 hz hm rfl hrec h, c_main hG hi28 hV hz hm h2 ht (fun z => by have := hk z; omega) hn (fun _ _ _ _ _ _ h => h) hR hw rfl⟩
    · rw [leT, ti1, t_3] at q3
      exact ⟨fun _ => ⟨fun _ => ⟨rfl, fun _ => by omega⟩, fun _ => ⟨rfl, fun _ => by omega⟩⟩, fun _ => ⟨rfl, fun _ => by omega⟩⟩
def C0 : Cr := fun k i => if k = 200 then (if i = 27 then 300 else if i = 28 then 100 else 0) else if k = 203 ∨ k = 220 then -1 else 0
theorem Inv_start {C : Cr} (c0 : ∀ i, C 200 i = if i = 27 then 300 else if i = 28 then 100 else 0) (c203 : ∀ t, t < 8 → C 203 t = -1) (c220 : ∀ m, m < 61 → C 220 m = -1) (cz : ∀ k, 201 ≤ k → k ≠ 203 → k ≠ 220 → ∀ i, C k i = 0) : Inv C := by
  have z : ∀ i, i ≠ 27 → i ≠ 28 → C 200 i = 0 := fun i a b => by rw [c0, if_neg a, if_neg b]
  have z0 := z 0 (by decide) (by decide)
  have z1 := z 1 (by decide) (by decide)
  have z5 := z 5 (by decide) (by decide)
  have z11 := z 11 (by decide) (by decide)
  have z18 := z 18 (by decide) (by decide)
  have z20 := z 20 (by decide) (by decide)
  have z27 : C 200 27 = 300 := by rw [c0, if_pos rfl]
  have z28 : C 200 28 = 100 := by rw [c0, if_neg (by decide), if_pos rfl]
  have nT0 : nT C = 0 := by unfold nT; omega
  have nD0 : nD C = 0 := by unfold nD; omega
  have nS0 : nS C = 0 := by unfold nS; omega
  have nU0 : nU C = 0 := by unfold nU; omega
  have nW0 : nW C = 0 := by unfold nW; omega
  refine ⟨by omega, by omega, by omega, by omega, by omega, by omega, by omega, by omega, fun t ht => by omega, fun t _ h8 => c203 t h8, fun k hk => by omega, fun t ht => by omega, fun k hk => by omega, fun u hu => by omega, fun u hu => by omega, fun w hw => by omega, fun i _ => ?_, fun w _ _ m _ => ?_, fun m hm => ?_, fun i _ => ?_, fun u o m _ _ _ _ => ?_, fun o _ => ?_⟩
  · rw [cz 217 (by decide) (by decide) (by decide), cz 218 (by decide) (by decide) (by decide), cz 219 (by decide) (by decide) (by decide)]
    omega
  · rw [cz 217 (by decide) (by decide) (by decide), cz 218 (by decide) (by decide) (by decide), cz 219 (by decide) (by decide) (by decide)]
    exact ⟨rfl, rfl, rfl⟩
  · rw [c220 m hm]
    omega
  · rw [cz 221 (by decide) (by decide) (by decide)]
    omega
  · exact cz 221 (by decide) (by decide) (by decide) _
  · exact Or.inl (cz 222 (by decide) (by decide) (by decide) _)
theorem Rel_start {C : Cr} {σ : Mm} (c0 : ∀ i, C 200 i = if i = 27 then 300 else if i = 28 then 100 else 0) (c220 : ∀ m, m < 61 → C 220 m = -1) (cz : ∀ k, 201 ≤ k → k ≠ 203 → k ≠ 220 → ∀ i, C k i = 0) (s0 : ∀ i, gI σ 0 i = if i = 12 then 300 else if i = 14 then 100 else 0) (s6 : ∀ m, m < 61 → gI σ 6 m = -1) (sr : ∀ j i, gR σ j i = none) (s7 : ∀ o, gJ σ 7 o = 0) : Rel [] σ C := by
  have z : ∀ i, i ≠ 27 → i ≠ 28 → C 200 i = 0 := fun i a b => by rw [c0, if_neg a, if_neg b]
  have z0 := z 0 (by decide) (by decide)
  have z1 := z 1 (by decide) (by decide)
  have z5 := z 5 (by decide) (by decide)
  have z11 := z 11 (by decide) (by decide)
  have z18 := z 18 (by decide) (by decide)
  have z20 := z 20 (by decide) (by decide)
  have z27 : C 200 27 = 300 := by rw [c0, if_pos rfl]
  have z28 : C 200 28 = 100 := by rw [c0, if_neg (by decide), if_pos rfl]
  have nT0 : nT C = 0 := by unfold nT; omega
  have nD0 : nD C = 0 := by unfold nD; omega
  have nS0 : nS C = 0 := by unfold nS; omega
  have nU0 : nU C = 0 := by unfold nU; omega
  have nW0 : nW C = 0 := by unfold nW; omega
  have sz : ∀ i, i ≠ 12 → i ≠ 14 → gI σ 0 i = 0 := fun i a b => by rw [s0, if_neg a, if_neg b]
  refine ⟨fun k => ⟨fun h => absurd h List.not_mem_nil, fun h => ?_⟩, by rw [sz 0 (by decide) (by decide), z0]; rfl, by rw [sz 2 (by decide) (by decide), z1]; rfl, by rw [sz 4 (by decide) (by decide), z5]; rfl, by rw [sz 6 (by decide) (by decide), z11]; rfl, by rw [sz 8 (by decide) (by decide), z18]; rfl, by rw [sz 10 (by decide) (by decide), z20]; rfl, by rw [s0, if_pos rfl, z27]; rfl, by rw [s0, if_neg (by decide), if_pos rfl, z28]; rfl, fun o _ => ?_, ?_, fun t _ => ?_, fun t _ => ?_, fun t _ => ?_, fun t _ => ?_, fun t _ => ?_, fun j i k h => ?_, fun t ht => by omega, fun t ht => by omega, fun t ht => by omega, fun t ht => by omega, fun t ht => by omega, fun m hm => ?_, fun o _ => ?_, fun u m hu => by omega⟩
  · unfold al at h
    omega
  · rw [sz 13 (by decide) (by decide), bt_z, cz 222 (by decide) (by decide) (by decide)]
    constructor <;> (intro h; cases h)
  · rw [sz 16 (by decide) (by decide), t_0, z0]
    omega
  · rw [sr, if_neg (by omega)]
  · rw [sr, if_neg (by omega)]
  · rw [sr, if_neg (by omega)]
  · rw [sr, if_neg (by omega)]
  · rw [sr, if_neg (by omega)]
  · rw [sr] at h; cases h
  · rw [s6 m hm, c220 m hm]; rfl
  · rw [s7, cz 223 (by decide) (by decide) (by decide)]; rfl
theorem st_all : st_pure := by
  unfold st_pure
  refine lpw_inv (fun i (s : Mm × Int32) => s.2 = iZ (i : Int) ∧ gJ s.1 = gJ m0_X6_init ∧ gR s.1 = gR m0_X6_init ∧ ∀ k b, gI s.1 k b = if k = 6 ∧ b < i then -1 else gI m0_X6_init k b) 61 ⟨rfl, rfl, rfl, fun k b => by rw [if_neg (by omega)]⟩ ?_
  intro i s rec hi hs0 hrec
  obtain ⟨σ1, x2⟩ := s
  obtain ⟨e2, j1, r1, i1⟩ := hs0
  dsimp only at e2 j1 r1 i1
  subst e2
  have ti1 : (iZ (i : Int)).toInt = i := n_iZ (by omega)
  have ni : (iZ (i : Int)).toNatClampNeg = i := nat_iZ (by omega)
  refine ⟨fun q => ?_, fun q => ?_⟩
  rotate_left
  · rw [leT, t_61, ti1] at q
    have hrec := hrec (by omega)
    rw [ni]
    refine ⟨vin (by omega) (by omega), fun σ6 h6 x7 h7 => hrec _ ⟨by rw [h7, iZ_s], ?_, ?_, fun k b => ?_⟩⟩
    · show gJ σ6 = _
      rw [h6]; exact j1
    · show gR σ6 = _
      rw [h6]; exact r1
    · show gI σ6 k b = _
      rw [h6, gI_sI]
      by_cases e : k = 6 ∧ b = i
      · rw [if_pos e, if_pos ⟨e.1, by omega⟩]
      · rw [if_neg e, i1]
        by_cases e2 : k = 6 ∧ b < i
        · rw [if_pos e2, if_pos ⟨e2.1, by omega⟩]
        · rw [if_neg e2, if_neg (fun z => by omega)]
  rw [leT, t_61, ti1] at q
  have e : i = 61 := by omega
  subst e
  clear hrec q
  have m6 : ∀ k b, gI m0_X6_init k b = if k = 0 then (if b = 12 then 300 else if b = 14 then 100 else 0) else 0 := fun k b => rfl
  have c0 : ∀ i, C0 200 i = if i = 27 then 300 else if i = 28 then 100 else 0 := fun i => rfl
  have c203 : ∀ t, t < 8 → C0 203 t = -1 := fun t _ => rfl
  have c220 : ∀ m, m < 61 → C0 220 m = -1 := fun m _ => rfl
  have cz : ∀ k, 201 ≤ k → k ≠ 203 → k ≠ 220 → ∀ i, C0 k i = 0 := fun k h1 h2 h3 i => by
    unfold C0
    rw [if_neg (by omega), if_neg (by omega)]
  have z223 : ∀ o, C0 223 o = 0 := fun o => rfl
  have z219 : ∀ o, C0 219 o = 0 := fun o => rfl
  refine law_all ⟨C0, ⟨Inv_start c0 c203 c220 cz, fun o _ => by rw [z223]; omega, fun w m _ _ z => absurd (z219 _) z⟩, Rel_start c0 c220 cz (fun i => ?_) (fun m hm => ?_) (fun j i => ?_) (fun o => ?_), Nat.le_refl _, ⟨rfl, rfl, rfl, rfl, ?_⟩, rfl, rfl, by decide, Or.inl (by decide), by decide⟩
  · show gI σ1 0 i = _
    rw [i1, if_neg (fun z => absurd z.1 (by decide)), m6, if_pos rfl]
  · show gI σ1 6 m = _
    rw [i1, if_pos ⟨rfl, hm⟩]
  · show gR σ1 j i = none
    rw [r1]; rfl
  · show gJ σ1 7 o = 0
    rw [j1]; rfl
  · show (0 : Int64) = lZ (OT C0)
    rw [show OT C0 = 0 from sm_zero (fun i _ => z219 i)]
    rfl
