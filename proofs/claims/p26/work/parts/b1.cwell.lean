/-! PURE: the class tells a well -/
theorem Rel_well {L : List Nat} {σ σ' : Mm} {C C' : Cr} (hI : Inv C) (h : Rel L σ C) {u : Nat} (h6 : C 200 20 < 6) (huU : u < nU C) (q : ∀ k, k ≠ 200 → k ≠ 216 → C' k = C k) (q0 : ∀ i, i ≠ 20 → C' 200 i = C 200 i) (q20 : C' 200 20 = C 200 20 + 1) (q216 : ∀ j, C' 216 j = if j = nW C then (u : Int) else C 216 j) (i0 : ∀ i, i ≠ 10 → gI σ' 0 i = gI σ 0 i) (i10 : (gI σ' 0 10).toInt = C 200 20 + 1) (iK : ∀ k, k ≠ 0 → ¬ (130 + 4 * nW C < k ∧ k ≤ 130 + 4 * nW C + 3) → gI σ' k = gI σ k) (iz : ∀ k, 130 + 4 * nW C < k → k ≤ 130 + 4 * nW C + 3 → ∀ i, gI σ' k i = 0) (rr' : ∀ j i, gR σ' j i = if j = 5 ∧ i = nW C then some (130 + 4 * nW C) else if j = 130 + 4 * nW C then (if i = 0 then some (100 + 8 * u) else none) else gR σ j i) (rJ : gJ σ' = gJ σ) : Rel (L ++ [130 + 4 * nW C, 130 + 4 * nW C + 1, 130 + 4 * nW C + 2, 130 + 4 * nW C + 3]) σ' C' := by
  have xt := hI.nt
  have xd := hI.nd
  have xs := hI.ns
  have xu := hI.nu
  have xw := hI.nw
  have xn := hI.now
  have hnW : ((nW C : Nat) : Int) = C 200 20 := by unfold nW; omega
  have hT : nT C ≤ 8 := by unfold nT; omega
  have hD : nD C ≤ 40 := by unfold nD; omega
  have hS : nS C ≤ 16 := by unfold nS; omega
  have hU : nU C ≤ 3 := by unfold nU; omega
  have nTe : nT C' = nT C := by unfold nT; rw [q0 1 (by decide)]
  have nDe : nD C' = nD C := by unfold nD; rw [q0 5 (by decide)]
  have nSe : nS C' = nS C := by unfold nS; rw [q0 11 (by decide)]
  have nUe : nU C' = nU C := by unfold nU; rw [q0 18 (by decide)]
  have nWe : nW C' = nW C + 1 := by unfold nW; rw [q20]; omega
  have hal : ∀ k, al C' k ↔ (al C k ∨ (130 + 4 * nW C ≤ k ∧ k ≤ 130 + 4 * nW C + 3)) := fun k => by
    unfold al
    rw [nTe, nDe, nSe, nUe, nWe]
    omega
  have rK : ∀ j, j ≠ 5 → j ≠ 130 + 4 * nW C → gR σ' j = gR σ j := fun j a b => by
    funext i
    rw [rr', if_neg (fun z => a z.1), if_neg b]
  have z7 : ∀ m, m < 61 → C 217 (61 * nW C + m) = 0 ∧ C 218 (61 * nW C + m) = 0 ∧ C 219 (61 * nW C + m) = 0 := fun m hm => hI.wz (nW C) (Nat.le_refl _) (by omega) m hm
  have e216 : ∀ w, w < nW C → C' 216 w = C 216 w := fun w hw => by rw [q216, if_neg (by omega)]
  have gve : ∀ (u : Int) m, m < 61 → (gv C' u m ↔ gv C u m) := fun u m hm => by
    constructor
    · rintro ⟨w, a, b, c⟩
      rw [nWe] at a
      rw [q 217 (by decide) (by decide)] at c
      by_cases e : w = nW C
      · rw [e, (z7 m hm).1] at c
        omega
      · rw [e216 w (by omega)] at b
        exact ⟨w, by omega, b, c⟩
    · rintro ⟨w, a, b, c⟩
      exact ⟨w, by omega, by rw [e216 w a]; exact b, by rw [q 217 (by decide) (by decide)]; exact c⟩
  have cse : ∀ u o n, csn C' u o n = csn C u o n := fun u o n => csn_cong (fun j _ => by rw [q 221 (by decide) (by decide)])
  have gse : ∀ (u : Int) m, m < 61 → gs C' u m = gs C u m := fun u m hm => by
    unfold gs
    rw [nWe, sm_s, q 217 (by decide) (by decide), q 218 (by decide) (by decide), (z7 m hm).1, Int.zero_mul, ite_self, Int.add_zero]
    exact sm_cong (fun w hw => by rw [e216 w hw])
  have bae : ∀ (u : Int) m, m < 61 → ba C' u m = ba C u m := fun u m hm => by
    unfold ba
    rw [nWe, sm_s, q 217 (by decide) (by decide), (z7 m hm).1, ite_self, Int.add_zero]
    exact sm_cong (fun w hw => by rw [e216 w hw])
  have coe : ∀ (u : Int) m, m < 61 → co C' u m = co C u m := fun u m hm => by
    unfold co
    rw [nWe, sm_s, q 219 (by decide) (by decide), (z7 m hm).2.2, ite_self, Int.add_zero]
    exact sm_cong (fun w hw => by rw [e216 w hw])
  refine ⟨fun k => ?_, by rw [i0 0 (by decide), q0 0 (by decide)]; exact h.now, by rw [i0 2 (by decide), q0 1 (by decide)]; exact h.tc, by rw [i0 4 (by decide), q0 5 (by decide)]; exact h.dc, by rw [i0 6 (by decide), q0 11 (by decide)]; exact h.lc, by rw [i0 8 (by decide), q0 18 (by decide)]; exact h.uc, by rw [i10, q20], by rw [i0 12 (by decide), q0 27 (by decide)]; exact h.pen, by rw [i0 14 (by decide), q0 28 (by decide)]; exact h.lst, by rw [i0 13 (by decide), q 222 (by decide) (by decide)]; exact h.sus, by rw [i0 16 (by decide), q0 0 (by decide)]; exact h.set, by rw [rK 1 (by decide) (by omega), nTe]; exact h.g1, by rw [rK 2 (by decide) (by omega), nDe]; exact h.g2, by rw [rK 3 (by decide) (by omega), nSe]; exact h.g3, by rw [rK 4 (by decide) (by omega), nUe]; exact h.g4, fun w h8 => ?_, fun j i k z => ?_, fun t htl => ?_, fun d hdl => ?_, fun l hll => ?_, fun u hu => ?_, fun w hw => ?_, fun m hm => by rw [iK 6 (by decide) (by omega), q 220 (by decide) (by decide)]; exact h.tx m hm, fun o ho => by rw [rJ, q 223 (by decide) (by decide)]; exact h.pd o ho, fun u m' hu h1 h2 o ho => ?_⟩
  · rw [List.mem_append, hal, h.inL k]
    refine or_congr Iff.rfl ?_
    simp only [List.mem_cons, List.not_mem_nil, or_false]
    omega
  · rw [rr', nWe]
    by_cases e : w = nW C
    · rw [if_pos ⟨rfl, e⟩, if_pos (by omega), e]
    · rw [if_neg (fun z => e z.2), if_neg (by omega), h.g5 w h8]
      by_cases e2 : w < nW C
      · rw [if_pos e2, if_pos (by omega)]
      · rw [if_neg e2, if_neg (by omega)]
  · rw [hal]
    rw [rr'] at z
    by_cases e : j = 5 ∧ i = nW C
    · rw [if_pos e] at z
      have z := Option.some.inj z
      exact Or.inr ⟨by omega, by omega⟩
    · rw [if_neg e] at z
      by_cases e2 : j = 130 + 4 * nW C
      · rw [if_pos e2] at z
        by_cases e3 : i = 0
        · rw [if_pos e3] at z
          have z := Option.some.inj z
          rw [← z]
          exact Or.inl (al_u huU (i := 0) (by decide))
        · rw [if_neg e3] at z; cases z
      · rw [if_neg e2] at z
        exact Or.inl (h.rr j i k z)
  · rw [nTe] at htl
    rw [iK (20 + t) (by omega) (by omega), rK (20 + t) (by omega) (by omega), q 201 (by decide) (by decide), q 202 (by decide) (by decide), q 203 (by decide) (by decide)]
    exact h.tr t htl
  · rw [nDe] at hdl
    rw [iK (30 + d) (by omega) (by omega), rK (30 + d) (by omega) (by omega), q 204 (by decide) (by decide), q 205 (by decide) (by decide), q 206 (by decide) (by decide), q 207 (by decide) (by decide), q 208 (by decide) (by decide)]
    exact h.de d hdl
  · rw [nSe] at hll
    rw [iK (70 + l) (by omega) (by omega), rK (70 + l) (by omega) (by omega), q 209 (by decide) (by decide), q 210 (by decide) (by decide), q 211 (by decide) (by decide), q 212 (by decide) (by decide), q 213 (by decide) (by decide), q 214 (by decide) (by decide)]
    exact h.le l hll
  · rw [nUe] at hu
    exact un_cong (h.un u hu) (fun i _ => iK _ (by omega) (by omega)) (by rw [q 215 (by decide) (by decide)]) (fun m hm => ⟨fun o _ => cse u o (m + 1), bae u m hm, gse u m hm, coe u m hm⟩)
  · rw [nWe] at hw
    by_cases e : w = nW C
    · refine ⟨?_, fun m hm => ?_⟩
      · rw [rr', if_neg (fun z => by omega), if_pos (by omega), if_pos rfl, q216, if_pos e, Int.toNat_natCast]
      · rw [iz (130 + 4 * w + 1) (by omega) (by omega), iz (130 + 4 * w + 2) (by omega) (by omega), iz (130 + 4 * w + 3) (by omega) (by omega), q 217 (by decide) (by decide), q 218 (by decide) (by decide), q 219 (by decide) (by decide), e, (z7 m hm).1, (z7 m hm).2.1, (z7 m hm).2.2]
        exact ⟨rfl, rfl, rfl⟩
    · exact we_cong (h.we w (by omega)) (rK _ (by omega) (by omega)) (fun i _ _ => iK _ (by omega) (by omega)) (e216 w (by omega)) (fun m _ => ⟨by rw [q 217 (by decide) (by decide)], by rw [q 218 (by decide) (by decide)], by rw [q 219 (by decide) (by decide)]⟩)
  · rw [nUe] at hu
    rw [i0 16 (by decide)] at h2
    have hs := h.set
    have ume : um C' u = um C u := by unfold um; rw [q 215 (by decide) (by decide)]
    exact MO_new (n := m' + 1) (n' := m' + 1) ume (q0 27 (by decide)) (fun m'' _ hlt => ⟨fun i _ => dk_rows (fun k a b => q k (by omega) (by omega)) (q0 1 (by decide)) (q0 5 (by decide)) (q0 11 (by decide)) (fun u j hj => gve u j (by omega)) u i, fun o _ => cse u o (m'' + 1), coe u m'' (by omega), rv_cong (gse u m'' (by omega)) (txn_cong (fun j _ => by rw [q 220 (by decide) (by decide)]))⟩) (by rw [rJ]) (by rw [rJ]) (h.MO hu (by omega)) (Nat.le_refl _) m' h1 (by omega) o ho
theorem freshW {L : List Nat} {σ : Mm} {C : Cr} (hI : Inv C) (hR : Rel L σ C) {i : Nat} (hi : i < 4) : nwS L σ (130 + 4 * nW C + i) := by
  have xt := hI.nt
  have xd := hI.nd
  have xs := hI.ns
  have xu := hI.nu
  refine fresh hI hR (fun z => ?_) (by omega) (fun j hj c hc => ?_)
  · unfold al nT nD nS nU at z
    omega
  · have r := al_rg hI hj
    have := sb_c j (by omega) c hc
    unfold al nT nD nS nU at hj
    omega
theorem K_well {L : List Nat} {σ : Mm} {C : Cr} (hI : Inv C) (hR : Rel L σ C) {a1 : Int32} {Q : Int32 → Mm → List Nat → Prop}
    (h1 : ¬ dUn C a1.toInt → ∀ σ' L', Rel L' σ' C → Q (-101) σ' L')
    (h2 : dUn C a1.toInt → ¬ C 200 20 < 6 → ∀ σ' L', Rel L' σ' C → Q (-103) σ' L')
    (hy : dUn C a1.toInt → C 200 20 < 6 → ∀ σ' L' {x9 : Int32}, Rel L' σ' (uWell C a1.toInt) → x9.toInt64 = lZ (C 200 20) → Q x9 σ' L') : wp_L_well L σ a1 Q := by
  unfold wp_L_well wp_X6_well
  have hw := hI.nw
  have hnW : ((nW C : Nat) : Int) = C 200 20 := by unfold nW; omega
  have no1 : ¬ dUn C a1.toInt → Q (-101) σ L := fun z => h1 z σ L hR
  have no2 : dUn C a1.toInt → ¬ C 200 20 < 6 → Q (-103) σ L := fun y z => h2 y z σ L hR
  have g10 := hR.wc
  refine k_unitAt hI hR ⟨fun q => Or.inl ⟨rfl, no1 (fun z => ?_)⟩, fun k3 q => ?_⟩
  · rw [if_pos z] at q; cases q
  have q1 : dUn C a1.toInt := Classical.byContradiction (fun z => by rw [if_neg z] at q; cases q)
  rw [if_pos q1] at q
  cases q
  obtain ⟨u, hu⟩ : ∃ u : Nat, a1.toInt = u := ⟨a1.toInt.toNat, by omega⟩
  have huU : u < nU C := by unfold nU; omega
  rw [hu, Int.toNat_natCast]
  refine ⟨fun q2 => ?_, fun q2 => Or.inr ⟨rfl, no2 q1 ?_⟩⟩
  rotate_left
  · rw [ltT, g10, t_6] at q2; exact q2
  rw [ltT, g10, t_6] at q2
  have n10 : (gI σ 0 10).toNatClampNeg = nW C := by rw [cl_T, g10]; rfl
  refine ⟨lv_u hI hR huU, 130 + 4 * nW C, ⟨kd_w _ (by omega), freshW hI hR (i := 0) (by decide), freshW hI hR (i := 1) (by decide), freshW hI hR (i := 2) (by decide), freshW hI hR (i := 3) (by decide)⟩, fun σ8 h8 => ⟨vin (by omega) (by rw [g10]; omega), fun σ10 h10 σ11 h11 => ?_⟩⟩
  rw [n10] at h10
  have i8 : ∀ k, gI σ8 k = if 130 + 4 * nW C < k ∧ k ≤ 130 + 4 * nW C + 3 then (fun _ => 0) else gI σ k := fun k => by
    funext b
    rw [h8]
    show (if 130 + 4 * nW C < k ∧ k ≤ 130 + 4 * nW C + 3 then (0 : Int32) else σ.1 k b) = _
    by_cases e : 130 + 4 * nW C < k ∧ k ≤ 130 + 4 * nW C + 3
    · rw [if_pos e, if_pos e]
    · rw [if_neg e, if_neg e]; rfl
  have g10' : gI σ10 0 10 = gI σ 0 10 := by rw [h10, gI_sR, i8, if_neg (by omega)]
  rw [g10'] at h11
  rw [g10']
  have t2 : (gI σ 0 10 + 1).toInt = C 200 20 + 1 := by rw [ad32 (by rw [g10, t_1]; omega) (by rw [g10, t_1]; omega), g10, t_1]
  have R11 : Rel (L ++ [130 + 4 * nW C, 130 + 4 * nW C + 1, 130 + 4 * nW C + 2, 130 + 4 * nW C + 3]) σ11 (uWell C a1.toInt) := by
    refine Rel_well (u := u) hI hR q2 huU (fun k a b => ?_) (fun i hi => ?_) ?_ (fun j => ?_) (fun i hi => ?_) ?_ (fun k a b => ?_) (fun k a b i => ?_) (fun j i => ?_) ?_
    · unfold uWell
      rw [u2_row a, u2_row b]
    · unfold uWell
      rw [u2_o (Or.inr hi), u2_o (Or.inl (by decide))]
    · unfold uWell
      rw [u2_y]
    · unfold uWell
      rw [u2_o (Or.inl (by decide)), hu]
      by_cases e : j = nW C
      · rw [e, u2_y, if_pos rfl]
      · rw [u2_o (Or.inr e), if_neg e]
    · rw [h11, gI_sI, if_neg (fun z => hi z.2), h10, gI_sR, i8, if_neg (by omega)]
    · rw [h11, gI_sI, if_pos ⟨rfl, rfl⟩, t2]
    · rw [h11, gI_ne a, h10, gI_sR, i8, if_neg b]
    · rw [h11, gI_ne (by omega), h10, gI_sR, i8, if_pos ⟨a, b⟩]
    · rw [h11, gR_sI, h10, gR_sR]
      by_cases e : j = 5 ∧ i = nW C
      · rw [if_pos e, if_pos e]
      · rw [if_neg e, if_neg e, h8]
        rfl
    · rw [h11, h10, h8]; rfl
  exact k_out R11 (i2lT g10) (fun R' O' => hy q1 q2 _ _ R' O')
