/-! PURE: the class makes a tract -/
theorem sb_c : ∀ j, j < 154 → ∀ c ∈ sb j, c < 20 ∨ (100 ≤ j ∧ j < 124 ∧ (j - 100) % 8 = 0 ∧ j < c ∧ c ≤ j + 6) ∨ (130 ≤ j ∧ (j - 130) % 4 = 0 ∧ j < c ∧ c ≤ j + 3) := by decide +kernel
theorem fc_20 : ∀ j ∈ Fc, j < 20 := by decide
theorem al_rg {C : Cr} (hI : Inv C) {k : Nat} (h : al C k) : 20 ≤ k ∧ k < 154 := by
  have a := hI.nt
  have b := hI.nd
  have c := hI.ns
  have d := hI.nu
  have e := hI.nw
  unfold al nT nD nS nU nW at h
  omega
theorem fresh {L : List Nat} {σ : Mm} {C : Cr} (hI : Inv C) (hR : Rel L σ C) {k : Nat} (hk : ¬ al C k) (h20 : 20 ≤ k) (hc : ∀ j, al C j → ∀ c ∈ sb j, c ≠ k) : nwS L σ k := by
  refine ⟨fun z => ?_, fun j hj => ⟨fun i z => hk (hR.rr j i k z), fun c hcj => ?_⟩⟩
  · rcases List.mem_append.mp z with z | z
    · have := fc_20 k z; omega
    · exact hk ((hR.inL k).mp z)
  · rcases List.mem_append.mp hj with z | z
    · have l := fc_20 j z
      have := sb_c j (by omega) c hcj
      omega
    · exact hc j ((hR.inL j).mp z) c hcj
theorem fresh1 {L : List Nat} {σ : Mm} {C : Cr} (hI : Inv C) (hR : Rel L σ C) {k : Nat} (hk : ¬ al C k) (h20 : 20 ≤ k) (h100 : k < 100) : nwS L σ k := fresh hI hR hk h20 (fun j hj c hc => by
  have r := al_rg hI hj
  have := sb_c j (by omega) c hc
  omega)
theorem lv_new {L : List Nat} {k d : Nat} (h : kd k = d) : LV (Fc ++ (L ++ [k])) k d := ⟨List.mem_append_right _ (List.mem_append_right _ (List.mem_singleton.mpr rfl)), h⟩
theorem Rel_tract {L : List Nat} {σ σ' : Mm} {C C' : Cr} (hI : Inv C) (h : Rel L σ C) {a o : Int} {va vo : Int32} (h8 : C 200 1 < 8) (q : ∀ k, k ≠ 200 → k ≠ 201 → k ≠ 202 → C' k = C k) (q0 : ∀ i, i ≠ 1 → C' 200 i = C 200 i) (q1 : C' 200 1 = C 200 1 + 1) (qa : ∀ j, C' 201 j = if j = nT C then a else C 201 j) (qo : ∀ j, C' 202 j = if j = nT C then o else C 202 j) (hva : va.toInt = a) (hvo : vo.toInt = o) (i0 : ∀ i, i ≠ 2 → gI σ' 0 i = gI σ 0 i) (i2 : (gI σ' 0 2).toInt = C 200 1 + 1) (iK : ∀ k, k ≠ 0 → k ≠ 20 + nT C → gI σ' k = gI σ k) (it0 : gI σ' (20 + nT C) 0 = va) (it1 : gI σ' (20 + nT C) 1 = vo) (rr' : ∀ j i, gR σ' j i = if j = 1 ∧ i = nT C then some (20 + nT C) else if j = 20 + nT C ∧ i = 2 then none else gR σ j i) (rJ : gJ σ' = gJ σ) : Rel (L ++ [20 + nT C]) σ' C' := by
  have ht := hI.nt
  have hd := hI.nd
  have hl := hI.ns
  have hnT : ((nT C : Nat) : Int) = C 200 1 := by unfold nT; omega
  have hD : nD C ≤ 40 := by unfold nD; omega
  have hS : nS C ≤ 16 := by unfold nS; omega
  have nTe : nT C' = nT C + 1 := by unfold nT; rw [q1]; omega
  have nDe : nD C' = nD C := by unfold nD; rw [q0 5 (by decide)]
  have nSe : nS C' = nS C := by unfold nS; rw [q0 11 (by decide)]
  have nUe : nU C' = nU C := by unfold nU; rw [q0 18 (by decide)]
  have nWe : nW C' = nW C := by unfold nW; rw [q0 20 (by decide)]
  have hal : ∀ k, al C' k ↔ (al C k ∨ k = 20 + nT C) := fun k => by
    unfold al
    rw [nTe, nDe, nSe, nUe, nWe]
    omega
  have rK : ∀ j, j ≠ 1 → j ≠ 20 + nT C → gR σ' j = gR σ j := fun j a b => by
    funext i
    rw [rr', if_neg (fun z => a z.1), if_neg (fun z => b z.1)]
  have gve : ∀ (u : Int) m, gv C' u m ↔ gv C u m := fun u m => gv_cong nWe (fun w _ => ⟨by rw [q 216 (by decide) (by decide) (by decide)], by rw [q 217 (by decide) (by decide) (by decide)]⟩)
  have cse : ∀ u o n, csn C' u o n = csn C u o n := fun u o n => csn_cong (fun j _ => by rw [q 221 (by decide) (by decide) (by decide)])
  have gse : ∀ (u : Int) m, gs C' u m = gs C u m := fun u m => gs_cong nWe (fun w _ => ⟨by rw [q 216 (by decide) (by decide) (by decide)], by rw [q 217 (by decide) (by decide) (by decide)], by rw [q 218 (by decide) (by decide) (by decide)]⟩)
  have bae : ∀ (u : Int) m, ba C' u m = ba C u m := fun u m => ba_cong nWe (fun w _ => ⟨by rw [q 216 (by decide) (by decide) (by decide)], by rw [q 217 (by decide) (by decide) (by decide)]⟩)
  have coe : ∀ (u : Int) m, co C' u m = co C u m := fun u m => co_cong nWe (fun w _ => ⟨by rw [q 216 (by decide) (by decide) (by decide)], by rw [q 219 (by decide) (by decide) (by decide)]⟩)
  have tie : ∀ (t : Nat) (o m : Int), t ≠ nT C → ti C' t o m = ti C t o m := fun t o m hne => by
    unfold ti tiN
    rw [nDe, qo, if_neg hne]
    congr 1
    exact sm_cong (fun k _ => tiT_eq (by rw [q 204 (by decide) (by decide) (by decide)]) (by rw [q 205 (by decide) (by decide) (by decide)]) (by rw [q 206 (by decide) (by decide) (by decide)]) (by rw [q 207 (by decide) (by decide) (by decide)]) (by rw [q 208 (by decide) (by decide) (by decide)]))
  have c3 : ∀ t, C' 203 t = C 203 t := fun t => by rw [q 203 (by decide) (by decide) (by decide)]
  have c3n : C 203 (nT C) = -1 := hI.tz (nT C) (Nat.le_refl _) (by omega)
  refine ⟨fun k => ?_, by rw [i0 0 (by decide), q0 0 (by decide)]; exact h.now, by rw [i2, q1], by rw [i0 4 (by decide), q0 5 (by decide)]; exact h.dc, by rw [i0 6 (by decide), q0 11 (by decide)]; exact h.lc, by rw [i0 8 (by decide), q0 18 (by decide)]; exact h.uc, by rw [i0 10 (by decide), q0 20 (by decide)]; exact h.wc, by rw [i0 12 (by decide), q0 27 (by decide)]; exact h.pen, by rw [i0 14 (by decide), q0 28 (by decide)]; exact h.lst, by rw [i0 13 (by decide), q 222 (by decide) (by decide) (by decide)]; exact h.sus, by rw [i0 16 (by decide), q0 0 (by decide)]; exact h.set, fun t h8 => ?_, by rw [rK 2 (by decide) (by omega), nDe]; exact h.g2, by rw [rK 3 (by decide) (by omega), nSe]; exact h.g3, by rw [rK 4 (by decide) (by omega), nUe]; exact h.g4, by rw [rK 5 (by decide) (by omega), nWe]; exact h.g5, fun j i k z => ?_, fun t htl => ?_, fun d hdl => ?_, fun l hll => ?_, fun u hu => ?_, fun w hw => ?_, fun m hm => by rw [iK 6 (by decide) (by omega), q 220 (by decide) (by decide) (by decide)]; exact h.tx m hm, fun o ho => by rw [rJ, q 223 (by decide) (by decide) (by decide)]; exact h.pd o ho, fun u m hu h1 h2 o ho => ?_⟩
  · rw [List.mem_append, List.mem_singleton, hal, h.inL k]
  · rw [rr', nTe]
    by_cases e : t = nT C
    · rw [if_pos ⟨rfl, e⟩, if_pos (by omega), e]
    · rw [if_neg (fun z => e z.2), if_neg (by omega), h.g1 t h8]
      by_cases e2 : t < nT C
      · rw [if_pos e2, if_pos (by omega)]
      · rw [if_neg e2, if_neg (by omega)]
  · rw [hal]
    rw [rr'] at z
    by_cases e : j = 1 ∧ i = nT C
    · rw [if_pos e] at z
      exact Or.inr (Option.some.inj z).symm
    · rw [if_neg e] at z
      by_cases e2 : j = 20 + nT C ∧ i = 2
      · rw [if_pos e2] at z; cases z
      · rw [if_neg e2] at z
        exact Or.inl (h.rr j i k z)
  · rw [nTe] at htl
    rw [qa, qo, c3]
    by_cases e : t = nT C
    · rw [if_pos e, if_pos e, e, it0, it1, c3n, if_pos rfl, rr', if_neg (fun z => by omega), if_pos ⟨rfl, rfl⟩]
      exact ⟨hva, hvo, rfl⟩
    · rw [if_neg e, if_neg e, iK (20 + t) (by omega) (by omega), rK (20 + t) (by omega) (by omega)]
      exact h.tr t (by omega)
  · rw [nDe] at hdl
    rw [iK (30 + d) (by omega) (by omega), rK (30 + d) (by omega) (by omega), q 204 (by decide) (by decide) (by decide), q 205 (by decide) (by decide) (by decide), q 206 (by decide) (by decide) (by decide), q 207 (by decide) (by decide) (by decide), q 208 (by decide) (by decide) (by decide)]
    exact h.de d hdl
  · rw [nSe] at hll
    rw [iK (70 + l) (by omega) (by omega), rK (70 + l) (by omega) (by omega), q 209 (by decide) (by decide) (by decide), q 210 (by decide) (by decide) (by decide), q 211 (by decide) (by decide) (by decide), q 212 (by decide) (by decide) (by decide), q 213 (by decide) (by decide) (by decide), q 214 (by decide) (by decide) (by decide)]
    exact h.le l hll
  · rw [nUe] at hu
    exact un_cong (h.un u hu) (fun i _ => iK _ (by omega) (by omega)) (by rw [q 215 (by decide) (by decide) (by decide)]) (fun m _ => ⟨fun o _ => cse u o (m + 1), bae u m, gse u m, coe u m⟩)
  · rw [nWe] at hw
    exact we_cong (h.we w hw) (rK _ (by omega) (by omega)) (fun i _ _ => iK _ (by omega) (by omega)) (by rw [q 216 (by decide) (by decide) (by decide)]) (fun m _ => ⟨by rw [q 217 (by decide) (by decide) (by decide)], by rw [q 218 (by decide) (by decide) (by decide)], by rw [q 219 (by decide) (by decide) (by decide)]⟩)
  · rw [nUe] at hu
    rw [i0 16 (by decide)] at h2
    have ume : um C' u = um C u := by unfold um; rw [q 215 (by decide) (by decide) (by decide)]
    refine MO_new (n := m + 1) (n' := m + 1) ume (q0 27 (by decide)) (fun m' _ hlt => ⟨fun i _ => ?_, fun o _ => cse u o (m' + 1), coe u m', rv_cong (gse u m') (txn_cong (fun j _ => by rw [q 220 (by decide) (by decide) (by decide)]))⟩) (by rw [rJ]) (by rw [rJ]) (h.MO hu (by omega)) (Nat.le_refl _) m h1 (by omega) o ho
    unfold dk
    rw [nTe, sm_s, sm_zero (f := fun o => cb C' u m' (nT C) o i) (fun o _ => cb_no (by rw [c3, c3n]; omega)), Int.add_zero]
    refine sm_cong (fun t htl => sm_cong (fun o _ => cb_cong (by rw [c3]) (fun _ => ⟨by rw [qa, if_neg (by omega)], tie t o m' (by omega), lo_cong (q0 11 (by decide)) (q 209 (by decide) (by decide) (by decide)) (q 210 (by decide) (by decide) (by decide)) (fun k _ _ => hl_cong (by rw [q 209 (by decide) (by decide) (by decide)]) (by rw [q 213 (by decide) (by decide) (by decide)]) (by rw [q 214 (by decide) (by decide) (by decide)]) (c3 _) (fun u j _ => gve u j)), fun k _ => ⟨by rw [q 211 (by decide) (by decide) (by decide)], by rw [q 212 (by decide) (by decide) (by decide)]⟩⟩)))
theorem K_tract {L : List Nat} {σ : Mm} {C : Cr} (hI : Inv C) (hR : Rel L σ C) {a1 a2 : Int32} {Q : Int32 → Mm → List Nat → Prop}
    (h1 : ¬ dOw a2.toInt → ∀ σ' L', Rel L' σ' C → Q (-101) σ' L')
    (h2 : dOw a2.toInt → ¬ (1 ≤ a1.toInt ∧ a1.toInt ≤ 1000) → ∀ σ' L', Rel L' σ' C → Q (-102) σ' L')
    (h3 : dOw a2.toInt → (1 ≤ a1.toInt ∧ a1.toInt ≤ 1000) → ¬ C 200 1 < 8 → ∀ σ' L', Rel L' σ' C → Q (-103) σ' L')
    (hy : dOw a2.toInt → (1 ≤ a1.toInt ∧ a1.toInt ≤ 1000) → C 200 1 < 8 → ∀ σ' L' {x9 : Int32}, Rel L' σ' (uTract C a1.toInt a2.toInt) → x9.toInt64 = lZ (C 200 1) → Q x9 σ' L') : wp_L_tract L σ a1 a2 Q := by
  unfold wp_L_tract wp_X6_tract
  have ht := hI.nt
  have hnT : ((nT C : Nat) : Int) = C 200 1 := by unfold nT; omega
  have no1 : ¬ dOw a2.toInt → Q (-101) σ L := fun z => h1 z σ L hR
  have no2 : dOw a2.toInt → ¬ (1 ≤ a1.toInt ∧ a1.toInt ≤ 1000) → Q (-102) σ L := fun y z => h2 y z σ L hR
  have no3 : dOw a2.toInt → (1 ≤ a1.toInt ∧ a1.toInt ≤ 1000) → ¬ C 200 1 < 8 → Q (-103) σ L := fun y y2 z => h3 y y2 z σ L hR
  have g2 := hR.tc
  refine k_owner ⟨fun q => ?_, fun q => Or.inl ⟨rfl, no1 (by rwa [Decidable.not_not, bz_0] at q)⟩⟩
  have q := (bz_n _).mp q
  refine jn0 ⟨fun q2 => Or.inr (Or.inl ⟨rfl, no2 q ?_⟩), fun q2 => ⟨fun q3 => ⟨fun q4 => ?_, fun q4 => Or.inr (Or.inr ⟨rfl, no3 q ?_ ?_⟩)⟩, fun q3 => Or.inr (Or.inl ⟨rfl, no2 q ?_⟩)⟩⟩
  · rw [ltT, t_1] at q2; omega
  rotate_left
  · rw [ltT, t_1] at q2; rw [leT, t_1000] at q3; omega
  · rw [ltT, g2, t_8] at q4; exact q4
  · rw [leT, t_1000] at q3; omega
  rw [ltT, t_1] at q2
  rw [leT, t_1000] at q3
  rw [ltT, g2, t_8] at q4
  have n2 : (gI σ 0 2).toNatClampNeg = nT C := by rw [cl_T, g2]; rfl
  have nal : ¬ al C (20 + nT C) := by
    have hd := hI.nd
    unfold al
    omega
  have fr := fresh1 hI hR nal (by omega) (by omega)
  have kd3 : kd (20 + nT C) = 3 := kd_t _ (by omega)
  refine ⟨20 + nT C, ⟨fr.1, kd3, fr.2⟩, fun σ7 h7 => ⟨lv_new kd3, fun s2 h2 s3 h3 s4 h4 => ⟨vin (by omega) (by rw [g2]; omega), fun σ10 h10 σ11 h11 => ?_⟩⟩⟩
  rw [n2] at h10
  have g10 : gI σ10 0 2 = gI σ 0 2 := by
    rw [h10, gI_sR, h4, gI_ne (by omega), h3, gI_ne (by omega), h2, gI_sR, h7]
    unfold z_3
    rw [gI_sR, gI_ne (by omega), gI_ne (by omega)]
  have t2 : (gI σ 0 2 + 1).toInt = C 200 1 + 1 := by rw [ad32 (by rw [g2, t_1]; omega) (by rw [g2, t_1]; omega), g2, t_1]
  have k10 : ∀ k, k ≠ 20 + nT C → gI σ10 k = gI σ k := fun k hk => by
    rw [h10, gI_sR, h4, gI_ne hk, h3, gI_ne hk, h2, gI_sR, h7]
    unfold z_3
    rw [gI_sR, gI_ne hk, gI_ne hk]
  rw [g10] at h11
  have R11 : Rel (L ++ [20 + nT C]) σ11 (uTract C a1.toInt a2.toInt) := by
    refine Rel_tract (va := a1) (vo := a2) hI hR q4 (fun k a b c => ?_) (fun i hi => ?_) ?_ (fun j => ?_) (fun j => ?_) rfl rfl (fun i hi => ?_) ?_ (fun k a b => ?_) ?_ ?_ (fun j i => ?_) ?_
    · unfold uTract
      rw [u2_row a, u2_row c, u2_row b]
    · unfold uTract
      rw [u2_o (Or.inr hi), u2_o (Or.inl (by decide)), u2_o (Or.inl (by decide))]
    · unfold uTract
      rw [u2_y]
    · unfold uTract
      rw [u2_o (Or.inl (by decide)), u2_o (Or.inl (by decide))]
      by_cases e : j = nT C
      · rw [e, u2_y, if_pos rfl]
      · rw [u2_o (Or.inr e), if_neg e]
    · unfold uTract
      rw [u2_o (Or.inl (by decide))]
      by_cases e : j = nT C
      · rw [e, u2_y, if_pos rfl]
      · rw [u2_o (Or.inr e), if_neg e, u2_o (Or.inl (by decide))]
    · rw [h11, gI_sI, if_neg (fun z => hi z.2), k10 0 (by omega)]
    · rw [h11, gI_sI, if_pos ⟨rfl, rfl⟩, t2]
    · rw [h11, gI_ne a, k10 k b]
    · rw [h11, gI_ne (by omega), h10, gI_sR, h4, gI_sI, if_neg (fun z => by omega), h3, gI_sI, if_pos ⟨rfl, rfl⟩]
    · rw [h11, gI_ne (by omega), h10, gI_sR, h4, gI_sI, if_pos ⟨rfl, rfl⟩]
    · rw [h11, gR_sI, h10, gR_sR]
      by_cases e : j = 1 ∧ i = nT C
      · rw [if_pos e, if_pos e]
      · rw [if_neg e, if_neg e, h4, gR_sI, h3, gR_sI, h2, gR_sR]
        by_cases e2 : j = 20 + nT C ∧ i = 2
        · rw [if_pos e2, if_pos e2]
        · rw [if_neg e2, if_neg e2, h7]
          unfold z_3
          rw [gR_sR, if_neg e2]
          rfl
    · rw [h11, h10, h4, h3, h2, h7]; rfl
  refine k_out R11 ?_ (fun R' O' => hy q ⟨by omega, by omega⟩ q4 _ _ R' O')
  rw [g10]
  exact i2lT g2
