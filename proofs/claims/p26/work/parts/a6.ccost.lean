/-! PURE: the class's costs -/
theorem Rel_cost {L : List Nat} {σ σ' : Mm} {C C' : Cr} (hI : Inv C) (h : Rel L σ C) {u w m : Nat} (hw : w < nW C) (hu : C 216 w = u) (huU : u < nU C) (hm : m < 61) {c : Int} {vw vu : Int32} (q : ∀ k, k ≠ 219 → C' k = C k) (q9 : ∀ j, C' 219 j = if j = 61 * w + m then C 219 (61 * w + m) + c else C 219 j) (hvw : vw.toInt = C 219 (61 * w + m) + c) (hvu : vu.toInt = co C u m + c) (r : gR σ' = gR σ) (rJ : gJ σ' = gJ σ) (i0 : ∀ i, i ≠ 16 → gI σ' 0 i = gI σ 0 i) (iK : ∀ k, k ≠ 0 → k ≠ 100 + 8 * u + 4 → k ≠ 130 + 4 * w + 3 → gI σ' k = gI σ k) (i4 : ∀ j, gI σ' (100 + 8 * u + 4) j = if j = m then vu else gI σ (100 + 8 * u + 4) j) (w3 : ∀ j, gI σ' (130 + 4 * w + 3) j = if j = m then vw else gI σ (130 + 4 * w + 3) j) (hx : 0 ≤ (gI σ' 0 16).toInt ∧ (gI σ' 0 16).toInt ≤ C 200 0 + 1 ∧ (gI σ' 0 16).toInt ≤ m ∧ (gI σ' 0 16).toInt ≤ (gI σ 0 16).toInt) : Rel L σ' C' := by
  have hu3 := nU3 hI huU
  have hnw := hI.nw
  have hw6 : nW C ≤ 6 := by unfold nW; omega
  have nWe : nW C' = nW C := by unfold nW; rw [q 200 (by decide)]
  have oth : ∀ w' m' : Nat, m' < 61 → (w' ≠ w ∨ m' ≠ m) → C' 219 (61 * w' + m') = C 219 (61 * w' + m') := fun w' m' h61 hne => by
    rw [q9, if_neg (by omega)]
  have e216 : ∀ w', C' 216 w' = C 216 w' := fun w' => by rw [q 216 (by decide)]
  have eco : ∀ (u' : Int) (m' : Nat), m' < 61 → m' ≠ m → co C' u' m' = co C u' m' := fun u' m' a b => co_cong nWe (fun w' _ => ⟨e216 w', oth w' m' a (Or.inr b)⟩)
  have eco2 : ∀ (u' : Int), co C' u' m = co C u' m + (if C 216 w = u' then c else 0) := fun u' => by
    unfold co
    rw [nWe, sm_chg (f := fun w => if C 216 w = u' then C 219 (61 * w + m) else 0) (w := w) hw (fun k _ hne => by rw [e216, oth k m hm (Or.inl hne)]), e216, q9, if_pos rfl]
    by_cases z : C 216 w = u'
    · rw [if_pos z, if_pos z, if_pos z]; omega
    · rw [if_neg z, if_neg z, if_neg z]; omega
  have egv : ∀ (u' : Int) (m' : Nat), gv C' u' m' ↔ gv C u' m' := fun u' m' => gv_cong nWe (fun w' _ => ⟨e216 w', by rw [q 217 (by decide)]⟩)
  have eba : ∀ (u' : Int) (m' : Nat), ba C' u' m' = ba C u' m' := fun u' m' => ba_cong nWe (fun w' _ => ⟨e216 w', by rw [q 217 (by decide)]⟩)
  have egs : ∀ (u' : Int) (m' : Nat), gs C' u' m' = gs C u' m' := fun u' m' => gs_cong nWe (fun w' _ => ⟨e216 w', by rw [q 217 (by decide)], by rw [q 218 (by decide)]⟩)
  have ecs : ∀ u' o n, csn C' u' o n = csn C u' o n := fun u' o n => csn_cong (fun j _ => by rw [q 221 (by decide)])
  refine Rel_mid hI h ⟨by rw [q 200 (by decide)], by rw [q 200 (by decide)], by rw [q 200 (by decide)], by rw [q 200 (by decide)], by rw [q 200 (by decide)]⟩ (fun k a b => q k (by omega)) r (fun k a b => iK k (by omega) (by omega) (by omega)) (fun i hi => i0 i (fun z => by subst z; exact absurd hi (by decide))) ?_ ?_ ?_ ?_ ?_ (fun u' hu' => ?_) (fun w' hw' => ?_) (fun m' h61 => by rw [iK 6 (by decide) (by omega) (by omega), q 220 (by decide)]; exact h.tx m' h61) (fun o ho => by rw [rJ, q 223 (by decide)]; exact h.pd o ho) (fun u' hu' => ?_)
  · rw [i0 0 (by decide), q 200 (by decide)]; exact h.now
  · rw [i0 12 (by decide), q 200 (by decide)]; exact h.pen
  · rw [i0 14 (by decide), q 200 (by decide)]; exact h.lst
  · rw [i0 13 (by decide), q 222 (by decide)]; exact h.sus
  · rw [q 200 (by decide)]; exact ⟨hx.1, hx.2.1⟩
  · have hu3' := nU3 hI hu'
    obtain ⟨x0, x1⟩ := h.un u' hu'
    refine ⟨by rw [iK _ (by omega) (by omega) (by omega), q 215 (by decide)]; exact x0, fun m' h61 => ?_⟩
    obtain ⟨z1, z2, z3, z4⟩ := x1 m' h61
    rw [iK (100 + 8 * u' + 1) (by omega) (by omega) (by omega), iK (100 + 8 * u' + 2) (by omega) (by omega) (by omega), iK (100 + 8 * u' + 3) (by omega) (by omega) (by omega), eba, egs]
    refine ⟨fun o ho => by rw [ecs]; exact z1 o ho, z2, z3, ?_⟩
    by_cases e : u' = u
    · rw [e, i4]
      rw [e] at z4
      by_cases em : m' = m
      · rw [if_pos em, hvu, em, eco2, if_pos hu]
      · rw [if_neg em, eco _ _ h61 em]; exact z4
    · rw [iK (100 + 8 * u' + 4) (by omega) (by omega) (by omega)]
      by_cases em : m' = m
      · rw [em, eco2, if_neg (by omega), Int.add_zero, ← em]; exact z4
      · rw [eco _ _ h61 em]; exact z4
  · obtain ⟨x0, x1⟩ := h.we w' hw'
    refine ⟨by rw [r, e216]; exact x0, fun m' h61 => ?_⟩
    obtain ⟨z1, z2, z3⟩ := x1 m' h61
    rw [iK (130 + 4 * w' + 1) (by omega) (by omega) (by omega), iK (130 + 4 * w' + 2) (by omega) (by omega) (by omega), q 217 (by decide), q 218 (by decide)]
    refine ⟨z1, z2, ?_⟩
    by_cases e : w' = w
    · rw [e] at z3 ⊢
      rw [w3]
      by_cases em : m' = m
      · rw [if_pos em, q9, if_pos (by omega), hvw]
      · rw [if_neg em, oth w m' h61 (Or.inr em)]
        exact z3
    · rw [iK (130 + 4 * w' + 3) (by omega) (by omega) (by omega), oth w' m' h61 (Or.inl e)]
      exact z3
  · exact MO_new (n := (gI σ' 0 16).toInt.toNat) (n' := (gI σ' 0 16).toInt.toNat) (by unfold um; rw [q 215 (by decide)]) (by rw [q 200 (by decide)]) (fun m' _ hlt => ⟨fun i _ => dk_rows (fun k a b => q k (by omega)) (by rw [q 200 (by decide)]) (by rw [q 200 (by decide)]) (by rw [q 200 (by decide)]) (fun u' j hj => egv u' j) u' i, fun o _ => ecs _ _ _, eco _ _ (by omega) (by omega), rv_cong (egs _ _) (txn_cong (fun j hj => by rw [q 220 (by decide)]))⟩) (by rw [rJ]) (by rw [rJ]) (h.MO hu' (by omega)) (Nat.le_refl _)
theorem K_cost {L : List Nat} {σ : Mm} {C : Cr} (hI : Inv C) (hR : Rel L σ C) {a1 a2 a3 : Int32} {Q : Int32 → Mm → List Nat → Prop}
    (h1 : ¬ dWM C a1.toInt a2.toInt → ∀ σ' L', Rel L' σ' C → Q (-101) σ' L')
    (h2 : dWM C a1.toInt a2.toInt → ¬ (1 ≤ a3.toInt ∧ a3.toInt ≤ 1000000) → ∀ σ' L', Rel L' σ' C → Q (-102) σ' L')
    (h3 : dWM C a1.toInt a2.toInt → (1 ≤ a3.toInt ∧ a3.toInt ≤ 1000000) → ¬ dCo3 C a1.toInt a2.toInt a3.toInt → ∀ σ' L', Rel L' σ' C → Q (-103) σ' L')
    (hy : dWM C a1.toInt a2.toInt → (1 ≤ a3.toInt ∧ a3.toInt ≤ 1000000) → dCo3 C a1.toInt a2.toInt a3.toInt → ∀ σ' L' {x9 : Int32}, Rel L' σ' (uCost C a1.toInt a2.toInt a3.toInt) → x9.toInt64 = lZ (C 219 (iW a1.toInt a2.toInt) + a3.toInt) → Q x9 σ' L') : wp_L_cost L σ a1 a2 a3 Q := by
  unfold wp_L_cost wp_X6_cost
  have hnw := hI.nw
  have hnow := hI.now
  have no1 : ¬ dWM C a1.toInt a2.toInt → Q (-101) σ L := fun z => h1 z σ L hR
  have no2 : dWM C a1.toInt a2.toInt → ¬ (1 ≤ a3.toInt ∧ a3.toInt ≤ 1000000) → Q (-102) σ L := fun y z => h2 y z σ L hR
  have no3 : dWM C a1.toInt a2.toInt → (1 ≤ a3.toInt ∧ a3.toInt ≤ 1000000) → ¬ dCo3 C a1.toInt a2.toInt a3.toInt → Q (-103) σ L := fun y y2 z => h3 y y2 z σ L hR
  refine k_wellAt hI hR (jn1 ⟨fun q => Or.inl ⟨rfl, no1 (fun z => ?_)⟩, fun k3 q => k_month hR ⟨fun q2 => ?_, fun q2 => Or.inl ⟨rfl, no1 (fun z => ?_)⟩⟩⟩)
  · rw [if_pos z.1] at q; cases q
  rotate_left
  · rw [Decidable.not_not, bz_0] at q2; exact q2 z.2
  have q2 := (bz_n _).mp q2
  have q1 : 0 ≤ a1.toInt ∧ a1.toInt < C 200 20 := Classical.byContradiction (fun z => by rw [if_neg z] at q; cases q)
  rw [if_pos q1] at q
  cases q
  have hw : a1.toInt.toNat < nW C := by unfold nW; omega
  obtain ⟨m, m61, mn, ea, ta, na⟩ := mo_iZ hI q2
  have hwe := hI.we _ hw
  obtain ⟨u, hu⟩ : ∃ u : Nat, C 216 a1.toInt.toNat = u := ⟨(C 216 a1.toInt.toNat).toNat, by omega⟩
  have huU : u < nU C := by unfold nU; omega
  have hu3 := nU3 hI huU
  have hw6 : a1.toInt.toNat < 6 := by omega
  have ku := kd_u2 u hu3
  have kw := kd_w2 _ hw6
  obtain ⟨g0, g1⟩ := hR.we _ hw
  rw [hu, Int.toNat_natCast] at g0
  have gu := (hR.un u huU).1
  obtain ⟨-, -, gw3⟩ := g1 m m61
  obtain ⟨-, -, -, gc⟩ := (hR.un u huU).2 m m61
  have D1 : dWM C a1.toInt a2.toInt := ⟨q1, q2⟩
  have eW : iW a1.toInt a2.toInt = 61 * a1.toInt.toNat + m := by unfold iW; rw [ta, Int.toNat_natCast]
  have e3 : C 215 (C 216 a1.toInt.toNat).toNat = C 215 u := by rw [hu, Int.toNat_natCast]
  have wm := (hI.wm (61 * a1.toInt.toNat + m) (by omega))
  have rg := co_rg hI u m61
  have v61 : vp_in a2 61 := vin (by omega) (by omega)
  refine jn0 ⟨fun q3 => Or.inr (Or.inl ⟨rfl, no2 D1 ?_⟩), fun q3 => ⟨fun q4 => ?_, fun q4 => Or.inr (Or.inl ⟨rfl, no2 D1 ?_⟩)⟩⟩
  · rw [ltT, t_1] at q3; omega
  rotate_left
  · rw [leT, t_1e6] at q4; omega
  rw [ltT, t_1] at q3
  rw [leT, t_1e6] at q4
  have D2 : 1 ≤ a3.toInt ∧ a3.toInt ≤ 1000000 := ⟨by omega, by omega⟩
  have lw := lv_w hI hR hw
  have lu := lv_u hI hR huU
  have lw3 : LV (Fc ++ L) (130 + 4 * a1.toInt.toNat + 3) 8 := ⟨inF hR (al_w hw (by decide)), kw.1.2.2⟩
  have l4 : LV (Fc ++ L) (100 + 8 * u + 4) 8 := ⟨inF hR (al_u huU (by decide)), ku.1.2.2.2.1⟩
  have v4 : vp_in a2 (ln (100 + 8 * u + 4)) := by rw [ku.2.2.2.2.1]; exact v61
  have vw3 : vp_in a2 (ln (130 + 4 * a1.toInt.toNat + 3)) := by rw [kw.2.2.2]; exact v61
  have t1 : (gI σ (130 + 4 * a1.toInt.toNat + 3) m + a3).toInt = C 219 (61 * a1.toInt.toNat + m) + a3.toInt := by
    rw [ad32 (by rw [gw3]; omega) (by rw [gw3]; omega), gw3]
  have t2 : (gI σ (100 + 8 * u + 4) m + a3).toInt = co C u m + a3.toInt := by
    rw [ad32 (by rw [gc]; omega) (by rw [gc]; omega), gc]
  refine ⟨lw, fun o10 h10 => ⟨100 + 8 * u, by rw [h10, g0], lu, jn0 ⟨fun q5 => Or.inr (Or.inr ⟨rfl, no3 D1 D2 ?_⟩), fun q5 => ⟨lw3, vw3, fun q6 => ?_, fun q6 => Or.inr (Or.inr ⟨rfl, no3 D1 D2 ?_⟩)⟩⟩⟩⟩
  · rw [ltT, gu] at q5
    intro z
    have z : C 215 (C 216 a1.toInt.toNat).toNat ≤ a2.toInt := z.1
    rw [e3] at z
    omega
  rotate_left
  · rw [na, leT, t1, t_1e7] at q6
    intro z
    have z := z.2
    rw [eW] at z
    exact q6 z
  rw [ltT, gu] at q5
  rw [na, leT, t1, t_1e7] at q6
  have D3 : dCo3 C a1.toInt a2.toInt a3.toInt := by
    refine ⟨?_, by rw [eW]; exact q6⟩
    show C 215 (C 216 a1.toInt.toNat).toNat ≤ a2.toInt
    rw [e3]; omega
  refine ⟨vw3, vw3, fun σ19 h19 o20 h20 => ⟨100 + 8 * u, by rw [h20, h19, gR_sI, g0], lu, l4, v4, v4, fun σ27 h27 σ28 h28 => ⟨vw3, ?_⟩⟩⟩
  rw [na] at h19 h27
  have f1 : gI σ19 (100 + 8 * u + 4) = gI σ (100 + 8 * u + 4) := by rw [h19, gI_ne (by omega)]
  rw [f1] at h27
  have k27 : ∀ k, k ≠ 100 + 8 * u + 4 → k ≠ 130 + 4 * a1.toInt.toNat + 3 → gI σ27 k = gI σ k := fun k a b => by
    rw [h27, gI_ne a, h19, gI_ne b]
  rw [k27 0 (by omega) (by omega)] at h28
  have k28 : ∀ k, k ≠ 0 → gI σ28 k = gI σ27 k := fun k hk => by rw [h28, gI_ne hk]
  have hs := set_min hR (a := a2) (by omega) (x := if a2 < gI σ 0 16 then a2 else gI σ 0 16) rfl
  have q9 : ∀ j, uCost C a1.toInt a2.toInt a3.toInt 219 j = if j = 61 * a1.toInt.toNat + m then C 219 (61 * a1.toInt.toNat + m) + a3.toInt else C 219 j := fun j => by
    unfold uCost
    rw [eW]
    by_cases e : j = 61 * a1.toInt.toNat + m
    · rw [if_pos e, e, u2_y]
    · rw [if_neg e, u2_o (Or.inr e)]
  have w3 : ∀ j, gI σ28 (130 + 4 * a1.toInt.toNat + 3) j = if j = m then gI σ (130 + 4 * a1.toInt.toNat + 3) m + a3 else gI σ (130 + 4 * a1.toInt.toNat + 3) j := fun j => by
    rw [k28 _ (by omega), h27, gI_ne (by omega), h19, gI_sI]
    by_cases e : j = m
    · rw [if_pos ⟨rfl, e⟩, if_pos e]
    · rw [if_neg (fun z => e z.2), if_neg e]
  have R28 : Rel L σ28 (uCost C a1.toInt a2.toInt a3.toInt) := by
    refine Rel_cost (c := a3.toInt) (vw := gI σ (130 + 4 * a1.toInt.toNat + 3) m + a3) (vu := gI σ (100 + 8 * u + 4) m + a3) hI hR hw hu huU m61 (fun k a => u2_row a) q9 t1 t2 (by rw [h28, h27, h19]; rfl) (by rw [h28, h27, h19]; rfl) (fun i hi => ?_) (fun k a b c => by rw [k28 k a, k27 k b c]) (fun j => ?_) w3 ?_
    · rw [h28, gI_sI, if_neg (fun z => hi z.2), k27 0 (by omega) (by omega)]
    · rw [k28 _ (by omega), h27, gI_sI]
      by_cases e : j = m
      · rw [if_pos ⟨rfl, e⟩, if_pos e]
      · rw [if_neg (fun z => e z.2), if_neg e, f1]
    · rw [h28, gI_sI, if_pos ⟨rfl, rfl⟩]
      rw [ta] at hs
      exact hs
  refine k_out R28 ?_ (fun R' O' => hy D1 D2 D3 _ _ R' (by rw [eW]; exact O'))
  rw [na, w3, if_pos rfl]
  exact i2lT t1
