/-! PURE: the class's oil and costs -/
theorem sm_chg {f g : Nat → Int} {w : Nat} : ∀ {n : Nat}, w < n → (∀ k, k < n → k ≠ w → g k = f k) → sm g n = sm f n + (g w - f w)
  | 0, h, _ => by omega
  | n + 1, h, hk => by
    rw [sm_s, sm_s]
    by_cases e : w = n
    · subst e
      rw [sm_cong (f := g) (g := f) (fun k hk2 => hk k (by omega) (by omega))]
      omega
    · rw [sm_chg (f := f) (g := g) (w := w) (n := n) (by omega) (fun k hk2 => hk k (by omega)), hk n (by omega) (by omega)]
      omega
theorem Rel_oil {L : List Nat} {σ σ' : Mm} {C C' : Cr} (hI : Inv C) (h : Rel L σ C) {u w m : Nat} (hw : w < nW C) (hu : C 216 w = u) (huU : u < nU C) (hm : m < 61) {b p : Int} {vb vp vB vG : Int32} (q : ∀ k, k ≠ 217 → k ≠ 218 → C' k = C k) (q7 : ∀ j, C' 217 j = if j = 61 * w + m then b else C 217 j) (q8 : ∀ j, C' 218 j = if j = 61 * w + m then p else C 218 j) (hb : vb.toInt = b) (hp : vp.toInt = p) (hB : vB.toInt = ba C u m + (b - C 217 (61 * w + m))) (hG : vG.toInt = gs C u m + (b * p - C 217 (61 * w + m) * C 218 (61 * w + m))) (r : gR σ' = gR σ) (rJ : gJ σ' = gJ σ) (i0 : ∀ i, i ≠ 16 → gI σ' 0 i = gI σ 0 i) (iK : ∀ k, k ≠ 0 → k ≠ 100 + 8 * u + 2 → k ≠ 100 + 8 * u + 3 → k ≠ 130 + 4 * w + 1 → k ≠ 130 + 4 * w + 2 → gI σ' k = gI σ k) (i2 : ∀ j, gI σ' (100 + 8 * u + 2) j = if j = m then vB else gI σ (100 + 8 * u + 2) j) (i3 : ∀ j, gI σ' (100 + 8 * u + 3) j = if j = m then vG else gI σ (100 + 8 * u + 3) j) (w1 : ∀ j, gI σ' (130 + 4 * w + 1) j = if j = m then vb else gI σ (130 + 4 * w + 1) j) (w2 : ∀ j, gI σ' (130 + 4 * w + 2) j = if j = m then vp else gI σ (130 + 4 * w + 2) j) (hx : 0 ≤ (gI σ' 0 16).toInt ∧ (gI σ' 0 16).toInt ≤ C 200 0 + 1 ∧ (gI σ' 0 16).toInt ≤ m ∧ (gI σ' 0 16).toInt ≤ (gI σ 0 16).toInt) : Rel L σ' C' := by
  have hu3 := nU3 hI huU
  have hnw := hI.nw
  have hw6 : nW C ≤ 6 := by unfold nW; omega
  have nWe : nW C' = nW C := by unfold nW; rw [q 200 (by decide) (by decide)]
  have oth : ∀ w' m' : Nat, m' < 61 → (w' ≠ w ∨ m' ≠ m) → C' 217 (61 * w' + m') = C 217 (61 * w' + m') ∧ C' 218 (61 * w' + m') = C 218 (61 * w' + m') := fun w' m' h61 hne => by
    rw [q7, q8, if_neg (by omega), if_neg (by omega)]
    exact ⟨rfl, rfl⟩
  have e216 : ∀ w', C' 216 w' = C 216 w' := fun w' => by rw [q 216 (by decide) (by decide)]
  have eco : ∀ (u' : Int) (m' : Nat), co C' u' m' = co C u' m' := fun u' m' => co_cong nWe (fun w' _ => ⟨e216 w', by rw [q 219 (by decide) (by decide)]⟩)
  have eba : ∀ (u' : Int) (m' : Nat), m' < 61 → m' ≠ m → ba C' u' m' = ba C u' m' := fun u' m' a b => ba_cong nWe (fun w' _ => ⟨e216 w', (oth w' m' a (Or.inr b)).1⟩)
  have egs : ∀ (u' : Int) (m' : Nat), m' < 61 → m' ≠ m → gs C' u' m' = gs C u' m' := fun u' m' a b => gs_cong nWe (fun w' _ => ⟨e216 w', (oth w' m' a (Or.inr b)).1, (oth w' m' a (Or.inr b)).2⟩)
  have eba2 : ∀ (u' : Int), ba C' u' m = ba C u' m + (if C 216 w = u' then b - C 217 (61 * w + m) else 0) := fun u' => by
    unfold ba
    rw [nWe, sm_chg (f := fun w => if C 216 w = u' then C 217 (61 * w + m) else 0) (w := w) hw (fun k _ hne => by rw [e216, (oth k m hm (Or.inl hne)).1]), e216, q7, if_pos rfl]
    by_cases z : C 216 w = u'
    · rw [if_pos z, if_pos z, if_pos z]
    · rw [if_neg z, if_neg z, if_neg z]; omega
  have egs2 : ∀ (u' : Int), gs C' u' m = gs C u' m + (if C 216 w = u' then b * p - C 217 (61 * w + m) * C 218 (61 * w + m) else 0) := fun u' => by
    unfold gs
    rw [nWe, sm_chg (f := fun w => if C 216 w = u' then C 217 (61 * w + m) * C 218 (61 * w + m) else 0) (w := w) hw (fun k _ hne => by rw [e216, (oth k m hm (Or.inl hne)).1, (oth k m hm (Or.inl hne)).2]), e216, q7, q8, if_pos rfl, if_pos rfl]
    by_cases z : C 216 w = u'
    · rw [if_pos z, if_pos z, if_pos z]
    · rw [if_neg z, if_neg z, if_neg z]; omega
  have ecs : ∀ u' o n, csn C' u' o n = csn C u' o n := fun u' o n => csn_cong (fun j _ => by rw [q 221 (by decide) (by decide)])
  refine Rel_mid hI h ⟨by rw [q 200 (by decide) (by decide)], by rw [q 200 (by decide) (by decide)], by rw [q 200 (by decide) (by decide)], by rw [q 200 (by decide) (by decide)], by rw [q 200 (by decide) (by decide)]⟩ (fun k a b => q k (by omega) (by omega)) r (fun k a b => iK k (by omega) (by omega) (by omega) (by omega) (by omega)) (fun i hi => i0 i (fun z => by subst z; exact absurd hi (by decide))) ?_ ?_ ?_ ?_ ?_ (fun u' hu' => ?_) (fun w' hw' => ?_) (fun m' h61 => by rw [iK 6 (by decide) (by omega) (by omega) (by omega) (by omega), q 220 (by decide) (by decide)]; exact h.tx m' h61) (fun o ho => by rw [rJ, q 223 (by decide) (by decide)]; exact h.pd o ho) (fun u' hu' => ?_)
  · rw [i0 0 (by decide), q 200 (by decide) (by decide)]; exact h.now
  · rw [i0 12 (by decide), q 200 (by decide) (by decide)]; exact h.pen
  · rw [i0 14 (by decide), q 200 (by decide) (by decide)]; exact h.lst
  · rw [i0 13 (by decide), q 222 (by decide) (by decide)]; exact h.sus
  · rw [q 200 (by decide) (by decide)]; exact ⟨hx.1, hx.2.1⟩
  · have hu3' := nU3 hI hu'
    obtain ⟨x0, x1⟩ := h.un u' hu'
    refine ⟨by rw [iK _ (by omega) (by omega) (by omega) (by omega) (by omega), q 215 (by decide) (by decide)]; exact x0, fun m' h61 => ?_⟩
    obtain ⟨z1, z2, z3, z4⟩ := x1 m' h61
    rw [iK (100 + 8 * u' + 1) (by omega) (by omega) (by omega) (by omega) (by omega), iK (100 + 8 * u' + 4) (by omega) (by omega) (by omega) (by omega) (by omega), eco]
    refine ⟨fun o ho => by rw [ecs]; exact z1 o ho, ?_, ?_, z4⟩
    · by_cases e : u' = u
      · rw [e, i2]
        rw [e] at z2
        by_cases em : m' = m
        · rw [if_pos em, hB, em, eba2, if_pos hu]
        · rw [if_neg em, eba _ _ h61 em]; exact z2
      · rw [iK (100 + 8 * u' + 2) (by omega) (by omega) (by omega) (by omega) (by omega)]
        by_cases em : m' = m
        · rw [em, eba2, if_neg (by omega), Int.add_zero, ← em]; exact z2
        · rw [eba _ _ h61 em]; exact z2
    · by_cases e : u' = u
      · rw [e, i3]
        rw [e] at z3
        by_cases em : m' = m
        · rw [if_pos em, hG, em, egs2, if_pos hu]
        · rw [if_neg em, egs _ _ h61 em]; exact z3
      · rw [iK (100 + 8 * u' + 3) (by omega) (by omega) (by omega) (by omega) (by omega)]
        by_cases em : m' = m
        · rw [em, egs2, if_neg (by omega), Int.add_zero, ← em]; exact z3
        · rw [egs _ _ h61 em]; exact z3
  · obtain ⟨x0, x1⟩ := h.we w' hw'
    refine ⟨by rw [r, e216]; exact x0, fun m' h61 => ?_⟩
    obtain ⟨z1, z2, z3⟩ := x1 m' h61
    rw [iK (130 + 4 * w' + 3) (by omega) (by omega) (by omega) (by omega) (by omega), q 219 (by decide) (by decide)]
    by_cases e : w' = w
    · rw [e] at z1 z2 z3 ⊢
      rw [w1, w2]
      by_cases em : m' = m
      · rw [if_pos em, if_pos em, q7, q8, if_pos (by omega), if_pos (by omega), hb, hp]
        exact ⟨rfl, rfl, z3⟩
      · rw [if_neg em, if_neg em, (oth w m' h61 (Or.inr em)).1, (oth w m' h61 (Or.inr em)).2]
        exact ⟨z1, z2, z3⟩
    · rw [iK (130 + 4 * w' + 1) (by omega) (by omega) (by omega) (by omega) (by omega), iK (130 + 4 * w' + 2) (by omega) (by omega) (by omega) (by omega) (by omega), (oth w' m' h61 (Or.inl e)).1, (oth w' m' h61 (Or.inl e)).2]
      exact ⟨z1, z2, z3⟩
  · exact MO_new (n := (gI σ' 0 16).toInt.toNat) (n' := (gI σ' 0 16).toInt.toNat) (by unfold um; rw [q 215 (by decide) (by decide)]) (by rw [q 200 (by decide) (by decide)]) (fun m' _ hlt => ⟨fun i _ => dk_rows (fun k a b => q k (by omega) (by omega)) (by rw [q 200 (by decide) (by decide)]) (by rw [q 200 (by decide) (by decide)]) (by rw [q 200 (by decide) (by decide)]) (fun u' j hj => gv_cong nWe (fun w' _ => ⟨e216 w', (oth w' j (by omega) (Or.inr (by omega))).1⟩)) u' i, fun o _ => ecs _ _ _, eco _ _, rv_cong (egs _ _ (by omega) (by omega)) (txn_cong (fun j hj => by rw [q 220 (by decide) (by decide)]))⟩) (by rw [rJ]) (by rw [rJ]) (h.MO hu' (by omega)) (Nat.le_refl _)
theorem K_oil {L : List Nat} {σ : Mm} {C : Cr} (hI : Inv C) (hR : Rel L σ C) {a1 a2 a3 a4 : Int32} {Q : Int32 → Mm → List Nat → Prop}
    (h1 : ¬ dWM C a1.toInt a2.toInt → ∀ σ' L', Rel L' σ' C → Q (-101) σ' L')
    (h2 : dWM C a1.toInt a2.toInt → ¬ dOil2 a3.toInt a4.toInt → ∀ σ' L', Rel L' σ' C → Q (-102) σ' L')
    (h3 : dWM C a1.toInt a2.toInt → dOil2 a3.toInt a4.toInt → ¬ dOil3 C a1.toInt a2.toInt → ∀ σ' L', Rel L' σ' C → Q (-103) σ' L')
    (hy : dWM C a1.toInt a2.toInt → dOil2 a3.toInt a4.toInt → dOil3 C a1.toInt a2.toInt → ∀ σ' L' {x9 : Int32}, Rel L' σ' (uOil C a1.toInt a2.toInt a3.toInt a4.toInt) → x9.toInt64 = lZ (C 217 (iW a1.toInt a2.toInt)) → Q x9 σ' L') : wp_L_oil L σ a1 a2 a3 a4 Q := by
  unfold wp_L_oil wp_X6_oil
  have hnw := hI.nw
  have hnow := hI.now
  have no1 : ¬ dWM C a1.toInt a2.toInt → Q (-101) σ L := fun z => h1 z σ L hR
  have no2 : dWM C a1.toInt a2.toInt → ¬ dOil2 a3.toInt a4.toInt → Q (-102) σ L := fun y z => h2 y z σ L hR
  have no3 : dWM C a1.toInt a2.toInt → dOil2 a3.toInt a4.toInt → ¬ dOil3 C a1.toInt a2.toInt → Q (-103) σ L := fun y y2 z => h3 y y2 z σ L hR
  refine k_wellAt hI hR (jn1 ⟨fun q => Or.inl ⟨rfl, no1 (fun z => ?_)⟩, fun k3 q => k_month hR ⟨fun q2 => ?_, fun q2 => Or.inl ⟨rfl, no1 (fun z => ?_)⟩⟩⟩)
  · rw [if_pos z.1] at q; cases q
  rotate_left
  · rw [Decidable.not_not, bz_0] at q2; exact q2 z.2
  have q2 := (bz_n _).mp q2
  have q1 : 0 ≤ a1.toInt ∧ a1.toInt < C 200 20 := Classical.byContradiction (fun z => by rw [if_neg z] at q; cases q)
  rw [if_pos q1] at q
  cases q
  have hw : a1.toInt.toNat < nW C := by unfold nW; omega
  obtain ⟨m, m61, mn, ea, ta, na⟩ := mo_iZ hI q2
  have hwe := hI.we _ hw
  obtain ⟨u, hu⟩ : ∃ u : Nat, C 216 a1.toInt.toNat = u := ⟨(C 216 a1.toInt.toNat).toNat, by omega⟩
  have huU : u < nU C := by unfold nU; omega
  have hu3 := nU3 hI huU
  have hw6 : a1.toInt.toNat < 6 := by omega
  have ku := kd_u2 u hu3
  have kw := kd_w2 _ hw6
  obtain ⟨g0, g1⟩ := hR.we _ hw
  rw [hu, Int.toNat_natCast] at g0
  have gu := (hR.un u huU).1
  obtain ⟨gw1, gw2, -⟩ := g1 m m61
  obtain ⟨-, gb, gg, -⟩ := (hR.un u huU).2 m m61
  have D1 : dWM C a1.toInt a2.toInt := ⟨q1, q2⟩
  refine jn0 ⟨fun q3 => Or.inr (Or.inl ⟨rfl, no2 D1 ?_⟩), fun q3 => ⟨fun q4 => Or.inr (Or.inl ⟨rfl, no2 D1 ?_⟩), fun q4 => ⟨fun q5 => Or.inr (Or.inl ⟨rfl, no2 D1 ?_⟩), fun q5 => ⟨fun q6 => ?_, fun q6 => Or.inr (Or.inl ⟨rfl, no2 D1 ?_⟩)⟩⟩⟩⟩
  · rw [ltT, t_0] at q3; omega
  · rw [ltT, t_1000] at q4; omega
  · rw [ltT, t_0] at q5; omega
  rotate_left
  · rw [leT, t_1e4] at q6; omega
  rw [ltT, t_0] at q3
  rw [ltT, t_1000] at q4
  rw [ltT, t_0] at q5
  rw [leT, t_1e4] at q6
  have D2 : dOil2 a3.toInt a4.toInt := ⟨⟨by omega, by omega⟩, ⟨by omega, by omega⟩⟩
  have lw := lv_w hI hR hw
  have lu := lv_u hI hR huU
  have e3 : C 215 (C 216 a1.toInt.toNat).toNat = C 215 u := by rw [hu, Int.toNat_natCast]
  refine ⟨lw, fun o10 h10 => ⟨100 + 8 * u, by rw [h10, g0], lu, fun q7 => ?_, fun q7 => Or.inr (Or.inr ⟨rfl, no3 D1 D2 ?_⟩)⟩⟩
  rotate_left
  · rw [leT, gu] at q7
    intro z
    have z : C 215 (C 216 a1.toInt.toNat).toNat ≤ a2.toInt := z
    rw [e3] at z
    exact q7 z
  rw [leT, gu] at q7
  have D3 : dOil3 C a1.toInt a2.toInt := by
    show C 215 (C 216 a1.toInt.toNat).toNat ≤ a2.toInt
    rw [e3]; exact q7
  have l2 : LV (Fc ++ L) (100 + 8 * u + 2) 8 := ⟨inF hR (al_u huU (by decide)), ku.1.2.1⟩
  have l3 : LV (Fc ++ L) (100 + 8 * u + 3) 8 := ⟨inF hR (al_u huU (by decide)), ku.1.2.2.1⟩
  have lw1 : LV (Fc ++ L) (130 + 4 * a1.toInt.toNat + 1) 8 := ⟨inF hR (al_w hw (by decide)), kw.1.1⟩
  have lw2 : LV (Fc ++ L) (130 + 4 * a1.toInt.toNat + 2) 8 := ⟨inF hR (al_w hw (by decide)), kw.1.2.1⟩
  have v61 : vp_in a2 61 := vin (by omega) (by omega)
  have v2 : vp_in a2 (ln (100 + 8 * u + 2)) := by rw [ku.2.2.1]; exact v61
  have v3 : vp_in a2 (ln (100 + 8 * u + 3)) := by rw [ku.2.2.2.1]; exact v61
  have vw1 : vp_in a2 (ln (130 + 4 * a1.toInt.toNat + 1)) := by rw [kw.2.1]; exact v61
  have vw2 : vp_in a2 (ln (130 + 4 * a1.toInt.toNat + 2)) := by rw [kw.2.2.1]; exact v61
  have eW : iW a1.toInt a2.toInt = 61 * a1.toInt.toNat + m := by unfold iW; rw [ta, Int.toNat_natCast]
  refine ⟨lw1, vw1, fun x16 h16 => ⟨lw, fun o2 h2 => ⟨100 + 8 * u, by rw [h2, g0], lu, l2, v2, lw1, vw1, v2, fun σ11 h11 o12 h12 => ⟨100 + 8 * u, by rw [h12, h11, gR_sI, g0], lu, l3, v3, vw1, lw2, vw2, v3, fun σ22 h22 => ⟨vw1, fun σ24 h24 => ⟨vw2, fun σ26 h26 σ18 h18 => ?_⟩⟩⟩⟩⟩⟩
  rw [na] at h16 h11 h22 h24 h26
  have wm := (hI.wm (61 * a1.toInt.toNat + m) (by omega))
  have rg := gs_rg hI u m61
  have rb : ba C u m = ba C u m := rfl
  have hbv : 0 ≤ ba C u m ∧ ba C u m ≤ 6000 := by
    have l : ∀ w, w < nW C → 0 ≤ (if C 216 w = (u : Int) then C 217 (61 * w + m) else 0) ∧ (if C 216 w = (u : Int) then C 217 (61 * w + m) else 0) ≤ 1000 := fun w hw => by
      have := (hI.wm (61 * w + m) (by unfold nW at hw; omega)).1
      split <;> omega
    have l1 : 0 ≤ ba C u m := sm_nn (fun w hw => (l w hw).1)
    have l2 : ba C u m ≤ sm (fun _ => (1000 : Int)) (nW C) := sm_le (fun w hw => (l w hw).2)
    rw [sm_const] at l2
    unfold nW at l2
    omega
  have p1 : 0 ≤ a3.toInt * a4.toInt := Int.mul_nonneg (by omega) (by omega)
  have p2 : a3.toInt * a4.toInt ≤ 1000 * 10000 := Int.mul_le_mul (by omega) (by omega) (by omega) (by omega)
  have p3 : 0 ≤ C 217 (61 * a1.toInt.toNat + m) * C 218 (61 * a1.toInt.toNat + m) := Int.mul_nonneg (by omega) (by omega)
  have p4 : C 217 (61 * a1.toInt.toNat + m) * C 218 (61 * a1.toInt.toNat + m) ≤ 1000 * 10000 := Int.mul_le_mul (by omega) (by omega) (by omega) (by omega)
  have m1 : (a3 * a4).toInt = a3.toInt * a4.toInt := ml32 (by omega) (by omega)
  have m2 : (gI σ (130 + 4 * a1.toInt.toNat + 1) m * gI σ (130 + 4 * a1.toInt.toNat + 2) m).toInt = C 217 (61 * a1.toInt.toNat + m) * C 218 (61 * a1.toInt.toNat + m) := by
    rw [ml32 (by rw [gw1, gw2]; omega) (by rw [gw1, gw2]; omega), gw1, gw2]
  have t1 : (a3 - gI σ (130 + 4 * a1.toInt.toNat + 1) m).toInt = a3.toInt - C 217 (61 * a1.toInt.toNat + m) := by
    rw [sb32 (by rw [gw1]; omega) (by rw [gw1]; omega), gw1]
  have t2 : (a3 * a4 - gI σ (130 + 4 * a1.toInt.toNat + 1) m * gI σ (130 + 4 * a1.toInt.toNat + 2) m).toInt = a3.toInt * a4.toInt - C 217 (61 * a1.toInt.toNat + m) * C 218 (61 * a1.toInt.toNat + m) := by
    rw [sb32 (by rw [m1, m2]; omega) (by rw [m1, m2]; omega), m1, m2]
  have hB : (gI σ (100 + 8 * u + 2) m + (a3 - gI σ (130 + 4 * a1.toInt.toNat + 1) m)).toInt = ba C u m + (a3.toInt - C 217 (61 * a1.toInt.toNat + m)) := by
    rw [ad32 (by rw [gb, t1]; omega) (by rw [gb, t1]; omega), gb, t1]
  have hG : (gI σ (100 + 8 * u + 3) m + (a3 * a4 - gI σ (130 + 4 * a1.toInt.toNat + 1) m * gI σ (130 + 4 * a1.toInt.toNat + 2) m)).toInt = gs C u m + (a3.toInt * a4.toInt - C 217 (61 * a1.toInt.toNat + m) * C 218 (61 * a1.toInt.toNat + m)) := by
    rw [ad32 (by rw [gg, t2]; omega) (by rw [gg, t2]; omega), gg, t2]
  have f1 : gI σ11 (100 + 8 * u + 3) = gI σ (100 + 8 * u + 3) := by rw [h11, gI_ne (by omega)]
  have f2 : gI σ11 (130 + 4 * a1.toInt.toNat + 1) = gI σ (130 + 4 * a1.toInt.toNat + 1) := by rw [h11, gI_ne (by omega)]
  have f3 : gI σ11 (130 + 4 * a1.toInt.toNat + 2) = gI σ (130 + 4 * a1.toInt.toNat + 2) := by rw [h11, gI_ne (by omega)]
  rw [f1, f2, f3] at h22
  generalize gI σ (100 + 8 * u + 2) m + (a3 - gI σ (130 + 4 * a1.toInt.toNat + 1) m) = vB at h11 hB
  generalize gI σ (100 + 8 * u + 3) m + (a3 * a4 - gI σ (130 + 4 * a1.toInt.toNat + 1) m * gI σ (130 + 4 * a1.toInt.toNat + 2) m) = vG at h22 hG
  have k26 : ∀ k, k ≠ 100 + 8 * u + 2 → k ≠ 100 + 8 * u + 3 → k ≠ 130 + 4 * a1.toInt.toNat + 1 → k ≠ 130 + 4 * a1.toInt.toNat + 2 → gI σ26 k = gI σ k := fun k a b c d => by
    rw [h26, gI_ne d, h24, gI_ne c, h22, gI_ne b, h11, gI_ne a]
  rw [k26 0 (by omega) (by omega) (by omega) (by omega)] at h18
  have k18 : ∀ k, k ≠ 0 → gI σ18 k = gI σ26 k := fun k hk => by rw [h18, gI_ne hk]
  have hs := set_min hR (a := a2) (by omega) (x := if a2 < gI σ 0 16 then a2 else gI σ 0 16) rfl
  have q7 : ∀ j, uOil C a1.toInt a2.toInt a3.toInt a4.toInt 217 j = if j = 61 * a1.toInt.toNat + m then a3.toInt else C 217 j := fun j => by
    unfold uOil
    rw [u2_o (Or.inl (by decide)), eW]
    by_cases e : j = 61 * a1.toInt.toNat + m
    · rw [if_pos e, e, u2_y]
    · rw [if_neg e, u2_o (Or.inr e)]
  have q8 : ∀ j, uOil C a1.toInt a2.toInt a3.toInt a4.toInt 218 j = if j = 61 * a1.toInt.toNat + m then a4.toInt else C 218 j := fun j => by
    unfold uOil
    rw [eW]
    by_cases e : j = 61 * a1.toInt.toNat + m
    · rw [if_pos e, e, u2_y]
    · rw [if_neg e, u2_o (Or.inr e), u2_o (Or.inl (by decide))]
  have R18 : Rel L σ18 (uOil C a1.toInt a2.toInt a3.toInt a4.toInt) := by
    refine Rel_oil (vb := a3) (vp := a4) (vB := vB) (vG := vG) hI hR hw hu huU m61 (fun k a b => (u2_row b).trans (u2_row a)) q7 q8 rfl rfl hB hG (by rw [h18, h26, h24, h22, h11]; rfl) (by rw [h18, h26, h24, h22, h11]; rfl) (fun i hi => ?_) (fun k a b c d e => by rw [k18 k a, k26 k b c d e]) (fun j => ?_) (fun j => ?_) (fun j => ?_) (fun j => ?_) ?_
    · rw [h18, gI_sI, if_neg (fun z => hi z.2), k26 0 (by omega) (by omega) (by omega) (by omega)]
    · rw [k18 _ (by omega), h26, gI_ne (by omega), h24, gI_ne (by omega), h22, gI_ne (by omega), h11, gI_sI]
      by_cases e : j = m
      · rw [if_pos ⟨rfl, e⟩, if_pos e]
      · rw [if_neg (fun z => e z.2), if_neg e]
    · rw [k18 _ (by omega), h26, gI_ne (by omega), h24, gI_ne (by omega), h22, gI_sI]
      by_cases e : j = m
      · rw [if_pos ⟨rfl, e⟩, if_pos e]
      · rw [if_neg (fun z => e z.2), if_neg e, h11, gI_ne (by omega)]
    · rw [k18 _ (by omega), h26, gI_ne (by omega), h24, gI_sI]
      by_cases e : j = m
      · rw [if_pos ⟨rfl, e⟩, if_pos e]
      · rw [if_neg (fun z => e z.2), if_neg e, h22, gI_ne (by omega), f2]
    · rw [k18 _ (by omega), h26, gI_sI]
      by_cases e : j = m
      · rw [if_pos ⟨rfl, e⟩, if_pos e]
      · rw [if_neg (fun z => e z.2), if_neg e, h24, gI_ne (by omega), h22, gI_ne (by omega), f3]
    · rw [h18, gI_sI, if_pos ⟨rfl, rfl⟩]
      rw [ta] at hs
      exact hs
  refine k_out R18 ?_ (fun R' O' => hy D1 D2 D3 _ _ R' (by rw [eW]; exact O'))
  rw [h16]
  exact i2lT gw1
