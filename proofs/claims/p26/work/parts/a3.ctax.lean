/-! PURE: the class's tax, its consent -/
theorem set_min {C : Cr} {L : List Nat} {σ : Mm} (hR : Rel L σ C) {a x : Int32} (h0 : 0 ≤ a.toInt) (hx : x = if a < gI σ 0 16 then a else gI σ 0 16) : 0 ≤ x.toInt ∧ x.toInt ≤ C 200 0 + 1 ∧ x.toInt ≤ a.toInt ∧ x.toInt ≤ (gI σ 0 16).toInt := by
  have s := hR.set
  rw [hx, uns_T]
  split <;> omega
theorem Rel_tax {L : List Nat} {σ : Mm} {C : Cr} (hI : Inv C) (h : Rel L σ C) {v x : Int32} {m : Nat} {z : Int} (hm : m < 61) (hv : v.toInt = z) (hx : 0 ≤ x.toInt ∧ x.toInt ≤ C 200 0 + 1 ∧ x.toInt ≤ m ∧ x.toInt ≤ (gI σ 0 16).toInt) : Rel L (sI (sI σ 6 m v) 0 16 x) (u2 C 220 m z) := by
  have g : ∀ i, i ≠ 16 → gI (sI (sI σ 6 m v) 0 16 x) 0 i = gI σ 0 i := fun i hi => by rw [gI_sI, if_neg (fun z => hi z.2), gI_ne (by decide)]
  have g16 : gI (sI (sI σ 6 m v) 0 16 x) 0 16 = x := by rw [gI_sI, if_pos ⟨rfl, rfl⟩]
  have hk : ∀ k, 7 ≤ k → gI (sI (sI σ 6 m v) 0 16 x) k = gI σ k := fun k hk => by rw [gI_ne (by omega), gI_ne (by omega)]
  have r : ∀ k, k ≠ 220 → u2 C 220 m z k = C k := fun k hk => u2_row hk
  refine Rel_mid hI h ⟨u2_o (by omega), u2_o (by omega), u2_o (by omega), u2_o (by omega), u2_o (by omega)⟩ (fun k a b => r k (by omega)) rfl (fun k a b => hk k (by omega)) (fun i hi => g i (fun z => by subst z; exact absurd hi (by decide))) ?_ ?_ ?_ ?_ ?_ (fun u hu => un_cong (h.un u hu) (fun i _ => hk _ (by omega)) (by rw [r 215 (by decide)]) (fun m' _ => ⟨fun o _ => csn_cong (fun j _ => by rw [r 221 (by decide)]), ba_cong rfl (fun w _ => ⟨by rw [r 216 (by decide)], by rw [r 217 (by decide)]⟩), gs_cong rfl (fun w _ => ⟨by rw [r 216 (by decide)], by rw [r 217 (by decide)], by rw [r 218 (by decide)]⟩), co_cong rfl (fun w _ => ⟨by rw [r 216 (by decide)], by rw [r 219 (by decide)]⟩)⟩)) (fun w hw => we_cong (h.we w hw) rfl (fun i _ _ => hk _ (by omega)) (by rw [r 216 (by decide)]) (fun m' _ => ⟨by rw [r 217 (by decide)], by rw [r 218 (by decide)], by rw [r 219 (by decide)]⟩)) (fun m' h61 => ?_) (fun o ho => by rw [r 223 (by decide)]; exact h.pd o ho) (fun u hu => ?_)
  · rw [g 0 (by decide), r 200 (by decide)]; exact h.now
  · rw [g 12 (by decide), r 200 (by decide)]; exact h.pen
  · rw [g 14 (by decide), r 200 (by decide)]; exact h.lst
  · rw [g 13 (by decide), r 222 (by decide)]; exact h.sus
  · rw [g16, r 200 (by decide)]; exact ⟨hx.1, hx.2.1⟩
  · rw [gI_ne (by decide), gI_sI]
    by_cases e : m' = m
    · rw [if_pos ⟨rfl, e⟩, e, u2_y, hv]
    · rw [if_neg (fun y => e y.2), u2_o (Or.inr e)]; exact h.tx m' h61
  · rw [g16]
    refine MO_new (n := x.toInt.toNat) (n' := x.toInt.toNat) (by unfold um; rw [r 215 (by decide)]) (by rw [r 200 (by decide)]) (fun m' _ hlt => ⟨fun i _ => dk_rows (fun k a b => r k (by omega)) (by rw [r 200 (by decide)]) (by rw [r 200 (by decide)]) (by rw [r 200 (by decide)]) (fun u' j _ => gv_cong rfl (fun w _ => ⟨by rw [r 216 (by decide)], by rw [r 217 (by decide)]⟩)) u i, fun o _ => csn_cong (fun j _ => by rw [r 221 (by decide)]), co_cong rfl (fun w _ => ⟨by rw [r 216 (by decide)], by rw [r 219 (by decide)]⟩), rv_cong (gs_cong rfl (fun w _ => ⟨by rw [r 216 (by decide)], by rw [r 217 (by decide)], by rw [r 218 (by decide)]⟩)) (txn_cong (fun j hj => u2_o (Or.inr (by omega))))⟩) rfl rfl (h.MO hu (by omega)) (Nat.le_refl _)
theorem mo_iZ {C : Cr} (hI : Inv C) {a : Int32} (h : dMo C a.toInt) : ∃ m : Nat, m < 61 ∧ (m : Int) ≤ C 200 0 ∧ a = iZ (m : Int) ∧ a.toInt = m ∧ a.toNatClampNeg = m := by
  have := hI.now
  exact ⟨a.toInt.toNat, by omega, by omega, by rw [Int.toNat_of_nonneg h.1, iZ_toInt], by omega, rfl⟩
theorem K_tax {L : List Nat} {σ : Mm} {C : Cr} (hI : Inv C) (hR : Rel L σ C) {a1 a2 : Int32} {Q : Int32 → Mm → List Nat → Prop}
    (h1 : ¬ dMo C a2.toInt → ∀ σ' L', Rel L' σ' C → Q (-101) σ' L')
    (h2 : dMo C a2.toInt → ¬ (0 ≤ a1.toInt ∧ a1.toInt ≤ 50) → ∀ σ' L', Rel L' σ' C → Q (-102) σ' L')
    (hy : dMo C a2.toInt → (0 ≤ a1.toInt ∧ a1.toInt ≤ 50) → ∀ σ' L' {x9 : Int32}, Rel L' σ' (u2 C 220 a2.toInt.toNat a1.toInt) → x9.toInt64 = lZ (txn C (a2.toInt.toNat + 1)) → Q x9 σ' L') : wp_L_tax L σ a1 a2 Q := by
  unfold wp_L_tax wp_X6_tax
  have no1 : ¬ dMo C a2.toInt → Q (-101) σ L := fun z => h1 z σ L hR
  have no2 : dMo C a2.toInt → ¬ (0 ≤ a1.toInt ∧ a1.toInt ≤ 50) → Q (-102) σ L := fun y z => h2 y z σ L hR
  refine k_month hR ⟨fun q => ?_, fun q => Or.inl ⟨rfl, no1 (by rwa [Decidable.not_not, bz_0] at q)⟩⟩
  have q := (bz_n _).mp q
  obtain ⟨m, m61, mn, ea, ta, na⟩ := mo_iZ hI q
  refine jn0 ⟨fun q1 => Or.inr ⟨rfl, no2 q ?_⟩, fun q1 => ⟨fun q2 => ?_, fun q2 => Or.inr ⟨rfl, no2 q ?_⟩⟩⟩
  · rw [ltT, t_0] at q1; omega
  · rw [ltT, t_0] at q1; rw [leT, t_50] at q2
    refine k_taxIn hR (by omega) (by omega) ⟨vin (by omega) (by omega), fun σ7 h7 σ8 h8 => ?_⟩
    rw [na] at h7
    have hs := set_min hR (a := a2) (by omega) (x := if a2 < gI σ 0 16 then a2 else gI σ 0 16) rfl
    have e8 : σ8 = sI (sI σ 6 m a1) 0 16 (if a2 < gI σ 0 16 then a2 else gI σ 0 16) := by rw [h8, h7, gI_ne (show 0 ≠ 6 by decide)]
    have R8 : Rel L σ8 (u2 C 220 a2.toInt.toNat a1.toInt) := by
      rw [e8, ta, Int.toNat_natCast]
      exact Rel_tax hI hR m61 rfl (by rw [ta] at hs; exact hs)
    have tr := txn_rg hI (m + 1) (by omega)
    refine k_out R8 ?_ (fun R' O' => hy q ⟨by omega, by omega⟩ _ _ R' O')
    rw [ta, Int.toNat_natCast, show ((m : Int) + 1).toNat = m + 1 from by omega]
    exact i2lT (toInt_iZ (by omega) (by omega))
  · rw [leT, t_50] at q2; omega
/-- consent -/
theorem csn_new1 {C : Cr} (hI : Inv C) {u o : Nat} (hu : u < 3) (ho : o < 10) {v : Int} (hv : v ≠ 0) {m : Nat} (hm : m < 61) : csn (u2 C 221 (610 * u + 61 * o + nN C) v) u o (m + 1) = if nN C ≤ m then v else csn C u o (m + 1) := by
  have hn := hI.now
  have hnN : ((nN C : Nat) : Int) = C 200 0 := by unfold nN; omega
  induction m with
  | zero =>
    by_cases z : nN C ≤ 0
    · rw [if_pos z]
      show (if u2 C 221 (610 * u + 61 * o + nN C) v 221 (610 * u + 61 * o + 0) = 0 then csn (u2 C 221 (610 * u + 61 * o + nN C) v) u o 0 else u2 C 221 (610 * u + 61 * o + nN C) v 221 (610 * u + 61 * o + 0)) = v
      rw [show nN C = 0 from by omega, u2_y, if_neg hv]
    · rw [if_neg z]
      exact csn_cong (fun j hj => u2_o (Or.inr (by omega)))
  | succ m ih =>
    have ih := ih (by omega)
    by_cases z : nN C ≤ m + 1
    · rw [if_pos z]
      show (if u2 C 221 (610 * u + 61 * o + nN C) v 221 (610 * u + 61 * o + (m + 1)) = 0 then csn (u2 C 221 (610 * u + 61 * o + nN C) v) u o (m + 1) else u2 C 221 (610 * u + 61 * o + nN C) v 221 (610 * u + 61 * o + (m + 1))) = v
      by_cases z2 : nN C = m + 1
      · rw [z2, u2_y, if_neg hv]
      · rw [u2_o (Or.inr (by omega)), hI.tf u o (m + 1) hu ho hm (Or.inr (by omega)), if_pos rfl, ih, if_pos (by omega)]
    · rw [if_neg z]
      exact csn_cong (fun j hj => u2_o (Or.inr (by omega)))
theorem csn_new {C : Cr} (hI : Inv C) {u o : Nat} (hu : u < 3) (ho : o < 10) {v : Int} (hv : v ≠ 0) {u' o' m : Nat} (ho' : o' < 10) (hm : m < 61) : csn (u2 C 221 (610 * u + 61 * o + nN C) v) u' o' (m + 1) = if u' = u ∧ o' = o ∧ nN C ≤ m then v else csn C u' o' (m + 1) := by
  have hn := hI.now
  have hnN : ((nN C : Nat) : Int) = C 200 0 := by unfold nN; omega
  by_cases e : u' = u ∧ o' = o
  · rw [e.1, e.2, csn_new1 hI hu ho hv hm]
    by_cases z : nN C ≤ m
    · rw [if_pos z, if_pos ⟨rfl, rfl, z⟩]
    · rw [if_neg z, if_neg (fun y => z y.2.2)]
  · rw [if_neg (fun y => e ⟨y.1, y.2.1⟩)]
    exact csn_cong (fun j hj => u2_o (Or.inr (by omega)))
theorem Rel_con {L : List Nat} {σ σ' : Mm} {C : Cr} (hI : Inv C) (h : Rel L σ C) {u o : Nat} (hu : u < nU C) (ho : o < 10) {v : Int} (hv : v = 1 ∨ v = 2) (r : gR σ' = gR σ) (rJ : gJ σ' = gJ σ) (i0 : ∀ i, i ≠ 16 → gI σ' 0 i = gI σ 0 i) (iK : ∀ k, k ≠ 0 → k ≠ 100 + 8 * u + 1 → gI σ' k = gI σ k) (iB : ∀ m : Nat, m < 61 → ∀ p : Nat, p < 10 → (bt (gI σ' (100 + 8 * u + 1) m) p = true ↔ if p = o ∧ nN C ≤ m then v ≠ 1 else bt (gI σ (100 + 8 * u + 1) m) p = true)) (hx : 0 ≤ (gI σ' 0 16).toInt ∧ (gI σ' 0 16).toInt ≤ C 200 0 + 1 ∧ (gI σ' 0 16).toInt ≤ nN C ∧ (gI σ' 0 16).toInt ≤ (gI σ 0 16).toInt) : Rel L σ' (u2 C 221 (610 * u + 61 * o + nN C) v) := by
  have hu3 := nU3 hI hu
  have hn := hI.now
  have hnN : ((nN C : Nat) : Int) = C 200 0 := by unfold nN; omega
  have hv0 : v ≠ 0 := by omega
  have q : ∀ k, k ≠ 221 → u2 C 221 (610 * u + 61 * o + nN C) v k = C k := fun k hk => u2_row hk
  have cs : ∀ u' o' m : Nat, o' < 10 → m < 61 → csn (u2 C 221 (610 * u + 61 * o + nN C) v) u' o' (m + 1) = if u' = u ∧ o' = o ∧ nN C ≤ m then v else csn C u' o' (m + 1) := fun u' o' m a b => csn_new hI hu3 ho hv0 a b
  generalize u2 C 221 (610 * u + 61 * o + nN C) v = C' at q cs
  have nWe : nW C' = nW C := by unfold nW; rw [q 200 (by decide)]
  refine Rel_mid hI h ⟨by rw [q 200 (by decide)], by rw [q 200 (by decide)], by rw [q 200 (by decide)], by rw [q 200 (by decide)], by rw [q 200 (by decide)]⟩ (fun k a b => q k (by omega)) r (fun k a b => iK k (by omega) (by omega)) (fun i hi => i0 i (fun z => by subst z; exact absurd hi (by decide))) ?_ ?_ ?_ ?_ ?_ (fun u' hu' => ?_) (fun w hw => we_cong (h.we w hw) (by rw [r]) (fun i _ _ => iK _ (by omega) (by omega)) (by rw [q 216 (by decide)]) (fun m' _ => ⟨by rw [q 217 (by decide)], by rw [q 218 (by decide)], by rw [q 219 (by decide)]⟩)) (fun m' h61 => by rw [iK 6 (by decide) (by omega), q 220 (by decide)]; exact h.tx m' h61) (fun o ho => by rw [rJ, q 223 (by decide)]; exact h.pd o ho) (fun u' hu' => ?_)
  · rw [i0 0 (by decide), q 200 (by decide)]; exact h.now
  · rw [i0 12 (by decide), q 200 (by decide)]; exact h.pen
  · rw [i0 14 (by decide), q 200 (by decide)]; exact h.lst
  · rw [i0 13 (by decide), q 222 (by decide)]; exact h.sus
  · rw [q 200 (by decide)]; exact ⟨hx.1, hx.2.1⟩
  · have hu3' := nU3 hI hu'
    obtain ⟨x0, x1⟩ := h.un u' hu'
    refine ⟨by rw [iK _ (by omega) (by omega), q 215 (by decide)]; exact x0, fun m h61 => ?_⟩
    obtain ⟨z1, z2, z3, z4⟩ := x1 m h61
    rw [iK (100 + 8 * u' + 2) (by omega) (by omega), iK (100 + 8 * u' + 3) (by omega) (by omega), iK (100 + 8 * u' + 4) (by omega) (by omega)]
    rw [ba_cong nWe (fun w _ => ⟨by rw [q 216 (by decide)], by rw [q 217 (by decide)]⟩), gs_cong nWe (fun w _ => ⟨by rw [q 216 (by decide)], by rw [q 217 (by decide)], by rw [q 218 (by decide)]⟩), co_cong nWe (fun w _ => ⟨by rw [q 216 (by decide)], by rw [q 219 (by decide)]⟩)]
    refine ⟨fun o' ho' => ?_, z2, z3, z4⟩
    rw [cs u' o' m ho' h61]
    by_cases e : u' = u
    · rw [e, iB m h61 o' ho']
      by_cases e2 : o' = o ∧ nN C ≤ m
      · rw [if_pos e2, if_pos ⟨rfl, e2⟩]
      · rw [if_neg e2, if_neg (fun y => e2 y.2)]
        have := z1 o' ho'
        rw [e] at this
        exact this
    · rw [iK (100 + 8 * u' + 1) (by omega) (by omega), if_neg (fun y => e y.1)]
      exact z1 o' ho'
  · refine MO_new (n := (gI σ' 0 16).toInt.toNat) (n' := (gI σ' 0 16).toInt.toNat) (by unfold um; rw [q 215 (by decide)]) (by rw [q 200 (by decide)]) (fun m' _ hlt => ⟨fun i _ => dk_rows (fun k a b => q k (by omega)) (by rw [q 200 (by decide)]) (by rw [q 200 (by decide)]) (by rw [q 200 (by decide)]) (fun u' j _ => gv_cong nWe (fun w _ => ⟨by rw [q 216 (by decide)], by rw [q 217 (by decide)]⟩)) u' i, fun o' ho' => ?_, co_cong nWe (fun w _ => ⟨by rw [q 216 (by decide)], by rw [q 219 (by decide)]⟩), rv_cong (gs_cong nWe (fun w _ => ⟨by rw [q 216 (by decide)], by rw [q 217 (by decide)], by rw [q 218 (by decide)]⟩)) (txn_cong (fun j hj => by rw [q 220 (by decide)]))⟩) (by rw [rJ]) (by rw [rJ]) (h.MO hu' (by omega)) (Nat.le_refl _)
    rw [cs u' o' m' ho' (by omega), if_neg (fun y => by omega)]
theorem K_consent {L : List Nat} {σ : Mm} {C : Cr} (hI : Inv C) (hR : Rel L σ C) {a1 a2 a3 : Int32} {Q : Int32 → Mm → List Nat → Prop}
    (hn : ¬ dUO C a1.toInt a2.toInt → ∀ σ' L', Rel L' σ' C → Q (-101) σ' L')
    (hy : dUO C a1.toInt a2.toInt → ∀ σ' L' {x9 : Int32}, Rel L' σ' (u2 C 221 (iC C a1.toInt a2.toInt) (if a3 = 0 then 2 else 1)) → x9 = bz (csn C a1.toInt.toNat a2.toInt.toNat (nN C + 1) = 1) → Q x9 σ' L') : wp_L_consent L σ a1 a2 a3 Q := by
  unfold wp_L_consent wp_X6_consent
  have hnw := hI.now
  have hnN : ((nN C : Nat) : Int) = C 200 0 := by unfold nN; omega
  have hnu := hI.nu
  refine k_unitAt hI hR (jn1 ⟨fun q => ⟨rfl, hn (fun z => ?_) σ L hR⟩, fun k3 q => k_owner ⟨fun q2 => ?_, fun q2 => ⟨rfl, hn (fun z => ?_) σ L hR⟩⟩⟩)
  · rw [if_pos z.1] at q; cases q
  rotate_left
  · rw [Decidable.not_not, bz_0] at q2; exact q2 z.2
  have q2 := (bz_n _).mp q2
  have q1 : dUn C a1.toInt := Classical.byContradiction (fun z => by rw [if_neg z] at q; cases q)
  rw [if_pos q1] at q
  cases q
  obtain ⟨o, ho, rfl⟩ := ow_iZ q2
  obtain ⟨u, hu⟩ : ∃ u : Nat, a1.toInt = u := ⟨a1.toInt.toNat, by omega⟩
  have to : (iZ (o : Int)).toInt = o := n_iZ (by omega)
  have huU : u < nU C := by unfold nU; omega
  have hu3 := nU3 hI huU
  have k := kd_u2 u hu3
  rw [to, hu, Int.toNat_natCast, Int.toNat_natCast] at hy
  rw [hu, Int.toNat_natCast]
  have hy := hy ⟨by rw [← hu]; exact q1, by rw [← to]; exact q2⟩
  have eC : iC C (u : Int) (o : Int) = 610 * u + 61 * o + nN C := rfl
  rw [eC] at hy
  have l1 : LV (Fc ++ L) (100 + 8 * u + 1) 8 := ⟨inF hR (al_u huU (by decide)), k.1.1⟩
  have g0 := hR.now
  have n0 : (gI σ 0 0).toNatClampNeg = nN C := by rw [cl_T, g0]; rfl
  refine ⟨lv_u hI hR huU, l1, by rw [k.2.1]; exact vin (by omega) (by omega), ?_⟩
  rw [n0]
  have hb := ((hR.un u huU).2 (nN C) (by omega)).1 o ho
  refine k_hasBit (by omega) ?_
  have fin : ∀ x13 : Int32, x13 = bz (csn C u o (nN C + 1) = 1) → ∀ x15 : Int32, x15 = gI σ 0 0 → ∃ n : Nat, lpw (S := Mm × Int32) (fun (R18 : Mm × Int32 → Prop) (s19 : Mm × Int32) => match s19 with | (σ16, x17) => ((61 ≤ x17 → wp_X6_unsettle L σ16 (gI σ16 0 0) (fun (σ20 : Mm) => zb x13 ∧ ∃ J9 : Int32 → Prop, (∀ (x8 : Int32), J9 x8 → Q x8 σ20 L) ∧ ((x13 = 0 → J9 0) ∧ (¬ (x13 = 0) → J9 1)))) ∧ (¬ (61 ≤ x17) → vp_in x17 (ln (100 + 8 * u + 1)) ∧ (∃ J23 : Int32 → Prop, (∀ (x22 : Int32), J23 x22 → wp_X6_withBit L σ16 (gI σ16 (100 + 8 * u + 1) x17.toNatClampNeg) (iZ (o : Int)) x22 (fun (x25 : Int32) (σ24 : Mm) => vp_in x17 (ln (100 + 8 * u + 1)) ∧ ∀ σ27 : Mm, σ27 = sI σ24 (100 + 8 * u + 1) x17.toNatClampNeg x25 → ∀ x28 : Int32, x28 = x17 + 1 → R18 (σ27, x28))) ∧ ((¬ a3 = 0 → J23 0) ∧ (¬ (¬ a3 = 0) → J23 1)))))) n (σ, x15) := by
    intro x13 h13 x15 h15
    have e15 : x15 = iZ ((nN C + 0 : Nat) : Int) := by rw [h15, ← iZ_toInt (gI σ 0 0), g0, ← hnN]; rfl
    refine lpw_inv (fun i (s : Mm × Int32) => s.2 = iZ ((nN C + i : Nat) : Int) ∧ gR s.1 = gR σ ∧ gJ s.1 = gJ σ ∧ (∀ k, k ≠ 100 + 8 * u + 1 → gI s.1 k = gI σ k) ∧ ∀ m : Nat, m < 61 → ∀ p : Nat, p < 32 → (bt (gI s.1 (100 + 8 * u + 1) m) p = true ↔ if p = o ∧ nN C ≤ m ∧ m < nN C + i then a3 = 0 else bt (gI σ (100 + 8 * u + 1) m) p = true)) (61 - nN C) ⟨e15, rfl, rfl, fun _ _ => rfl, fun m _ p _ => by rw [if_neg (by omega)]⟩ ?_
    intro i s rec hi hs0 hrec
    obtain ⟨σ16, x17⟩ := s
    obtain ⟨e17, r16, j16, k16, B16⟩ := hs0
    dsimp only at e17 r16 j16 k16 B16
    subst e17
    have ti1 : (iZ ((nN C + i : Nat) : Int)).toInt = (nN C + i : Nat) := n_iZ (by omega)
    have ni : (iZ ((nN C + i : Nat) : Int)).toNatClampNeg = nN C + i := nat_iZ (by omega)
    refine ⟨fun q σ20 h20 => ?_, fun q => ?_⟩
    · rw [leT, t_61, ti1] at q
      rw [k16 0 (by omega)] at h20
      have e20 := set_min hR (a := gI σ 0 0) (by omega) (x := if gI σ 0 0 < gI σ 0 16 then gI σ 0 0 else gI σ 0 16) rfl
      have R20 : Rel L σ20 (u2 C 221 (610 * u + 61 * o + nN C) (if a3 = 0 then 2 else 1)) := by
        refine Rel_con hI hR huU ho (by by_cases z : a3 = 0 <;> simp [z]) (by rw [h20]; exact r16) (by rw [h20]; exact j16) (fun i hi => ?_) (fun k hk hk2 => ?_) (fun m hm p hp => ?_) ?_
        · rw [h20, gI_sI, if_neg (fun z => hi z.2), k16 0 (by omega)]
        · rw [h20, gI_ne hk, k16 k hk2]
        · rw [h20, gI_ne (by omega), B16 m hm p (by omega)]
          by_cases z : p = o ∧ nN C ≤ m
          · rw [if_pos z, if_pos ⟨z.1, z.2, by omega⟩]
            by_cases y : a3 = 0 <;> simp [y]
          · rw [if_neg z, if_neg (fun y => z ⟨y.1, y.2.1⟩)]
        · rw [h20, gI_sI, if_pos ⟨rfl, rfl⟩]
          omega
      refine ⟨by rw [h13]; exact zb_bz _, ?_⟩
      exact k_outb R20 h13 (fun R' x9 O' => hy _ _ R' O')
    · rw [leT, t_61, ti1] at q
      have hrec := hrec (by omega)
      have v : vp_in (iZ ((nN C + i : Nat) : Int)) (ln (100 + 8 * u + 1)) := by rw [k.2.1]; exact vin (by omega) (by omega)
      rw [ni]
      have step : ∀ x22 : Int32, (¬ x22 = 0 ↔ a3 = 0) → wp_X6_withBit L σ16 (gI σ16 (100 + 8 * u + 1) (nN C + i)) (iZ (o : Int)) x22 (fun (x25 : Int32) (σ24 : Mm) => vp_in (iZ ((nN C + i : Nat) : Int)) (ln (100 + 8 * u + 1)) ∧ ∀ σ27 : Mm, σ27 = sI σ24 (100 + 8 * u + 1) (nN C + i) x25 → ∀ x28 : Int32, x28 = iZ ((nN C + i : Nat) : Int) + 1 → rec (σ27, x28)) := by
        intro x22 h22
        refine k_withBit (by omega) (fun x25 h25 => ⟨v, fun σ27 h27 x28 h28 => hrec _ ⟨?_, ?_, ?_, fun k hk => ?_, fun m hm p hp => ?_⟩⟩)
        · show x28 = _
          rw [h28, iZ_s]; rfl
        · show gR σ27 = _
          rw [h27]; exact r16
        · show gJ σ27 = _
          rw [h27]; exact j16
        · show gI σ27 k = _
          rw [h27, gI_ne hk, k16 k hk]
        · show bt (gI σ27 (100 + 8 * u + 1) m) p = true ↔ _
          rw [h27, gI_sI]
          by_cases z : m = nN C + i
          · rw [if_pos ⟨rfl, z⟩, h25 p hp]
            by_cases y : p = o
            · rw [if_pos y, if_pos ⟨y, by omega, by omega⟩, h22]
            · rw [if_neg y, if_neg (fun w => y w.1), ← z, B16 m hm p hp, if_neg (fun w => y w.1)]
          · rw [if_neg (fun w => z w.2), B16 m hm p hp]
            by_cases y : p = o ∧ nN C ≤ m ∧ m < nN C + i
            · rw [if_pos y, if_pos ⟨y.1, y.2.1, by omega⟩]
            · rw [if_neg y, if_neg (fun w => y ⟨w.1, w.2.1, by omega⟩)]
      refine ⟨v, jn1 ⟨fun z => step 0 ⟨fun w => absurd rfl w, fun w => absurd w z⟩, fun z => step 1 ⟨fun _ => Decidable.not_not.mp z, fun _ => by decide⟩⟩⟩
  refine jn1 ⟨fun z => fin 0 ?_, fun z => fin 1 ?_⟩
  · have z := (bz_n _).mp z
    exact (bz_no (hb.mp z)).symm
  · rw [Decidable.not_not, bz_0] at z
    exact (bz_y (Decidable.not_not.mp (fun w => z (hb.mpr w)))).symm
