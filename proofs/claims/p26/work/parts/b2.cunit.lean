/-! PURE: the class makes a unit -/
theorem k_hasTract {L : List Nat} {σ : Mm} {C : Cr} (hI : Inv C) (hR : Rel L σ C) {a1 : Int32} {Q : Int32 → Mm → Prop} (h1 : (∃ t, t < nT C ∧ bt a1 t = true ∧ C 203 t ≠ -1) → Q 1 σ) (h0 : (∀ t, t < nT C → bt a1 t = true → C 203 t = -1) → Q 0 σ) : wp_X6_hasTractOfUnit L σ a1 Q := by
  have ht := hI.nt
  have hT : nT C ≤ 8 := by unfold nT; omega
  refine lpw_inv (fun i (s : Mm × Int32) => s.1 = σ ∧ s.2 = iZ (i : Int) ∧ ∀ t, t < i → t < nT C → bt a1 t = true → C 203 t = -1) 8 ⟨rfl, rfl, fun t z => by omega⟩ ?_
  intro i s rec hi hs0 hrec
  obtain ⟨σ1, x2⟩ := s
  obtain ⟨e1, e2, P⟩ := hs0
  dsimp only at e1 e2 P
  subst e1 e2
  have ti1 : (iZ (i : Int)).toInt = i := n_iZ (by omega)
  have ni : (iZ (i : Int)).toNatClampNeg = i := nat_iZ (by omega)
  refine ⟨fun q => h0 (fun t z => ?_), fun q => ⟨vin (by omega) (by rw [leT, t_8, ti1] at q; omega), fun o6 h6 => ?_⟩⟩
  · rw [leT, t_8, ti1] at q
    exact P t (by omega) z
  · rw [leT, t_8, ti1] at q
    have hrec := hrec (by omega)
    rw [ni, hR.g1 i (by omega)] at h6
    have nx : (i < nT C → bt a1 i = true → C 203 i = -1) → ∀ x10 : Int32, x10 = iZ (i : Int) + 1 → rec (σ1, x10) := fun hp x10 h10 => hrec _ ⟨rfl, by rw [h10, iZ_s], fun t z1 z2 z3 => by
      by_cases e : t = i
      · rw [e] at z2 z3 ⊢; exact hp z2 z3
      · exact P t (by omega) z2 z3⟩
    by_cases hlt : i < nT C
    · rw [if_pos hlt] at h6
      subst h6
      have g2 := (hR.tr i hlt).2.2
      have r203 := (hI.tr i hlt).2.2
      refine jn1 ⟨fun z => (by cases z), fun k7 z => ?_⟩
      cases z
      refine k_hasBit (by omega) ⟨fun z => nx (fun _ y => ?_), fun z => ⟨lv_t hI hR hlt, fun o14 h14 => ⟨fun y => nx (fun _ _ => ?_), fun k15 y => h1 ⟨i, hlt, (bz_n _).mp z, fun w => ?_⟩⟩⟩⟩
      · rw [bz_0] at z; exact absurd y z
      · rw [y, g2] at h14
        apply Classical.byContradiction
        intro w
        rw [if_neg w] at h14
        cases h14
      · rw [y, g2, if_pos w] at h14
        cases h14
    · rw [if_neg hlt] at h6
      subst h6
      exact jn1 ⟨fun _ => nx (fun y => absurd y hlt), fun k7 z => (by cases z)⟩
theorem csn_one {C : Cr} {u o : Nat} : ∀ {n : Nat}, (∀ j, j < n → C 221 (610 * u + 61 * o + j) = 0) → csn C u o n = 1
  | 0, _ => rfl
  | n + 1, h => by
    show (if C 221 (610 * u + 61 * o + n) = 0 then csn C u o n else C 221 (610 * u + 61 * o + n)) = 1
    rw [if_pos (h n (by omega))]
    exact csn_one (fun j hj => h j (by omega))
theorem Rel_unit {L : List Nat} {σ σ' : Mm} {C C' : Cr} (hI : Inv C) (h : Rel L σ C) {a v0 : Int32} (D2 : dUn2 C a) (q : ∀ k, k ≠ 200 → k ≠ 203 → k ≠ 215 → C' k = C k) (q0 : ∀ i, i ≠ 18 → C' 200 i = C 200 i) (q18 : C' 200 18 = C 200 18 + 1) (q203 : ∀ t, C' 203 t = if t < nT C ∧ bt a t = true then C 200 18 else C 203 t) (q215 : ∀ j, C' 215 j = if j = nU C then C 200 0 else C 215 j) (i0 : ∀ i, i ≠ 8 → i ≠ 16 → gI σ' 0 i = gI σ 0 i) (i8 : (gI σ' 0 8).toInt = C 200 18 + 1) (iK : ∀ k, k ≠ 0 → ¬ (100 + 8 * nU C ≤ k ∧ k ≤ 100 + 8 * nU C + 4) → gI σ' k = gI σ k) (iz0 : gI σ' (100 + 8 * nU C) 0 = v0) (hv0 : v0.toInt = C 200 0) (iz : ∀ k, 100 + 8 * nU C < k → k ≤ 100 + 8 * nU C + 4 → ∀ i, gI σ' k i = 0) (jK : ∀ k, k ≠ 100 + 8 * nU C + 5 → k ≠ 100 + 8 * nU C + 6 → gJ σ' k = gJ σ k) (rr' : ∀ j i, gR σ' j i = if j = 4 ∧ i = nU C then some (100 + 8 * nU C) else if 20 ≤ j ∧ j < 20 + nT C ∧ i = 2 ∧ bt a (j - 20) = true then some (100 + 8 * nU C) else gR σ j i) (hx : 0 ≤ (gI σ' 0 16).toInt ∧ (gI σ' 0 16).toInt ≤ C 200 0 + 1 ∧ (gI σ' 0 16).toInt ≤ C 200 0 ∧ (gI σ' 0 16).toInt ≤ (gI σ 0 16).toInt) : Rel (L ++ [100 + 8 * nU C, 100 + 8 * nU C + 1, 100 + 8 * nU C + 2, 100 + 8 * nU C + 3, 100 + 8 * nU C + 4, 100 + 8 * nU C + 5, 100 + 8 * nU C + 6]) σ' C' := by
  have xt := hI.nt
  have xd := hI.nd
  have xs := hI.ns
  have xu := hI.nu
  have xn := hI.now
  have u3 := D2.1
  have hnU : ((nU C : Nat) : Int) = C 200 18 := by unfold nU; omega
  have hT : nT C ≤ 8 := by unfold nT; omega
  have hD : nD C ≤ 40 := by unfold nD; omega
  have hS : nS C ≤ 16 := by unfold nS; omega
  have nTe : nT C' = nT C := by unfold nT; rw [q0 1 (by decide)]
  have nDe : nD C' = nD C := by unfold nD; rw [q0 5 (by decide)]
  have nSe : nS C' = nS C := by unfold nS; rw [q0 11 (by decide)]
  have nUe : nU C' = nU C + 1 := by unfold nU; rw [q18]; omega
  have nWe : nW C' = nW C := by unfold nW; rw [q0 20 (by decide)]
  have hal : ∀ k, al C' k ↔ (al C k ∨ (100 + 8 * nU C ≤ k ∧ k ≤ 100 + 8 * nU C + 6)) := fun k => by
    unfold al
    rw [nTe, nDe, nSe, nUe, nWe]
    omega
  have rK : ∀ j, j ≠ 4 → ¬ (20 ≤ j ∧ j < 28) → gR σ' j = gR σ j := fun j a b => by
    funext i
    rw [rr', if_neg (fun z => a z.1), if_neg (fun z => b ⟨z.1, by have := z.2.1; omega⟩)]
  have qq : ∀ k, k ≠ 200 → k ≠ 203 → k ≠ 215 → ∀ i, C' k i = C k i := fun k a b c i => by rw [q k a b c]
  have gve : ∀ (u : Int) m, gv C' u m ↔ gv C u m := fun u m => gv_cong nWe (fun w _ => ⟨qq 216 (by decide) (by decide) (by decide) _, qq 217 (by decide) (by decide) (by decide) _⟩)
  have cse : ∀ u o n, csn C' u o n = csn C u o n := fun u o n => csn_cong (fun j _ => qq 221 (by decide) (by decide) (by decide) _)
  have gse : ∀ (u : Int) m, gs C' u m = gs C u m := fun u m => gs_cong nWe (fun w _ => ⟨qq 216 (by decide) (by decide) (by decide) _, qq 217 (by decide) (by decide) (by decide) _, qq 218 (by decide) (by decide) (by decide) _⟩)
  have bae : ∀ (u : Int) m, ba C' u m = ba C u m := fun u m => ba_cong nWe (fun w _ => ⟨qq 216 (by decide) (by decide) (by decide) _, qq 217 (by decide) (by decide) (by decide) _⟩)
  have coe : ∀ (u : Int) m, co C' u m = co C u m := fun u m => co_cong nWe (fun w _ => ⟨qq 216 (by decide) (by decide) (by decide) _, qq 219 (by decide) (by decide) (by decide) _⟩)
  have tie : ∀ (t : Nat) (o m : Int), ti C' t o m = ti C t o m := ti_rows (q 202 (by decide) (by decide) (by decide)) (q 204 (by decide) (by decide) (by decide)) (q 205 (by decide) (by decide) (by decide)) (q 206 (by decide) (by decide) (by decide)) (q 207 (by decide) (by decide) (by decide)) (q 208 (by decide) (by decide) (by decide)) (q0 5 (by decide))
  refine ⟨fun k => ?_, by rw [i0 0 (by decide) (by decide), q0 0 (by decide)]; exact h.now, by rw [i0 2 (by decide) (by decide), q0 1 (by decide)]; exact h.tc, by rw [i0 4 (by decide) (by decide), q0 5 (by decide)]; exact h.dc, by rw [i0 6 (by decide) (by decide), q0 11 (by decide)]; exact h.lc, by rw [i8, q18], by rw [i0 10 (by decide) (by decide), q0 20 (by decide)]; exact h.wc, by rw [i0 12 (by decide) (by decide), q0 27 (by decide)]; exact h.pen, by rw [i0 14 (by decide) (by decide), q0 28 (by decide)]; exact h.lst, by rw [i0 13 (by decide) (by decide), q 222 (by decide) (by decide) (by decide)]; exact h.sus, by rw [q0 0 (by decide)]; exact ⟨hx.1, hx.2.1⟩, by rw [rK 1 (by decide) (by omega), nTe]; exact h.g1, by rw [rK 2 (by decide) (by omega), nDe]; exact h.g2, by rw [rK 3 (by decide) (by omega), nSe]; exact h.g3, fun u h8 => ?_, by rw [rK 5 (by decide) (by omega), nWe]; exact h.g5, fun j i k z => ?_, fun t htl => ?_, fun d hdl => ?_, fun l hll => ?_, fun u hu => ?_, fun w hw => ?_, fun m hm => by rw [iK 6 (by decide) (by omega), q 220 (by decide) (by decide) (by decide)]; exact h.tx m hm, fun o ho => by rw [jK 7 (by omega) (by omega), q 223 (by decide) (by decide) (by decide)]; exact h.pd o ho, fun u m' hu h1 h2 o ho => ?_⟩
  · rw [List.mem_append, hal, h.inL k]
    refine or_congr Iff.rfl ?_
    simp only [List.mem_cons, List.not_mem_nil, or_false]
    omega
  · rw [rr', nUe]
    by_cases e : u = nU C
    · rw [if_pos ⟨rfl, e⟩, if_pos (by omega), e]
    · rw [if_neg (fun z => e z.2), if_neg (fun z : 20 ≤ 4 ∧ 4 < 20 + nT C ∧ u = 2 ∧ bt a (4 - 20) = true => absurd z.1 (by decide)), h.g4 u h8]
      by_cases e2 : u < nU C
      · rw [if_pos e2, if_pos (by omega)]
      · rw [if_neg e2, if_neg (by omega)]
  · rw [hal]
    rw [rr'] at z
    by_cases e : j = 4 ∧ i = nU C
    · rw [if_pos e] at z
      have z := Option.some.inj z
      exact Or.inr ⟨by omega, by omega⟩
    · rw [if_neg e] at z
      by_cases e2 : 20 ≤ j ∧ j < 20 + nT C ∧ i = 2 ∧ bt a (j - 20) = true
      · rw [if_pos e2] at z
        have z := Option.some.inj z
        exact Or.inr ⟨by omega, by omega⟩
      · rw [if_neg e2] at z
        exact Or.inl (h.rr j i k z)
  · rw [nTe] at htl
    obtain ⟨x1, x2, x3⟩ := h.tr t htl
    rw [iK (20 + t) (by omega) (by omega), q 201 (by decide) (by decide) (by decide), q 202 (by decide) (by decide) (by decide)]
    refine ⟨x1, x2, ?_⟩
    rw [rr', if_neg (by omega), q203]
    by_cases e : bt a t = true
    · rw [if_pos (show 20 ≤ 20 + t ∧ 20 + t < 20 + nT C ∧ 2 = 2 ∧ bt a (20 + t - 20) = true from ⟨by omega, by omega, rfl, by rw [Nat.add_sub_cancel_left]; exact e⟩), if_pos (show t < nT C ∧ bt a t = true from ⟨htl, e⟩), if_neg (show ¬ C 200 18 = -1 by omega)]
      rfl
    · rw [if_neg (show ¬ (20 ≤ 20 + t ∧ 20 + t < 20 + nT C ∧ 2 = 2 ∧ bt a (20 + t - 20) = true) from fun z => e (by have := z.2.2.2; rwa [Nat.add_sub_cancel_left] at this)), if_neg (show ¬ (t < nT C ∧ bt a t = true) from fun z => e z.2)]
      exact x3
  · rw [nDe] at hdl
    rw [iK (30 + d) (by omega) (by omega), rK (30 + d) (by omega) (by omega), q 204 (by decide) (by decide) (by decide), q 205 (by decide) (by decide) (by decide), q 206 (by decide) (by decide) (by decide), q 207 (by decide) (by decide) (by decide), q 208 (by decide) (by decide) (by decide)]
    exact h.de d hdl
  · rw [nSe] at hll
    rw [iK (70 + l) (by omega) (by omega), rK (70 + l) (by omega) (by omega), q 209 (by decide) (by decide) (by decide), q 210 (by decide) (by decide) (by decide), q 211 (by decide) (by decide) (by decide), q 212 (by decide) (by decide) (by decide), q 213 (by decide) (by decide) (by decide), q 214 (by decide) (by decide) (by decide)]
    exact h.le l hll
  · rw [nUe] at hu
    by_cases e : u = nU C
    · have c1 : ∀ o m, o < 10 → m < 61 → csn C' u o (m + 1) = 1 := fun o m ho hm => by
        rw [cse]
        exact csn_one (fun j hj => hI.tf u o j (by omega) ho (by omega) (Or.inl (by omega)))
      have nw : ∀ w, w < nW C → ¬ C 216 w = (u : Int) := fun w hw => by
        have := (hI.we w hw).2
        omega
      refine ⟨by rw [e, iz0, q215, if_pos rfl]; exact hv0, fun m hm => ?_⟩
      rw [iz (100 + 8 * u + 1) (by omega) (by omega), iz (100 + 8 * u + 2) (by omega) (by omega), iz (100 + 8 * u + 3) (by omega) (by omega), iz (100 + 8 * u + 4) (by omega) (by omega), bae, gse, coe]
      refine ⟨fun o ho => ?_, ?_, ?_, ?_⟩
      · rw [bt_z, c1 o m ho hm]
        simp
      · exact (sm_zero (fun w hw => if_neg (nw w hw))).symm
      · exact (sm_zero (fun w hw => if_neg (nw w hw))).symm
      · exact (sm_zero (fun w hw => if_neg (nw w hw))).symm
    · exact un_cong (h.un u (by omega)) (fun i _ => iK _ (by omega) (by omega)) (by rw [q215, if_neg e]) (fun m _ => ⟨fun o _ => cse u o (m + 1), bae u m, gse u m, coe u m⟩)
  · rw [nWe] at hw
    exact we_cong (h.we w hw) (rK _ (by omega) (by omega)) (fun i _ _ => iK _ (by omega) (by omega)) (qq 216 (by decide) (by decide) (by decide) _) (fun m _ => ⟨qq 217 (by decide) (by decide) (by decide) _, qq 218 (by decide) (by decide) (by decide) _, qq 219 (by decide) (by decide) (by decide) _⟩)
  · rw [nUe] at hu
    by_cases e : u = nU C
    · have : um C' u = (C 200 0).toNat := by unfold um; rw [q215, if_pos e]
      omega
    · have ume : um C' u = um C u := by unfold um; rw [q215, if_neg e]
      refine MO_new (n := m' + 1) (n' := m' + 1) ume (q0 27 (by decide)) (fun m'' _ hlt => ⟨fun i _ => ?_, fun o _ => cse u o (m'' + 1), coe u m'', rv_cong (gse u m'') (txn_cong (fun j _ => qq 220 (by decide) (by decide) (by decide) _))⟩) (jK _ (by omega) (by omega)) (jK _ (by omega) (by omega)) (h.MO (u := u) (by omega) (by omega)) (Nat.le_refl _) m' h1 (by omega) o ho
      refine dk_cong nTe (fun t htl o _ => cb_cong ?_ (fun e203 => ?_))
      · rw [q203]
        by_cases z : t < nT C ∧ bt a t = true
        · have := D2.2 t z.1 z.2
          rw [if_pos z]
          constructor <;> (intro y; omega)
        · rw [if_neg z]
      · have nb : ¬ (t < nT C ∧ bt a t = true) := fun z => by
          have := D2.2 t z.1 z.2
          omega
        refine ⟨qq 201 (by decide) (by decide) (by decide) _, tie t o m'', lo_cong (q0 11 (by decide)) (q 209 (by decide) (by decide) (by decide)) (q 210 (by decide) (by decide) (by decide)) (fun k _ hk => hl_cong (qq 209 (by decide) (by decide) (by decide) _) (qq 213 (by decide) (by decide) (by decide) _) (qq 214 (by decide) (by decide) (by decide) _) ?_ (fun u j _ => gve u j)), fun k _ => ⟨qq 211 (by decide) (by decide) (by decide) _, qq 212 (by decide) (by decide) (by decide) _⟩⟩
        rw [hk, Int.toNat_natCast, q203, if_neg nb]
theorem freshU {L : List Nat} {σ : Mm} {C : Cr} (hI : Inv C) (hR : Rel L σ C) (h3 : C 200 18 < 3) {i : Nat} (hi : i < 7) : nwS L σ (100 + 8 * nU C + i) := by
  have xt := hI.nt
  have xd := hI.nd
  have xs := hI.ns
  have xu := hI.nu
  refine fresh hI hR (fun z => ?_) (by omega) (fun j hj c hc => ?_)
  · unfold al nT nD nS nU at z
    omega
  · have r := al_rg hI hj
    have := sb_c j (by omega) c hc
    unfold al nT nD nS nU at hj
    unfold nU
    omega
theorem K_unit {L : List Nat} {σ : Mm} {C : Cr} (hI : Inv C) (hR : Rel L σ C) {a1 : Int32} {Q : Int32 → Mm → List Nat → Prop}
    (h1 : ¬ dUn1 C a1 → ∀ σ' L', Rel L' σ' C → Q (-102) σ' L')
    (h2 : dUn1 C a1 → ¬ dUn2 C a1 → ∀ σ' L', Rel L' σ' C → Q (-103) σ' L')
    (hy : dUn1 C a1 → dUn2 C a1 → ∀ σ' L' {x9 : Int32}, Rel L' σ' (uUnit C a1) → x9.toInt64 = lZ (C 200 18) → Q x9 σ' L') : wp_L_unit L σ a1 Q := by
  unfold wp_L_unit wp_X6_unit
  have ht := hI.nt
  have hu := hI.nu
  have hnw := hI.now
  have hT : nT C ≤ 8 := by unfold nT; omega
  have hnT : ((nT C : Nat) : Int) = C 200 1 := by unfold nT; omega
  have hnU : ((nU C : Nat) : Int) = C 200 18 := by unfold nU; omega
  have g2 := hR.tc
  have g8 := hR.uc
  have g0 := hR.now
  have no1 : ¬ dUn1 C a1 → Q (-102) σ L := fun z => h1 z σ L hR
  have no2 : dUn1 C a1 → ¬ dUn2 C a1 → Q (-103) σ L := fun y z => h2 y z σ L hR
  have e2 : gI σ 0 2 = iZ ((nT C : Nat) : Int) := by rw [← iZ_toInt (gI σ 0 2), g2, ← hnT]
  have sok := set_ok a1 hT
  rw [e2, ush_0 a1 (by omega)]
  refine jn0 ⟨fun q => Or.inl ⟨rfl, no1 (fun z => (sok.mpr z).1 q)⟩, fun q => ⟨fun q2 => ?_, fun q2 => Or.inl ⟨rfl, no1 (fun z => q2 (sok.mpr z).2)⟩⟩⟩
  have D1 : dUn1 C a1 := sok.mp ⟨q, q2⟩
  refine k_hasTract hI hR (fun hex => ?_) (fun hall => ?_)
  · obtain ⟨t, t1, t2, t3⟩ := hex
    exact jn0 ⟨fun _ => Or.inr ⟨rfl, no2 D1 (fun z => t3 (z.2 t t1 t2))⟩, fun z => absurd (by decide) z⟩
  refine jn0 ⟨fun z => absurd rfl z, fun _ => ⟨fun q3 => ?_, fun q3 => Or.inr ⟨rfl, no2 D1 (fun z => q3 (by rw [ltT, g8, t_3]; exact z.1))⟩⟩⟩
  rw [ltT, g8, t_3] at q3
  have D2 : dUn2 C a1 := ⟨q3, hall⟩
  refine ⟨100 + 8 * nU C, ⟨kd_u _ (by omega), freshU hI hR q3 (i := 0) (by decide), freshU hI hR q3 (i := 1) (by decide), freshU hI hR q3 (i := 2) (by decide), freshU hI hR q3 (i := 3) (by decide), freshU hI hR q3 (i := 4) (by decide), freshU hI hR q3 (i := 5) (by decide), freshU hI hR q3 (i := 6) (by decide)⟩, fun σ8 h8 => ?_⟩
  have i8 : ∀ k, ¬ (100 + 8 * nU C ≤ k ∧ k ≤ 100 + 8 * nU C + 4) → gI σ8 k = gI σ k := fun k hk => by
    funext b
    rw [h8]
    show (if k = 100 + 8 * nU C then (if b = 0 then gI σ 0 0 else 0) else if 100 + 8 * nU C < k ∧ k ≤ 100 + 8 * nU C + 4 then (0 : Int32) else σ.1 k b) = _
    rw [if_neg (by omega), if_neg (by omega)]; rfl
  have i8z : ∀ k, 100 + 8 * nU C < k → k ≤ 100 + 8 * nU C + 4 → ∀ b, gI σ8 k b = 0 := fun k hk hk2 b => by
    rw [h8]
    show (if k = 100 + 8 * nU C then (if b = 0 then gI σ 0 0 else 0) else if 100 + 8 * nU C < k ∧ k ≤ 100 + 8 * nU C + 4 then (0 : Int32) else σ.1 k b) = _
    rw [if_neg (by omega), if_pos ⟨hk, hk2⟩]
  have i80 : gI σ8 (100 + 8 * nU C) 0 = gI σ 0 0 := by
    rw [h8]
    show (if 100 + 8 * nU C = 100 + 8 * nU C then (if 0 = 0 then gI σ 0 0 else 0) else if 100 + 8 * nU C < 100 + 8 * nU C ∧ 100 + 8 * nU C ≤ 100 + 8 * nU C + 4 then (0 : Int32) else σ.1 (100 + 8 * nU C) 0) = _
    rw [if_pos rfl, if_pos rfl]
  have j8 : ∀ k, k ≠ 100 + 8 * nU C + 5 → k ≠ 100 + 8 * nU C + 6 → gJ σ8 k = gJ σ k := fun k a b => by
    funext i
    rw [h8]
    show (if k = 100 + 8 * nU C + 5 ∨ k = 100 + 8 * nU C + 6 then (0 : Int64) else σ.2.1 k i) = _
    rw [if_neg (by omega)]; rfl
  have r8 : gR σ8 = gR σ := by rw [h8]; rfl
  refine lpw_inv (fun i (s : Mm × Int32) => s.2 = iZ (i : Int) ∧ gI s.1 = gI σ8 ∧ gJ s.1 = gJ σ8 ∧ ∀ j b, gR s.1 j b = if 20 ≤ j ∧ j < 20 + i ∧ j < 20 + nT C ∧ b = 2 ∧ bt a1 (j - 20) = true then some (100 + 8 * nU C) else gR σ j b) 8 ⟨rfl, rfl, rfl, fun j b => by rw [if_neg (by omega)]; show gR σ8 j b = _; rw [r8]⟩ ?_
  intro i s rec hi hs0 hrec
  obtain ⟨σ9, x10⟩ := s
  obtain ⟨e10, i9, j9, r9⟩ := hs0
  dsimp only at e10 i9 j9 r9
  subst e10
  have ti1 : (iZ (i : Int)).toInt = i := n_iZ (by omega)
  have ni : (iZ (i : Int)).toNatClampNeg = i := nat_iZ (by omega)
  refine ⟨fun q4 => ?_, fun q4 => ⟨vin (by omega) (by rw [leT, t_8, ti1] at q4; omega), fun o18 h18 => ?_⟩⟩
  rotate_left
  · rw [leT, t_8, ti1] at q4
    have hrec := hrec (by omega)
    have r91 : gR σ9 1 i = gR σ 1 i := by rw [r9, if_neg (by omega)]
    rw [ni, r91, hR.g1 i (by omega)] at h18
    have skip : ¬ (i < nT C ∧ bt a1 i = true) → ∀ x22 : Int32, x22 = iZ (i : Int) + 1 → rec (σ9, x22) := fun hp x22 h22 => hrec _ ⟨by rw [h22, iZ_s], i9, j9, fun j b => by
      show gR σ9 j b = _
      rw [r9]
      by_cases e : 20 ≤ j ∧ j < 20 + i ∧ j < 20 + nT C ∧ b = 2 ∧ bt a1 (j - 20) = true
      · rw [if_pos e, if_pos ⟨e.1, by omega, e.2.2⟩]
      · rw [if_neg e, if_neg (fun z => ?_)]
        by_cases w : j = 20 + i
        · refine hp ⟨by omega, ?_⟩
          have := z.2.2.2.2
          rwa [w, Nat.add_sub_cancel_left] at this
        · exact e ⟨z.1, by omega, z.2.2⟩⟩
    by_cases hlt : i < nT C
    · rw [if_pos hlt] at h18
      subst h18
      refine jn1 ⟨fun z => (by cases z), fun k19 z => ?_⟩
      cases z
      refine k_hasBit (by omega) ⟨fun z => skip (fun y => ?_), fun z => ⟨⟨List.mem_append_right _ (List.mem_append_left _ ((hR.inL _).mpr (Or.inl ⟨by omega, by omega⟩))), kd_t _ (by omega)⟩, fun σ26 h26 x22 h22 => hrec _ ⟨by rw [h22, iZ_s], ?_, ?_, fun j b => ?_⟩⟩⟩
      · rw [bz_0] at z; exact z y.2
      · show gI σ26 = _
        rw [h26]; exact i9
      · show gJ σ26 = _
        rw [h26]; exact j9
      · show gR σ26 j b = _
        have z := (bz_n _).mp z
        rw [h26, gR_sR]
        by_cases e : j = 20 + i ∧ b = 2
        · rw [if_pos e, if_pos ⟨by omega, by omega, by omega, e.2, by rw [e.1, Nat.add_sub_cancel_left]; exact z⟩]
        · rw [if_neg e, r9]
          by_cases e2 : 20 ≤ j ∧ j < 20 + i ∧ j < 20 + nT C ∧ b = 2 ∧ bt a1 (j - 20) = true
          · rw [if_pos e2, if_pos ⟨e2.1, by omega, e2.2.2⟩]
          · rw [if_neg e2, if_neg (fun w => e2 ⟨w.1, by
              have := w.2.1
              have : j ≠ 20 + i := fun y => e ⟨y, w.2.2.2.1⟩
              omega, w.2.2⟩)]
    · rw [if_neg hlt] at h18
      subst h18
      exact jn1 ⟨fun _ => skip (fun y => hlt y.1), fun k19 z => (by cases z)⟩
  rw [leT, t_8, ti1] at q4
  have e : i = 8 := by omega
  subst e
  clear hrec
  have i90 : gI σ9 0 = gI σ 0 := by rw [i9, i8 0 (by omega)]
  have n8 : (gI σ 0 8).toNatClampNeg = nU C := by rw [cl_T, g8]; rfl
  rw [i90]
  refine ⟨vin (by omega) (by rw [g8]; omega), fun σ14 h14 σ15 h15 σ16 h16 => ?_⟩
  rw [n8] at h14
  have i14 : gI σ14 = gI σ9 := by rw [h14, gI_sR]
  rw [i14, i90] at h15
  have g15 : gI σ15 0 8 = gI σ 0 8 := by rw [h15, gI_sI, if_neg (by decide), i14, i90]
  rw [g15] at h16
  rw [g15]
  have t2 : (gI σ 0 8 + 1).toInt = C 200 18 + 1 := by rw [ad32 (by rw [g8, t_1]; omega) (by rw [g8, t_1]; omega), g8, t_1]
  have hs := set_min hR (a := gI σ 0 0) (by omega) (x := if gI σ 0 0 < gI σ 0 16 then gI σ 0 0 else gI σ 0 16) rfl
  have kk : ∀ k, k ≠ 0 → gI σ16 k = gI σ8 k := fun k hk => by rw [h16, gI_ne hk, h15, gI_ne hk, i14, i9]
  have R16 : Rel (L ++ [100 + 8 * nU C, 100 + 8 * nU C + 1, 100 + 8 * nU C + 2, 100 + 8 * nU C + 3, 100 + 8 * nU C + 4, 100 + 8 * nU C + 5, 100 + 8 * nU C + 6]) σ16 (uUnit C a1) := by
    refine Rel_unit (v0 := gI σ 0 0) hI hR D2 (fun k a b c => ?_) (fun i hi => ?_) ?_ (fun t => ?_) (fun j => ?_) (fun i hi hi2 => ?_) ?_ (fun k a b => by rw [kk k a, i8 k b]) ?_ g0 (fun k a b i => by rw [kk k (by omega), i8z k a b]) (fun k a b => ?_) (fun j b => ?_) ?_
    · unfold uUnit
      rw [u2_row a, u2_row c]
      exact funext (fun i => uT_o b)
    · unfold uUnit
      rw [u2_o (Or.inr hi), u2_o (Or.inl (by decide)), uT_o (by decide)]
    · unfold uUnit
      rw [u2_y]
    · unfold uUnit
      rw [u2_o (Or.inl (by decide)), u2_o (Or.inl (by decide))]
      unfold uT
      by_cases e : t < nT C ∧ bt a1 t = true
      · rw [if_pos ⟨rfl, e⟩, if_pos e]
      · rw [if_neg (fun z => e z.2), if_neg e]
    · unfold uUnit
      rw [u2_o (Or.inl (by decide))]
      by_cases e : j = nU C
      · rw [e, u2_y, if_pos rfl]
      · rw [u2_o (Or.inr e), if_neg e, uT_o (by decide)]
    · rw [h16, gI_sI, if_neg (fun z => hi z.2), h15, gI_sI, if_neg (fun z => hi2 z.2), i14, i90]
    · rw [h16, gI_sI, if_pos ⟨rfl, rfl⟩, t2]
    · rw [kk _ (by omega), i80]
    · rw [h16, gJ_sI, h15, gJ_sI, h14, gJ_sR, j9, j8 k a b]
    · rw [h16, gR_sI, h15, gR_sI, h14, gR_sR]
      by_cases e : j = 4 ∧ b = nU C
      · rw [if_pos e, if_pos e]
      · rw [if_neg e, if_neg e, r9]
        by_cases e2 : 20 ≤ j ∧ j < 20 + nT C ∧ b = 2 ∧ bt a1 (j - 20) = true
        · rw [if_pos e2, if_pos ⟨e2.1, by omega, e2.2⟩]
        · rw [if_neg e2, if_neg (fun z => e2 ⟨z.1, z.2.2⟩)]
    · rw [h16, gI_sI, if_neg (by decide), h15, gI_sI, if_pos ⟨rfl, rfl⟩]
      rw [g0] at hs
      exact hs
  exact k_out R16 (i2lT g8) (fun R' O' => hy D1 D2 _ _ R' O')
