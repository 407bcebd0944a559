/-! PURE: the class tells a lease -/
theorem lo_new {C C' : Cr} {t o m : Nat} (hn : nS C' = nS C + 1) (h : ∀ k, k < nS C → loB C' t o m k = loB C t o m k) (hl : loB C' t o m (nS C) = false) : lo C' t o m = lo C t o m := by
  unfold lo
  rw [hn]
  have e := fst_cong (p := loB C' t o m) (q := loB C t o m) (n := nS C) h
  show (match fst (loB C' t o m) (nS C) with | some k => some k | none => if loB C' t o m (nS C) then some (nS C) else none) = _
  rw [e, hl]
  cases fst (loB C t o m) (nS C) <;> rfl
theorem Rel_lease {L : List Nat} {σ σ' : Mm} {C C' : Cr} (hI : Inv C) (h : Rel L σ C) {t f r p d : Int} {vf vr vp v4 v5 : Int32} (h16 : C 200 11 < 16) (ht : 0 ≤ t ∧ t < C 200 1) (q : ∀ k, (200 < k ∧ k < 209) ∨ 214 < k → C' k = C k) (q0 : ∀ i, i ≠ 11 → C' 200 i = C 200 i) (q11 : C' 200 11 = C 200 11 + 1) (q209 : ∀ j, C' 209 j = if j = nS C then t else C 209 j) (q210 : ∀ j, C' 210 j = if j = nS C then f else C 210 j) (q211 : ∀ j, C' 211 j = if j = nS C then r else C 211 j) (q212 : ∀ j, C' 212 j = if j = nS C then p else C 212 j) (q213 : ∀ j, C' 213 j = if j = nS C then C 200 0 else C 213 j) (q214 : ∀ j, C' 214 j = if j = nS C then d else C 214 j) (hvf : vf.toInt = f) (hvr : vr.toInt = r) (hvp : vp.toInt = p) (hv4 : v4.toInt = C 200 0) (hv5 : v5.toInt = C 200 0 + d - 1) (i0 : ∀ i, i ≠ 6 → i ≠ 16 → gI σ' 0 i = gI σ 0 i) (i6 : (gI σ' 0 6).toInt = C 200 11 + 1) (iK : ∀ k, k ≠ 0 → k ≠ 70 + nS C → gI σ' k = gI σ k) (it1 : gI σ' (70 + nS C) 1 = vf) (it2 : gI σ' (70 + nS C) 2 = vr) (it3 : gI σ' (70 + nS C) 3 = vp) (it4 : gI σ' (70 + nS C) 4 = v4) (it5 : gI σ' (70 + nS C) 5 = v5) (rr' : ∀ j i, gR σ' j i = if j = 3 ∧ i = nS C then some (70 + nS C) else if j = 70 + nS C ∧ i = 0 then some (20 + t.toNat) else gR σ j i) (rJ : gJ σ' = gJ σ) (hx : 0 ≤ (gI σ' 0 16).toInt ∧ (gI σ' 0 16).toInt ≤ C 200 0 + 1 ∧ (gI σ' 0 16).toInt ≤ C 200 0 ∧ (gI σ' 0 16).toInt ≤ (gI σ 0 16).toInt) : Rel (L ++ [70 + nS C]) σ' C' := by
  have xt := hI.nt
  have hd := hI.nd
  have hls := hI.ns
  have hnS : ((nS C : Nat) : Int) = C 200 11 := by unfold nS; omega
  have hT : nT C ≤ 8 := by unfold nT; omega
  have hD : nD C ≤ 40 := by unfold nD; omega
  have nTe : nT C' = nT C := by unfold nT; rw [q0 1 (by decide)]
  have nDe : nD C' = nD C := by unfold nD; rw [q0 5 (by decide)]
  have nSe : nS C' = nS C + 1 := by unfold nS; rw [q11]; omega
  have nUe : nU C' = nU C := by unfold nU; rw [q0 18 (by decide)]
  have nWe : nW C' = nW C := by unfold nW; rw [q0 20 (by decide)]
  have hal : ∀ k, al C' k ↔ (al C k ∨ k = 70 + nS C) := fun k => by
    unfold al
    rw [nTe, nDe, nSe, nUe, nWe]
    omega
  have rK : ∀ j, j ≠ 3 → j ≠ 70 + nS C → gR σ' j = gR σ j := fun j a b => by
    funext i
    rw [rr', if_neg (fun z => a z.1), if_neg (fun z => b z.1)]
  have q' : ∀ k, 214 < k → C' k = C k := fun k hk => q k (Or.inr hk)
  have q2' : ∀ k, 200 < k → k < 209 → C' k = C k := fun k hk hk2 => q k (Or.inl ⟨hk, hk2⟩)
  have gve : ∀ (u : Int) m, gv C' u m ↔ gv C u m := fun u m => gv_cong nWe (fun w _ => ⟨by rw [q' 216 (by decide)], by rw [q' 217 (by decide)]⟩)
  have cse : ∀ u o n, csn C' u o n = csn C u o n := fun u o n => csn_cong (fun j _ => by rw [q' 221 (by decide)])
  have gse : ∀ (u : Int) m, gs C' u m = gs C u m := fun u m => gs_cong nWe (fun w _ => ⟨by rw [q' 216 (by decide)], by rw [q' 217 (by decide)], by rw [q' 218 (by decide)]⟩)
  have bae : ∀ (u : Int) m, ba C' u m = ba C u m := fun u m => ba_cong nWe (fun w _ => ⟨by rw [q' 216 (by decide)], by rw [q' 217 (by decide)]⟩)
  have coe : ∀ (u : Int) m, co C' u m = co C u m := fun u m => co_cong nWe (fun w _ => ⟨by rw [q' 216 (by decide)], by rw [q' 219 (by decide)]⟩)
  have tie : ∀ (t : Nat) (o m : Int), ti C' t o m = ti C t o m := ti_rows (q2' 202 (by decide) (by decide)) (q2' 204 (by decide) (by decide)) (q2' 205 (by decide) (by decide)) (q2' 206 (by decide) (by decide)) (q2' 207 (by decide) (by decide)) (q2' 208 (by decide) (by decide)) (q0 5 (by decide))
  refine ⟨fun k => ?_, by rw [i0 0 (by decide) (by decide), q0 0 (by decide)]; exact h.now, by rw [i0 2 (by decide) (by decide), q0 1 (by decide)]; exact h.tc, by rw [i0 4 (by decide) (by decide), q0 5 (by decide)]; exact h.dc, by rw [i6, q11], by rw [i0 8 (by decide) (by decide), q0 18 (by decide)]; exact h.uc, by rw [i0 10 (by decide) (by decide), q0 20 (by decide)]; exact h.wc, by rw [i0 12 (by decide) (by decide), q0 27 (by decide)]; exact h.pen, by rw [i0 14 (by decide) (by decide), q0 28 (by decide)]; exact h.lst, by rw [i0 13 (by decide) (by decide), q' 222 (by decide)]; exact h.sus, by rw [q0 0 (by decide)]; exact ⟨hx.1, hx.2.1⟩, by rw [rK 1 (by decide) (by omega), nTe]; exact h.g1, by rw [rK 2 (by decide) (by omega), nDe]; exact h.g2, fun d h8 => ?_, by rw [rK 4 (by decide) (by omega), nUe]; exact h.g4, by rw [rK 5 (by decide) (by omega), nWe]; exact h.g5, fun j i k z => ?_, fun t htl => ?_, fun d hdl => ?_, fun l hll => ?_, fun u hu => ?_, fun w hw => ?_, fun m hm => by rw [iK 6 (by decide) (by omega), q' 220 (by decide)]; exact h.tx m hm, fun o ho => by rw [rJ, q' 223 (by decide)]; exact h.pd o ho, fun u m' hu h1 h2 o ho => ?_⟩
  · rw [List.mem_append, List.mem_singleton, hal, h.inL k]
  · rw [rr', nSe]
    by_cases e : d = nS C
    · rw [if_pos ⟨rfl, e⟩, if_pos (by omega), e]
    · rw [if_neg (fun z => e z.2), if_neg (by omega), h.g3 d h8]
      by_cases e2 : d < nS C
      · rw [if_pos e2, if_pos (by omega)]
      · rw [if_neg e2, if_neg (by omega)]
  · rw [hal]
    rw [rr'] at z
    by_cases e : j = 3 ∧ i = nS C
    · rw [if_pos e] at z
      exact Or.inr (Option.some.inj z).symm
    · rw [if_neg e] at z
      by_cases e2 : j = 70 + nS C ∧ i = 0
      · rw [if_pos e2] at z
        have z := Option.some.inj z
        exact Or.inl (Or.inl ⟨by omega, by unfold nT; omega⟩)
      · rw [if_neg e2] at z
        exact Or.inl (h.rr j i k z)
  · rw [nTe] at htl
    rw [iK (20 + t) (by omega) (by omega), rK (20 + t) (by omega) (by omega), q2' 201 (by decide) (by decide), q2' 202 (by decide) (by decide), q2' 203 (by decide) (by decide)]
    exact h.tr t htl
  · rw [nDe] at hdl
    rw [iK (30 + d) (by omega) (by omega), rK (30 + d) (by omega) (by omega), q2' 204 (by decide) (by decide), q2' 205 (by decide) (by decide), q2' 206 (by decide) (by decide), q2' 207 (by decide) (by decide), q2' 208 (by decide) (by decide)]
    exact h.de d hdl
  · rw [nSe] at hll
    rw [q209, q210, q211, q212, q213, q214]
    by_cases e : l = nS C
    · rw [if_pos e, if_pos e, if_pos e, if_pos e, if_pos e, if_pos e, e, it1, it2, it3, it4, it5, rr', if_neg (fun z => by omega), if_pos ⟨rfl, rfl⟩]
      exact ⟨rfl, hvf, hvr, hvp, hv4, hv5⟩
    · rw [if_neg e, if_neg e, if_neg e, if_neg e, if_neg e, if_neg e, iK (70 + l) (by omega) (by omega), rK (70 + l) (by omega) (by omega)]
      exact h.le l (by omega)
  · rw [nUe] at hu
    exact un_cong (h.un u hu) (fun i _ => iK _ (by omega) (by omega)) (by rw [q' 215 (by decide)]) (fun m _ => ⟨fun o _ => cse u o (m + 1), bae u m, gse u m, coe u m⟩)
  · rw [nWe] at hw
    exact we_cong (h.we w hw) (rK _ (by omega) (by omega)) (fun i _ _ => iK _ (by omega) (by omega)) (by rw [q' 216 (by decide)]) (fun m _ => ⟨by rw [q' 217 (by decide)], by rw [q' 218 (by decide)], by rw [q' 219 (by decide)]⟩)
  · rw [nUe] at hu
    have ume : um C' u = um C u := by unfold um; rw [q' 215 (by decide)]
    refine MO_new (n := m' + 1) (n' := m' + 1) ume (q0 27 (by decide)) (fun m'' _ hlt => ⟨fun i _ => ?_, fun o _ => cse u o (m'' + 1), coe u m'', rv_cong (gse u m'') (txn_cong (fun j _ => by rw [q' 220 (by decide)]))⟩) (by rw [rJ]) (by rw [rJ]) (h.MO hu (by omega)) (Nat.le_refl _) m' h1 (by omega) o ho
    refine dk_cong nTe (fun t _ o _ => cb_cong (by rw [q2' 203 (by decide) (by decide)]) (fun _ => ⟨by rw [q2' 201 (by decide) (by decide)], tie t o m'', lo_new nSe (fun k hk => ?_) ?_, fun k hk => ⟨by rw [q211, if_neg (by omega)], by rw [q212, if_neg (by omega)]⟩⟩))
    · unfold loB
      have e9 : C' 209 k = C 209 k := by rw [q209, if_neg (by omega)]
      have e10 : C' 210 k = C 210 k := by rw [q210, if_neg (by omega)]
      have eh : hl C' k m'' ↔ hl C k m'' := hl_cong e9 (by rw [q213, if_neg (by omega)]) (by rw [q214, if_neg (by omega)]) (by rw [q2' 203 (by decide) (by decide)]) (fun u j _ => gve u j)
      rw [decide_eq_decide, e9, e10]
      exact and_congr Iff.rfl (and_congr Iff.rfl eh)
    · unfold loB
      rw [decide_eq_false_iff_not]
      intro z
      have z := z.2.2.1
      rw [q213, if_pos rfl] at z
      omega
theorem K_lease {L : List Nat} {σ : Mm} {C : Cr} (hI : Inv C) (hR : Rel L σ C) {a1 a2 a3 a4 a5 : Int32} {Q : Int32 → Mm → List Nat → Prop}
    (h1 : ¬ dLe1 C a1.toInt a2.toInt a3.toInt → ∀ σ' L', Rel L' σ' C → Q (-101) σ' L')
    (h2 : dLe1 C a1.toInt a2.toInt a3.toInt → ¬ dLe2 a2.toInt a3.toInt a4.toInt a5.toInt → ∀ σ' L', Rel L' σ' C → Q (-102) σ' L')
    (h3 : dLe1 C a1.toInt a2.toInt a3.toInt → dLe2 a2.toInt a3.toInt a4.toInt a5.toInt → ¬ C 200 11 < 16 → ∀ σ' L', Rel L' σ' C → Q (-103) σ' L')
    (hy : dLe1 C a1.toInt a2.toInt a3.toInt → dLe2 a2.toInt a3.toInt a4.toInt a5.toInt → C 200 11 < 16 → ∀ σ' L' {x9 : Int32}, Rel L' σ' (uLease C a1.toInt a2.toInt a3.toInt a4.toInt a5.toInt) → x9.toInt64 = lZ (C 200 11) → Q x9 σ' L') : wp_L_lease L σ a1 a2 a3 a4 a5 Q := by
  unfold wp_L_lease wp_X6_lease
  have hls := hI.ns
  have hnw := hI.now
  have hnS : ((nS C : Nat) : Int) = C 200 11 := by unfold nS; omega
  have no1 : ¬ dLe1 C a1.toInt a2.toInt a3.toInt → Q (-101) σ L := fun z => h1 z σ L hR
  have no2 : dLe1 C a1.toInt a2.toInt a3.toInt → ¬ dLe2 a2.toInt a3.toInt a4.toInt a5.toInt → Q (-102) σ L := fun y z => h2 y z σ L hR
  have no3 : dLe1 C a1.toInt a2.toInt a3.toInt → dLe2 a2.toInt a3.toInt a4.toInt a5.toInt → ¬ C 200 11 < 16 → Q (-103) σ L := fun y y2 z => h3 y y2 z σ L hR
  refine k_tractAt hI hR (jn1 ⟨fun q => Or.inl ⟨rfl, no1 (fun z => ?_)⟩, fun k3 q => k_owner ⟨fun q2 => Or.inl ⟨rfl, no1 (fun z => ?_)⟩, fun q2 => k_owner ⟨fun q3 => ?_, fun q3 => Or.inl ⟨rfl, no1 (fun z => ?_)⟩⟩⟩⟩)
  · rw [if_pos z.1] at q; cases q
  · rw [bz_0] at q2; exact q2 z.2.1
  rotate_left
  · rw [Decidable.not_not, bz_0] at q3; exact q3 z.2.2
  have q2 := (bz_n _).mp q2
  have q3 := (bz_n _).mp q3
  have q1 : dTr C a1.toInt := Classical.byContradiction (fun z => by rw [if_neg z] at q; cases q)
  rw [if_pos q1] at q
  cases q
  have D1 : dLe1 C a1.toInt a2.toInt a3.toInt := ⟨q1, q2, q3⟩
  have ht : a1.toInt.toNat < nT C := by unfold nT; omega
  have g6 := hR.lc
  have g0 := hR.now
  refine jn0 ⟨fun q5 => Or.inr (Or.inl ⟨rfl, no2 D1 ?_⟩), fun q5 => ⟨fun q6 => Or.inr (Or.inl ⟨rfl, no2 D1 ?_⟩), fun q6 => ⟨fun q7 => Or.inr (Or.inl ⟨rfl, no2 D1 ?_⟩), fun q7 => ⟨fun q8 => Or.inr (Or.inl ⟨rfl, no2 D1 ?_⟩), fun q8 => ⟨fun q9 => ⟨fun qa => ?_, fun qa => Or.inr (Or.inr ⟨rfl, no3 D1 ?_ ?_⟩)⟩, fun q9 => Or.inr (Or.inl ⟨rfl, no2 D1 ?_⟩)⟩⟩⟩⟩⟩
  · rw [eqT] at q5; exact fun z => z.1 q5
  · rw [ltT, t_0] at q6; omega
  · rw [ltT, t_500] at q7; omega
  · rw [ltT, t_1] at q8; omega
  rotate_left
  · rw [eqT] at q5; rw [ltT, t_0] at q6; rw [ltT, t_500] at q7; rw [ltT, t_1] at q8; rw [leT, t_36] at q9
    exact ⟨q5, ⟨by omega, by omega⟩, ⟨by omega, by omega⟩⟩
  · rw [ltT, g6, t_16] at qa; exact qa
  · rw [leT, t_36] at q9; omega
  rw [eqT] at q5
  rw [ltT, t_0] at q6
  rw [ltT, t_500] at q7
  rw [ltT, t_1] at q8
  rw [leT, t_36] at q9
  rw [ltT, g6, t_16] at qa
  have D2 : dLe2 a2.toInt a3.toInt a4.toInt a5.toInt := ⟨q5, ⟨by omega, by omega⟩, ⟨by omega, by omega⟩⟩
  have nal : ¬ al C (70 + nS C) := by
    have x := hI.nt
    have y := hI.nd
    unfold al
    unfold nT nD
    omega
  have fr := fresh1 hI hR nal (by omega) (by omega)
  have kd1 : kd (70 + nS C) = 1 := kd_l _ (by omega)
  refine ⟨lv_t hI hR ht, 70 + nS C, ⟨fr.1, kd1, fr.2⟩, fun σ15 h15 => ⟨lv_new kd1, fun s2 h2 s3 h3 s4 h4 s5 h5 s6 h6 s7 h7 σ17 h17 σ18 h18 => ?_⟩⟩
  have k7 : ∀ k, k ≠ 70 + nS C → gI s7 k = gI σ k := fun k hk => by
    rw [h7, gI_ne hk, h6, gI_ne hk, h5, gI_ne hk, h4, gI_sR, h3, gI_ne hk, h2, gI_ne hk, h15]
    unfold z_1
    rw [gI_ne hk, gI_ne hk, gI_ne hk, gI_ne hk, gI_ne hk, gI_sR]
  rw [k7 0 (by omega)] at h17
  have k17 : ∀ k, k ≠ 70 + nS C → gI σ17 k = gI σ k := fun k hk => by rw [h17, gI_ne hk, k7 k hk]
  rw [k17 0 (by omega)] at h18
  have k18 : ∀ k, k ≠ 70 + nS C → gI σ18 k = gI σ k := fun k hk => by rw [h18, gI_ne hk, k17 k hk]
  have n6 : (gI σ 0 6).toNatClampNeg = nS C := by rw [cl_T, g6]; rfl
  rw [k18 0 (by omega)]
  refine ⟨vin (by omega) (by rw [g6]; omega), fun σ20 h20 σ21 h21 σ22 h22 => ?_⟩
  rw [n6] at h20
  have k20 : ∀ k, k ≠ 70 + nS C → gI σ20 k = gI σ k := fun k hk => by rw [h20, gI_sR, k18 k hk]
  rw [k20 0 (by omega)] at h21
  have g21 : gI σ21 0 6 = gI σ 0 6 := by rw [h21, gI_sI, if_neg (by decide), k20 0 (by omega)]
  rw [g21] at h22
  rw [g21]
  have t2 : (gI σ 0 6 + 1).toInt = C 200 11 + 1 := by rw [ad32 (by rw [g6, t_1]; omega) (by rw [g6, t_1]; omega), g6, t_1]
  have t3 : (gI σ 0 0 + a5).toInt = C 200 0 + a5.toInt := by rw [ad32 (by rw [g0]; omega) (by rw [g0]; omega), g0]
  have t4 : (gI σ 0 0 + a5 - 1).toInt = C 200 0 + a5.toInt - 1 := by rw [sb32 (by rw [t3, t_1]; omega) (by rw [t3, t_1]; omega), t3, t_1]
  have hs := set_min hR (a := gI σ 0 0) (by omega) (x := if gI σ 0 0 < gI σ 0 16 then gI σ 0 0 else gI σ 0 16) rfl
  have kk : ∀ k, k ≠ 0 → gI σ22 k = gI σ18 k := fun k hk => by rw [h22, gI_ne hk, h21, gI_ne hk, h20, gI_sR]
  have R22 : Rel (L ++ [70 + nS C]) σ22 (uLease C a1.toInt a2.toInt a3.toInt a4.toInt a5.toInt) := by
    refine Rel_lease (vf := a2) (vr := a3) (vp := a4) (v4 := gI σ 0 0) (v5 := gI σ 0 0 + a5 - 1) hI hR qa q1 (fun k hk => ?_) (fun i hi => ?_) ?_ (fun j => ?_) (fun j => ?_) (fun j => ?_) (fun j => ?_) (fun j => ?_) (fun j => ?_) rfl rfl rfl g0 t4 (fun i hi hi2 => ?_) ?_ (fun k a b => by rw [kk k a, k18 k b]) ?_ ?_ ?_ ?_ ?_ (fun j i => ?_) ?_ ?_
    · unfold uLease
      rw [u2_row (by omega), u2_row (by omega), u2_row (by omega), u2_row (by omega), u2_row (by omega), u2_row (by omega), u2_row (by omega)]
    · unfold uLease
      rw [u2_o (Or.inr hi), u2_o (Or.inl (by decide)), u2_o (Or.inl (by decide)), u2_o (Or.inl (by decide)), u2_o (Or.inl (by decide)), u2_o (Or.inl (by decide)), u2_o (Or.inl (by decide))]
    · unfold uLease
      rw [u2_y]
    · unfold uLease
      rw [u2_o (Or.inl (by decide)), u2_o (Or.inl (by decide)), u2_o (Or.inl (by decide)), u2_o (Or.inl (by decide)), u2_o (Or.inl (by decide)), u2_o (Or.inl (by decide))]
      by_cases e : j = nS C
      · rw [e, u2_y, if_pos rfl]
      · rw [u2_o (Or.inr e), if_neg e]
    · unfold uLease
      rw [u2_o (Or.inl (by decide)), u2_o (Or.inl (by decide)), u2_o (Or.inl (by decide)), u2_o (Or.inl (by decide)), u2_o (Or.inl (by decide))]
      by_cases e : j = nS C
      · rw [e, u2_y, if_pos rfl]
      · rw [u2_o (Or.inr e), if_neg e, u2_o (Or.inl (by decide))]
    · unfold uLease
      rw [u2_o (Or.inl (by decide)), u2_o (Or.inl (by decide)), u2_o (Or.inl (by decide)), u2_o (Or.inl (by decide))]
      by_cases e : j = nS C
      · rw [e, u2_y, if_pos rfl]
      · rw [u2_o (Or.inr e), if_neg e, u2_o (Or.inl (by decide)), u2_o (Or.inl (by decide))]
    · unfold uLease
      rw [u2_o (Or.inl (by decide)), u2_o (Or.inl (by decide)), u2_o (Or.inl (by decide))]
      by_cases e : j = nS C
      · rw [e, u2_y, if_pos rfl]
      · rw [u2_o (Or.inr e), if_neg e, u2_o (Or.inl (by decide)), u2_o (Or.inl (by decide)), u2_o (Or.inl (by decide))]
    · unfold uLease
      rw [u2_o (Or.inl (by decide)), u2_o (Or.inl (by decide))]
      by_cases e : j = nS C
      · rw [e, u2_y, if_pos rfl]
      · rw [u2_o (Or.inr e), if_neg e, u2_o (Or.inl (by decide)), u2_o (Or.inl (by decide)), u2_o (Or.inl (by decide)), u2_o (Or.inl (by decide))]
    · unfold uLease
      rw [u2_o (Or.inl (by decide))]
      by_cases e : j = nS C
      · rw [e, u2_y, if_pos rfl]
      · rw [u2_o (Or.inr e), if_neg e, u2_o (Or.inl (by decide)), u2_o (Or.inl (by decide)), u2_o (Or.inl (by decide)), u2_o (Or.inl (by decide)), u2_o (Or.inl (by decide))]
    · rw [h22, gI_sI, if_neg (fun z => hi z.2), h21, gI_sI, if_neg (fun z => hi2 z.2), k20 0 (by omega)]
    · rw [h22, gI_sI, if_pos ⟨rfl, rfl⟩, t2]
    · rw [kk _ (by omega), h18, gI_sI, if_neg (fun z => by omega), h17, gI_sI, if_neg (fun z => by omega), h7, gI_sI, if_neg (fun z => by omega), h6, gI_sI, if_neg (fun z => by omega), h5, gI_sI, if_pos ⟨rfl, rfl⟩]
    · rw [kk _ (by omega), h18, gI_sI, if_neg (fun z => by omega), h17, gI_sI, if_neg (fun z => by omega), h7, gI_sI, if_neg (fun z => by omega), h6, gI_sI, if_pos ⟨rfl, rfl⟩]
    · rw [kk _ (by omega), h18, gI_sI, if_neg (fun z => by omega), h17, gI_sI, if_neg (fun z => by omega), h7, gI_sI, if_pos ⟨rfl, rfl⟩]
    · rw [kk _ (by omega), h18, gI_sI, if_neg (fun z => by omega), h17, gI_sI, if_pos ⟨rfl, rfl⟩]
    · rw [kk _ (by omega), h18, gI_sI, if_pos ⟨rfl, rfl⟩]
    · rw [h22, gR_sI, h21, gR_sI, h20, gR_sR]
      by_cases e : j = 3 ∧ i = nS C
      · rw [if_pos e, if_pos e]
      · rw [if_neg e, if_neg e, h18, gR_sI, h17, gR_sI, h7, gR_sI, h6, gR_sI, h5, gR_sI, h4, gR_sR]
        by_cases e2 : j = 70 + nS C ∧ i = 0
        · rw [if_pos e2, if_pos e2]
        · rw [if_neg e2, if_neg e2, h3, gR_sI, h2, gR_sI, h15]
          unfold z_1
          rw [gR_sI, gR_sI, gR_sI, gR_sI, gR_sI, gR_sR, if_neg e2]
    · rw [h22, h21, h20, h18, h17, h7, h6, h5, h4, h3, h2, h15]; rfl
    · rw [h22, gI_sI, if_neg (by decide), h21, gI_sI, if_pos ⟨rfl, rfl⟩]
      rw [g0] at hs
      exact hs
  exact k_out R22 (i2lT g6) (fun R' O' => hy D1 D2 qa _ _ R' O')
