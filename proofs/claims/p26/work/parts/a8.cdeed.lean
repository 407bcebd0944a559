/-! PURE: the class tells a deed -/
theorem k_leastTitle {L : List Nat} {σ : Mm} {C : Cr} (hI : Inv C) (hR : Rel L σ C) {t m0 : Nat} (ht : t < nT C) {a2 a3 : Int32} (h3 : a3.toInt = m0) (hm : (m0 : Int) ≤ C 200 0) {Q : Int32 → Mm → Prop} (h : ∀ x : Int32, (∀ p : Int, p ≤ 10000 → (p ≤ x.toInt ↔ ∀ m : Nat, m0 ≤ m → m < nN C + 1 → p ≤ ti C t a2.toInt m)) → Q x σ) : wp_X6_leastTitle L σ (some (20 + t)) a2 a3 Q := by
  have hn := hI.now
  have hnN : ((nN C : Nat) : Int) = C 200 0 := by unfold nN; omega
  have g0 := hR.now
  refine lpw_inv (fun i (s : Mm × Int32 × Int32) => s.1 = σ ∧ s.2.2 = iZ ((m0 + i : Nat) : Int) ∧ ∀ p : Int, p ≤ 10000 → (p ≤ s.2.1.toInt ↔ ∀ m : Nat, m0 ≤ m → m < m0 + i → p ≤ ti C t a2.toInt m)) (nN C + 1 - m0) ⟨rfl, ?_, fun p hp => ⟨fun _ m h1 h2 => by omega, fun _ => by rw [t_1e4]; exact hp⟩⟩ ?_
  · show a3 = _
    rw [← iZ_toInt a3, h3]; rfl
  intro i s rec hi hs0 hrec
  obtain ⟨σ1, x2, x3⟩ := s
  obtain ⟨e1, e3, P⟩ := hs0
  dsimp only at e1 e3 P
  subst e1 e3
  have ti1 : (iZ ((m0 + i : Nat) : Int)).toInt = (m0 + i : Nat) := n_iZ (by omega)
  refine ⟨fun q => ?_, fun q => ?_⟩
  · rw [ltT, g0, ti1] at q
    have e : m0 + i = nN C + 1 := by omega
    rw [e] at P
    exact h x2 P
  · rw [ltT, g0, ti1] at q
    have hrec := hrec (by omega)
    have rg := ti_rg hI t a2.toInt ((m0 + i : Nat) : Int)
    refine k_titleOf hI hR ht (fun x8 h8 x9 h9 => hrec _ ⟨rfl, ?_, fun p hp => ?_⟩)
    · show x9 = _
      rw [h9, iZ_s]; rfl
    · show p ≤ x8.toInt ↔ _
      rw [h8, ti1]
      have tt : (iZ (ti C t a2.toInt ((m0 + i : Nat) : Int))).toInt = ti C t a2.toInt ((m0 + i : Nat) : Int) := toInt_iZ (by omega) (by omega)
      have key : p ≤ (if iZ (ti C t a2.toInt ((m0 + i : Nat) : Int)) < x2 then iZ (ti C t a2.toInt ((m0 + i : Nat) : Int)) else x2).toInt ↔ (p ≤ x2.toInt ∧ p ≤ ti C t a2.toInt ((m0 + i : Nat) : Int)) := by
        rw [uns_T, tt]
        split <;> omega
      rw [key, P p hp]
      constructor
      · rintro ⟨y1, y2⟩ m w1 w2
        by_cases e : m = m0 + i
        · rw [e]; exact y2
        · exact y1 m w1 (by omega)
      · intro y
        exact ⟨fun m w1 w2 => y m w1 (by omega), y (m0 + i) (by omega) (by omega)⟩
theorem Rel_deed {L : List Nat} {σ σ' : Mm} {C C' : Cr} (hI : Inv C) (h : Rel L σ C) {t f r p m : Int} {vf vr vp vm : Int32} (h40 : C 200 5 < 40) (ht : 0 ≤ t ∧ t < C 200 1) (q : ∀ k, k < 200 ∨ 208 < k ∨ (200 < k ∧ k < 204) → C' k = C k) (q0 : ∀ i, i ≠ 5 → C' 200 i = C 200 i) (q5 : C' 200 5 = C 200 5 + 1) (q204 : ∀ j, C' 204 j = if j = nD C then t else C 204 j) (q205 : ∀ j, C' 205 j = if j = nD C then f else C 205 j) (q206 : ∀ j, C' 206 j = if j = nD C then r else C 206 j) (q207 : ∀ j, C' 207 j = if j = nD C then p else C 207 j) (q208 : ∀ j, C' 208 j = if j = nD C then m else C 208 j) (hvf : vf.toInt = f) (hvr : vr.toInt = r) (hvp : vp.toInt = p) (hvm : vm.toInt = m) (tie : ∀ (t' : Nat) (o m' : Int), m' < m → ti C' t' o m' = ti C t' o m') (i0 : ∀ i, i ≠ 4 → i ≠ 16 → gI σ' 0 i = gI σ 0 i) (i4 : (gI σ' 0 4).toInt = C 200 5 + 1) (iK : ∀ k, k ≠ 0 → k ≠ 30 + nD C → gI σ' k = gI σ k) (it1 : gI σ' (30 + nD C) 1 = vf) (it2 : gI σ' (30 + nD C) 2 = vr) (it3 : gI σ' (30 + nD C) 3 = vp) (it4 : gI σ' (30 + nD C) 4 = vm) (rr' : ∀ j i, gR σ' j i = if j = 2 ∧ i = nD C then some (30 + nD C) else if j = 30 + nD C ∧ i = 0 then some (20 + t.toNat) else gR σ j i) (rJ : gJ σ' = gJ σ) (hx : 0 ≤ (gI σ' 0 16).toInt ∧ (gI σ' 0 16).toInt ≤ C 200 0 + 1 ∧ (gI σ' 0 16).toInt ≤ m ∧ (gI σ' 0 16).toInt ≤ (gI σ 0 16).toInt) : Rel (L ++ [30 + nD C]) σ' C' := by
  have xt := hI.nt
  have hd := hI.nd
  have hl := hI.ns
  have hnD : ((nD C : Nat) : Int) = C 200 5 := by unfold nD; omega
  have hT : nT C ≤ 8 := by unfold nT; omega
  have hS : nS C ≤ 16 := by unfold nS; omega
  have nTe : nT C' = nT C := by unfold nT; rw [q0 1 (by decide)]
  have nDe : nD C' = nD C + 1 := by unfold nD; rw [q5]; omega
  have nSe : nS C' = nS C := by unfold nS; rw [q0 11 (by decide)]
  have nUe : nU C' = nU C := by unfold nU; rw [q0 18 (by decide)]
  have nWe : nW C' = nW C := by unfold nW; rw [q0 20 (by decide)]
  have hal : ∀ k, al C' k ↔ (al C k ∨ k = 30 + nD C) := fun k => by
    unfold al
    rw [nTe, nDe, nSe, nUe, nWe]
    omega
  have rK : ∀ j, j ≠ 2 → j ≠ 30 + nD C → gR σ' j = gR σ j := fun j a b => by
    funext i
    rw [rr', if_neg (fun z => a z.1), if_neg (fun z => b z.1)]
  have q' : ∀ k, 208 < k → C' k = C k := fun k hk => q k (Or.inr (Or.inl hk))
  have q2' : ∀ k, 200 < k → k < 204 → C' k = C k := fun k hk hk2 => q k (Or.inr (Or.inr ⟨hk, hk2⟩))
  have gve : ∀ (u : Int) m, gv C' u m ↔ gv C u m := fun u m => gv_cong nWe (fun w _ => ⟨by rw [q' 216 (by decide)], by rw [q' 217 (by decide)]⟩)
  have cse : ∀ u o n, csn C' u o n = csn C u o n := fun u o n => csn_cong (fun j _ => by rw [q' 221 (by decide)])
  have gse : ∀ (u : Int) m, gs C' u m = gs C u m := fun u m => gs_cong nWe (fun w _ => ⟨by rw [q' 216 (by decide)], by rw [q' 217 (by decide)], by rw [q' 218 (by decide)]⟩)
  have bae : ∀ (u : Int) m, ba C' u m = ba C u m := fun u m => ba_cong nWe (fun w _ => ⟨by rw [q' 216 (by decide)], by rw [q' 217 (by decide)]⟩)
  have coe : ∀ (u : Int) m, co C' u m = co C u m := fun u m => co_cong nWe (fun w _ => ⟨by rw [q' 216 (by decide)], by rw [q' 219 (by decide)]⟩)
  refine ⟨fun k => ?_, by rw [i0 0 (by decide) (by decide), q0 0 (by decide)]; exact h.now, by rw [i0 2 (by decide) (by decide), q0 1 (by decide)]; exact h.tc, by rw [i4, q5], by rw [i0 6 (by decide) (by decide), q0 11 (by decide)]; exact h.lc, by rw [i0 8 (by decide) (by decide), q0 18 (by decide)]; exact h.uc, by rw [i0 10 (by decide) (by decide), q0 20 (by decide)]; exact h.wc, by rw [i0 12 (by decide) (by decide), q0 27 (by decide)]; exact h.pen, by rw [i0 14 (by decide) (by decide), q0 28 (by decide)]; exact h.lst, by rw [i0 13 (by decide) (by decide), q' 222 (by decide)]; exact h.sus, by rw [q0 0 (by decide)]; exact ⟨hx.1, hx.2.1⟩, by rw [rK 1 (by decide) (by omega), nTe]; exact h.g1, fun d h8 => ?_, by rw [rK 3 (by decide) (by omega), nSe]; exact h.g3, by rw [rK 4 (by decide) (by omega), nUe]; exact h.g4, by rw [rK 5 (by decide) (by omega), nWe]; exact h.g5, fun j i k z => ?_, fun t htl => ?_, fun d hdl => ?_, fun l hll => ?_, fun u hu => ?_, fun w hw => ?_, fun m hm => by rw [iK 6 (by decide) (by omega), q' 220 (by decide)]; exact h.tx m hm, fun o ho => by rw [rJ, q' 223 (by decide)]; exact h.pd o ho, fun u m' hu h1 h2 o ho => ?_⟩
  · rw [List.mem_append, List.mem_singleton, hal, h.inL k]
  · rw [rr', nDe]
    by_cases e : d = nD C
    · rw [if_pos ⟨rfl, e⟩, if_pos (by omega), e]
    · rw [if_neg (fun z => e z.2), if_neg (by omega), h.g2 d h8]
      by_cases e2 : d < nD C
      · rw [if_pos e2, if_pos (by omega)]
      · rw [if_neg e2, if_neg (by omega)]
  · rw [hal]
    rw [rr'] at z
    by_cases e : j = 2 ∧ i = nD C
    · rw [if_pos e] at z
      exact Or.inr (Option.some.inj z).symm
    · rw [if_neg e] at z
      by_cases e2 : j = 30 + nD C ∧ i = 0
      · rw [if_pos e2] at z
        have z := Option.some.inj z
        exact Or.inl (Or.inl ⟨by omega, by unfold nT; omega⟩)
      · rw [if_neg e2] at z
        exact Or.inl (h.rr j i k z)
  · rw [nTe] at htl
    rw [iK (20 + t) (by omega) (by omega), rK (20 + t) (by omega) (by omega), q2' 201 (by decide) (by decide), q2' 202 (by decide) (by decide), q2' 203 (by decide) (by decide)]
    exact h.tr t htl
  · rw [nDe] at hdl
    rw [q204, q205, q206, q207, q208]
    by_cases e : d = nD C
    · rw [if_pos e, if_pos e, if_pos e, if_pos e, if_pos e, e, it1, it2, it3, it4, rr', if_neg (fun z => by omega), if_pos ⟨rfl, rfl⟩]
      exact ⟨rfl, hvf, hvr, hvp, hvm⟩
    · rw [if_neg e, if_neg e, if_neg e, if_neg e, if_neg e, iK (30 + d) (by omega) (by omega), rK (30 + d) (by omega) (by omega)]
      exact h.de d (by omega)
  · rw [nSe] at hll
    rw [iK (70 + l) (by omega) (by omega), rK (70 + l) (by omega) (by omega), q' 209 (by decide), q' 210 (by decide), q' 211 (by decide), q' 212 (by decide), q' 213 (by decide), q' 214 (by decide)]
    exact h.le l hll
  · rw [nUe] at hu
    exact un_cong (h.un u hu) (fun i _ => iK _ (by omega) (by omega)) (by rw [q' 215 (by decide)]) (fun m _ => ⟨fun o _ => cse u o (m + 1), bae u m, gse u m, coe u m⟩)
  · rw [nWe] at hw
    exact we_cong (h.we w hw) (rK _ (by omega) (by omega)) (fun i _ _ => iK _ (by omega) (by omega)) (by rw [q' 216 (by decide)]) (fun m _ => ⟨by rw [q' 217 (by decide)], by rw [q' 218 (by decide)], by rw [q' 219 (by decide)]⟩)
  · rw [nUe] at hu
    have ume : um C' u = um C u := by unfold um; rw [q' 215 (by decide)]
    refine MO_new (n := m' + 1) (n' := m' + 1) ume (q0 27 (by decide)) (fun m'' _ hlt => ⟨fun i _ => ?_, fun o _ => cse u o (m'' + 1), coe u m'', rv_cong (gse u m'') (txn_cong (fun j _ => by rw [q' 220 (by decide)]))⟩) (by rw [rJ]) (by rw [rJ]) (h.MO hu (by omega)) (Nat.le_refl _) m' h1 (by omega) o ho
    exact dk_cong nTe (fun t _ o _ => cb_cong (by rw [q2' 203 (by decide) (by decide)]) (fun _ => ⟨by rw [q2' 201 (by decide) (by decide)], tie t o m'' (by omega), lo_cong (q0 11 (by decide)) (q' 209 (by decide)) (q' 210 (by decide)) (fun k _ _ => hl_cong (by rw [q' 209 (by decide)]) (by rw [q' 213 (by decide)]) (by rw [q' 214 (by decide)]) (by rw [q2' 203 (by decide) (by decide)]) (fun u j _ => gve u j)), fun k _ => ⟨by rw [q' 211 (by decide)], by rw [q' 212 (by decide)]⟩⟩))
