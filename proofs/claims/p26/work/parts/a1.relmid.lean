/-! PURE: Rel where no thing is made, numbers alone change -/
theorem u2_row {C : Cr} {k i a : Nat} {v : Int} (h : a ≠ k) : u2 C k i v a = C a := funext (fun b => u2_o (Or.inl h))
abbrev unF (σ : Mm) (C : Cr) (u : Nat) : Prop := (gI σ (100 + 8 * u) 0).toInt = C 215 u ∧ ∀ m : Nat, m < 61 → (∀ o : Nat, o < 10 → (bt (gI σ (100 + 8 * u + 1) m) o = true ↔ csn C u o (m + 1) ≠ 1)) ∧ (gI σ (100 + 8 * u + 2) m).toInt = ba C u m ∧ (gI σ (100 + 8 * u + 3) m).toInt = gs C u m ∧ (gI σ (100 + 8 * u + 4) m).toInt = co C u m
abbrev weF (σ : Mm) (C : Cr) (w : Nat) : Prop := gR σ (130 + 4 * w) 0 = some (100 + 8 * (C 216 w).toNat) ∧ ∀ m : Nat, m < 61 → (gI σ (130 + 4 * w + 1) m).toInt = C 217 (61 * w + m) ∧ (gI σ (130 + 4 * w + 2) m).toInt = C 218 (61 * w + m) ∧ (gI σ (130 + 4 * w + 3) m).toInt = C 219 (61 * w + m)
def cntE (C C' : Cr) : Prop := C' 200 1 = C 200 1 ∧ C' 200 5 = C 200 5 ∧ C' 200 11 = C 200 11 ∧ C' 200 18 = C 200 18 ∧ C' 200 20 = C 200 20
theorem al_E {C C' : Cr} (h : cntE C C') {k : Nat} : al C' k ↔ al C k := by
  obtain ⟨c1, c5, c11, c18, c20⟩ := h
  unfold al nT nD nS nU nW
  rw [c1, c5, c11, c18, c20]
theorem Rel_mid {L : List Nat} {σ σ' : Mm} {C C' : Cr} (hI : Inv C) (h : Rel L σ C) (hc : cntE C C') (hrow : ∀ k, 201 ≤ k → k ≤ 216 → C' k = C k) (r : gR σ' = gR σ) (iK : ∀ k, 18 ≤ k → k < 100 → gI σ' k = gI σ k) (i0 : ∀ i ∈ [2, 4, 6, 8, 10], gI σ' 0 i = gI σ 0 i) (now : (gI σ' 0 0).toInt = C' 200 0) (pen : (gI σ' 0 12).toInt = C' 200 27) (lst : (gI σ' 0 14).toInt = C' 200 28) (sus : ∀ o : Nat, o < 10 → (bt (gI σ' 0 13) o = true ↔ C' 222 o = 1)) (set : 0 ≤ (gI σ' 0 16).toInt ∧ (gI σ' 0 16).toInt ≤ C' 200 0 + 1) (un : ∀ u : Nat, u < nU C → unF σ' C' u) (we : ∀ w : Nat, w < nW C → weF σ' C' w) (tx : ∀ m : Nat, m < 61 → (gI σ' 6 m).toInt = C' 220 m) (pd : ∀ o : Nat, o < 10 → gJ σ' 7 o = lZ (C' 223 o)) (mo : ∀ u : Nat, u < nU C → MO σ' C' u (gI σ' 0 16).toInt.toNat) : Rel L σ' C' := by
  have hE := fun k => (al_E hc (k := k))
  obtain ⟨c1, c5, c11, c18, c20⟩ := hc
  have xt := hI.nt
  have xd := hI.nd
  have xl := hI.ns
  have hT : nT C ≤ 8 := by unfold nT; omega
  have hD : nD C ≤ 40 := by unfold nD; omega
  have hS : nS C ≤ 16 := by unfold nS; omega
  have nTe : nT C' = nT C := by unfold nT; rw [c1]
  have nDe : nD C' = nD C := by unfold nD; rw [c5]
  have nSe : nS C' = nS C := by unfold nS; rw [c11]
  have nUe : nU C' = nU C := by unfold nU; rw [c18]
  have nWe : nW C' = nW C := by unfold nW; rw [c20]
  refine ⟨fun k => (h.inL k).trans (hE k).symm, now, by rw [i0 2 (by decide), c1]; exact h.tc, by rw [i0 4 (by decide), c5]; exact h.dc, by rw [i0 6 (by decide), c11]; exact h.lc, by rw [i0 8 (by decide), c18]; exact h.uc, by rw [i0 10 (by decide), c20]; exact h.wc, pen, lst, sus, set, by rw [r, nTe]; exact h.g1, by rw [r, nDe]; exact h.g2, by rw [r, nSe]; exact h.g3, by rw [r, nUe]; exact h.g4, by rw [r, nWe]; exact h.g5, fun j i k q => (hE k).mpr (h.rr j i k (by rw [← r]; exact q)), fun t ht => ?_, fun t ht => ?_, fun t ht => ?_, fun u hu => un u (by rw [← nUe]; exact hu), fun w hw => we w (by rw [← nWe]; exact hw), tx, pd, fun u m hu h1 h2 o ho => mo u (by rw [← nUe]; exact hu) m h1 (by omega) o ho⟩
  · rw [nTe] at ht
    rw [iK (20 + t) (by omega) (by omega), r, hrow 201 (by decide) (by decide), hrow 202 (by decide) (by decide), hrow 203 (by decide) (by decide)]
    exact h.tr t ht
  · rw [nDe] at ht
    rw [iK (30 + t) (by omega) (by omega), r, hrow 204 (by decide) (by decide), hrow 205 (by decide) (by decide), hrow 206 (by decide) (by decide), hrow 207 (by decide) (by decide), hrow 208 (by decide) (by decide)]
    exact h.de t ht
  · rw [nSe] at ht
    rw [iK (70 + t) (by omega) (by omega), r, hrow 209 (by decide) (by decide), hrow 210 (by decide) (by decide), hrow 211 (by decide) (by decide), hrow 212 (by decide) (by decide), hrow 213 (by decide) (by decide), hrow 214 (by decide) (by decide)]
    exact h.le t ht
theorem un_cong {σ σ' : Mm} {C C' : Cr} {u : Nat} (h : unF σ C u) (hi : ∀ i, i < 5 → gI σ' (100 + 8 * u + i) = gI σ (100 + 8 * u + i)) (e : C' 215 u = C 215 u) (hm : ∀ m : Nat, m < 61 → (∀ o : Nat, o < 10 → csn C' u o (m + 1) = csn C u o (m + 1)) ∧ ba C' u m = ba C u m ∧ gs C' u m = gs C u m ∧ co C' u m = co C u m) : unF σ' C' u := by
  obtain ⟨x0, x1⟩ := h
  have i0 : gI σ' (100 + 8 * u) = gI σ (100 + 8 * u) := hi 0 (by decide)
  refine ⟨by rw [i0, e]; exact x0, fun m h61 => ?_⟩
  obtain ⟨y1, y2, y3, y4⟩ := hm m h61
  obtain ⟨z1, z2, z3, z4⟩ := x1 m h61
  rw [hi 1 (by decide), hi 2 (by decide), hi 3 (by decide), hi 4 (by decide), y2, y3, y4]
  exact ⟨fun o ho => by rw [y1 o ho]; exact z1 o ho, z2, z3, z4⟩
theorem we_cong {σ σ' : Mm} {C C' : Cr} {w : Nat} (h : weF σ C w) (hr : gR σ' (130 + 4 * w) = gR σ (130 + 4 * w)) (hi : ∀ i, 1 ≤ i → i < 4 → gI σ' (130 + 4 * w + i) = gI σ (130 + 4 * w + i)) (e : C' 216 w = C 216 w) (hm : ∀ m : Nat, m < 61 → C' 217 (61 * w + m) = C 217 (61 * w + m) ∧ C' 218 (61 * w + m) = C 218 (61 * w + m) ∧ C' 219 (61 * w + m) = C 219 (61 * w + m)) : weF σ' C' w := by
  obtain ⟨x0, x1⟩ := h
  refine ⟨by rw [hr, e]; exact x0, fun m h61 => ?_⟩
  obtain ⟨y1, y2, y3⟩ := hm m h61
  rw [hi 1 (by decide) (by decide), hi 2 (by decide) (by decide), hi 3 (by decide) (by decide), y1, y2, y3]
  exact x1 m h61
/-- all rows alike but for 200, 222, 223 -/
def rowE (C C' : Cr) : Prop := cntE C C' ∧ ∀ k, 201 ≤ k → k ≤ 221 → C' k = C k
theorem rowE.nw {C C' : Cr} (h : rowE C C') : nW C' = nW C := by unfold nW; rw [h.1.2.2.2.2]
theorem gv_E {C C' : Cr} (h : rowE C C') (u : Int) (m : Nat) : gv C' u m ↔ gv C u m := gv_cong h.nw (fun w _ => ⟨by rw [h.2 216 (by decide) (by decide)], by rw [h.2 217 (by decide) (by decide)]⟩)
theorem csn_E {C C' : Cr} (h : rowE C C') (u o n : Nat) : csn C' u o n = csn C u o n := csn_cong (fun j _ => by rw [h.2 221 (by decide) (by decide)])
theorem gs_E {C C' : Cr} (h : rowE C C') (u : Int) (m : Nat) : gs C' u m = gs C u m := gs_cong h.nw (fun w _ => ⟨by rw [h.2 216 (by decide) (by decide)], by rw [h.2 217 (by decide) (by decide)], by rw [h.2 218 (by decide) (by decide)]⟩)
theorem ba_E {C C' : Cr} (h : rowE C C') (u : Int) (m : Nat) : ba C' u m = ba C u m := ba_cong h.nw (fun w _ => ⟨by rw [h.2 216 (by decide) (by decide)], by rw [h.2 217 (by decide) (by decide)]⟩)
theorem co_E {C C' : Cr} (h : rowE C C') (u : Int) (m : Nat) : co C' u m = co C u m := co_cong h.nw (fun w _ => ⟨by rw [h.2 216 (by decide) (by decide)], by rw [h.2 219 (by decide) (by decide)]⟩)
theorem um_E {C C' : Cr} (h : rowE C C') (u : Nat) : um C' u = um C u := by unfold um; rw [h.2 215 (by decide) (by decide)]
theorem sM_E {C C' : Cr} (h : rowE C C') (u m : Nat) : sM C C' u m := ⟨fun i _ => dk_rows (fun k a b => h.2 k a (by omega)) h.1.1 h.1.2.1 h.1.2.2.1 (fun u j _ => gv_E h u j) u i, fun o _ => csn_E h u o (m + 1), co_E h u m, rv_cong (gs_E h u m) (txn_cong (fun j _ => by rw [h.2 220 (by decide) (by decide)]))⟩
theorem un_E {σ σ' : Mm} {C C' : Cr} (he : rowE C C') {u : Nat} (h : unF σ C u) (hi : ∀ i, i < 5 → gI σ' (100 + 8 * u + i) = gI σ (100 + 8 * u + i)) : unF σ' C' u := un_cong h hi (by rw [he.2 215 (by decide) (by decide)]) (fun m _ => ⟨fun o _ => csn_E he u o (m + 1), ba_E he u m, gs_E he u m, co_E he u m⟩)
theorem we_E {σ σ' : Mm} {C C' : Cr} (he : rowE C C') {w : Nat} (h : weF σ C w) (hr : gR σ' (130 + 4 * w) = gR σ (130 + 4 * w)) (hi : ∀ i, 1 ≤ i → i < 4 → gI σ' (130 + 4 * w + i) = gI σ (130 + 4 * w + i)) : weF σ' C' w := we_cong h hr hi (by rw [he.2 216 (by decide) (by decide)]) (fun m _ => ⟨by rw [he.2 217 (by decide) (by decide)], by rw [he.2 218 (by decide) (by decide)], by rw [he.2 219 (by decide) (by decide)]⟩)
/-- tellings that change no month -/
theorem Rel_E {L : List Nat} {σ σ' : Mm} {C C' : Cr} (hI : Inv C) (h : Rel L σ C) (he : rowE C C') (r : gR σ' = gR σ) (iK : ∀ k, k ≠ 0 → gI σ' k = gI σ k) (jK : ∀ k, k ≠ 7 → gJ σ' k = gJ σ k) (i0 : ∀ i ∈ [2, 4, 6, 8, 10], gI σ' 0 i = gI σ 0 i) (now : (gI σ' 0 0).toInt = C' 200 0) (pen : (gI σ' 0 12).toInt = C' 200 27) (lst : (gI σ' 0 14).toInt = C' 200 28) (sus : ∀ o : Nat, o < 10 → (bt (gI σ' 0 13) o = true ↔ C' 222 o = 1)) (set : 0 ≤ (gI σ' 0 16).toInt ∧ (gI σ' 0 16).toInt ≤ C' 200 0 + 1) (pd : ∀ o : Nat, o < 10 → gJ σ' 7 o = lZ (C' 223 o)) (hs : (gI σ' 0 16).toInt = 0 ∨ (C' 200 27 = C 200 27 ∧ gI σ' 0 16 = gI σ 0 16)) : Rel L σ' C' := by
  refine Rel_mid hI h he.1 (fun k a b => he.2 k a (by omega)) r (fun k a b => iK k (by omega)) i0 now pen lst sus set (fun u hu => un_E he (h.un u hu) (fun i _ => iK _ (by omega))) (fun w hw => we_E he (h.we w hw) (by rw [r]) (fun i _ _ => iK _ (by omega))) (fun m hm => by rw [iK 6 (by decide), he.2 220 (by decide) (by decide)]; exact h.tx m hm) pd (fun u hu => ?_)
  rcases hs with hs | ⟨hp, hs⟩
  · intro m a b
    omega
  · rw [hs]
    have s0 := h.set.1
    exact MO_new (um_E he u) hp (fun m _ _ => sM_E he u m) (jK _ (by omega)) (jK _ (by omega)) (h.MO hu (n := (gI σ 0 16).toInt.toNat) (by omega)) (Nat.le_refl _)
theorem rE_200 {C : Cr} {i : Nat} {v : Int} (h : i ≠ 1 ∧ i ≠ 5 ∧ i ≠ 11 ∧ i ≠ 18 ∧ i ≠ 20) : rowE C (u2 C 200 i v) := ⟨⟨u2_o (by omega), u2_o (by omega), u2_o (by omega), u2_o (by omega), u2_o (by omega)⟩, fun k a b => u2_row (by omega)⟩
theorem rE_k {C : Cr} {k i : Nat} {v : Int} (h : 222 ≤ k) : rowE C (u2 C k i v) := ⟨⟨u2_o (by omega), u2_o (by omega), u2_o (by omega), u2_o (by omega), u2_o (by omega)⟩, fun k a b => u2_row (by omega)⟩
theorem Rel_now {L : List Nat} {σ : Mm} {C : Cr} (hI : Inv C) (h : Rel L σ C) {v : Int32} {z : Int} (hv : v.toInt = z) (h1 : C 200 0 ≤ z) : Rel L (sI σ 0 0 v) (u2 C 200 0 z) := by
  have g : ∀ i, i ≠ 0 → gI (sI σ 0 0 v) 0 i = gI σ 0 i := fun i hi => by rw [gI_sI, if_neg (fun z => hi z.2)]
  have s := h.set
  refine Rel_E hI h (rE_200 (by decide)) rfl (fun k hk => gI_ne hk) (fun k _ => rfl) (fun i hi => g i (fun z => by subst z; exact absurd hi (by decide))) (by rw [gI_sI, if_pos ⟨rfl, rfl⟩, hv, u2_y]) ?_ ?_ ?_ ?_ h.pd (Or.inr ⟨u2_o (by decide), g 16 (by decide)⟩)
  · rw [g 12 (by decide), u2_o (by decide)]; exact h.pen
  · rw [g 14 (by decide), u2_o (by decide)]; exact h.lst
  · rw [g 13 (by decide), u2_row (by decide)]; exact h.sus
  · rw [g 16 (by decide), u2_y]; omega
theorem Rel_lst {L : List Nat} {σ : Mm} {C : Cr} (hI : Inv C) (h : Rel L σ C) {v : Int32} {z : Int} (hv : v.toInt = z) : Rel L (sI σ 0 14 v) (u2 C 200 28 z) := by
  have g : ∀ i, i ≠ 14 → gI (sI σ 0 14 v) 0 i = gI σ 0 i := fun i hi => by rw [gI_sI, if_neg (fun z => hi z.2)]
  refine Rel_E hI h (rE_200 (by decide)) rfl (fun k hk => gI_ne hk) (fun k _ => rfl) (fun i hi => g i (fun z => by subst z; exact absurd hi (by decide))) ?_ ?_ (by rw [gI_sI, if_pos ⟨rfl, rfl⟩, hv, u2_y]) ?_ ?_ h.pd (Or.inr ⟨u2_o (by decide), g 16 (by decide)⟩)
  · rw [g 0 (by decide), u2_o (by decide)]; exact h.now
  · rw [g 12 (by decide), u2_o (by decide)]; exact h.pen
  · rw [g 13 (by decide), u2_row (by decide)]; exact h.sus
  · rw [g 16 (by decide), u2_o (by decide)]; exact h.set
theorem Rel_sus {L : List Nat} {σ : Mm} {C : Cr} (hI : Inv C) (h : Rel L σ C) {v : Int32} {o : Nat} {z : Int} (hv : ∀ j : Nat, j < 10 → (bt v j = true ↔ if j = o then z = 1 else bt (gI σ 0 13) j = true)) : Rel L (sI σ 0 13 v) (u2 C 222 o z) := by
  have g : ∀ i, i ≠ 13 → gI (sI σ 0 13 v) 0 i = gI σ 0 i := fun i hi => by rw [gI_sI, if_neg (fun z => hi z.2)]
  refine Rel_E hI h (rE_k (by decide)) rfl (fun k hk => gI_ne hk) (fun k _ => rfl) (fun i hi => g i (fun z => by subst z; exact absurd hi (by decide))) ?_ ?_ ?_ (fun j hj => ?_) ?_ h.pd (Or.inr ⟨u2_o (Or.inl (by decide)), g 16 (by decide)⟩)
  · rw [g 0 (by decide), u2_o (Or.inl (by decide))]; exact h.now
  · rw [g 12 (by decide), u2_o (Or.inl (by decide))]; exact h.pen
  · rw [g 14 (by decide), u2_o (Or.inl (by decide))]; exact h.lst
  · rw [gI_sI, if_pos ⟨rfl, rfl⟩, hv j hj]
    by_cases e : j = o
    · rw [if_pos e, e, u2_y]
    · rw [if_neg e, u2_o (Or.inr e)]; exact h.sus j hj
  · rw [g 16 (by decide), u2_o (Or.inl (by decide))]; exact h.set
theorem Rel_pen {L : List Nat} {σ : Mm} {C : Cr} (hI : Inv C) (h : Rel L σ C) {v x : Int32} {z : Int} (hv : v.toInt = z) (hx : x.toInt = 0) : Rel L (sI (sI σ 0 12 v) 0 16 x) (u2 C 200 27 z) := by
  have g : ∀ i, i ≠ 12 ∧ i ≠ 16 → gI (sI (sI σ 0 12 v) 0 16 x) 0 i = gI σ 0 i := fun i hi => by rw [gI_sI, if_neg (fun z => hi.2 z.2), gI_sI, if_neg (fun z => hi.1 z.2)]
  have g16 : (gI (sI (sI σ 0 12 v) 0 16 x) 0 16).toInt = 0 := by rw [gI_sI, if_pos ⟨rfl, rfl⟩, hx]
  have hn := hI.now
  refine Rel_E hI h (rE_200 (by decide)) rfl (fun k hk => by rw [gI_ne hk, gI_ne hk]) (fun k _ => rfl) (fun i hi => g i ⟨fun z => by subst z; exact absurd hi (by decide), fun z => by subst z; exact absurd hi (by decide)⟩) ?_ ?_ ?_ ?_ ?_ h.pd (Or.inl g16)
  · rw [g 0 (by decide), u2_o (by decide)]; exact h.now
  · rw [gI_sI, if_neg (by decide), gI_sI, if_pos ⟨rfl, rfl⟩, hv, u2_y]
  · rw [g 14 (by decide), u2_o (by decide)]; exact h.lst
  · rw [g 13 (by decide), u2_row (by decide)]; exact h.sus
  · rw [g16, u2_o (by decide)]; omega
