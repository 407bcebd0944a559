/-! PURE: the law's cases, each told thing -/
def VS (C : Cr) (x2 x3 x4 x5 : Int32) (y6 : Int64) : Prop := x2.toInt = C 200 1 ∧ x3.toInt = C 200 18 ∧ x4.toInt = C 200 20 ∧ x5.toInt = C 200 0 ∧ y6 = lZ (OT C)
def MI (i : Nat) (n0 : Int) (ρ : Rh) (x2 x3 x4 x5 : Int32) (y6 : Int64) (x7 : Int32) : Prop := ∃ C, GC C ∧ Rel ρ.2.1 ρ.1 C ∧ ρ.2.2 ≤ 64 * i + 22 ∧ VS C x2 x3 x4 x5 y6 ∧ x7 = 1 ∧ (1 ≤ C 200 1 ∧ C 200 1 ≤ 5) ∧ ((i : Int) + 1 ≤ C 200 1 ∨ 3 ≤ C 200 1) ∧ C 200 0 ≤ 6 ∧ n0 ≤ C 200 0
theorem VS_of {C C' : Cr} {x2 x3 x4 x5 : Int32} {y6 : Int64} (h : VS C x2 x3 x4 x5 y6) (e1 : C' 200 1 = C 200 1) (e18 : C' 200 18 = C 200 18) (e20 : C' 200 20 = C 200 20) (e0 : C' 200 0 = C 200 0) (e219 : C' 219 = C 219) : VS C' x2 x3 x4 x5 y6 := by
  unfold VS
  rw [e1, e18, e20, e0, keepO e219]
  exact h
theorem MI_c {C : Cr} {i : Nat} {n0 : Int} {σ : Mm} {L : List Nat} {w : Nat} {x2 x3 x4 x5 : Int32} {y6 : Int64} (hG : GC C) (hR : Rel L σ C) (hw : w ≤ 64 * i + 22) (hV : VS C x2 x3 x4 x5 y6) (h3 : 3 ≤ C 200 1 ∧ C 200 1 ≤ 5) (hn : C 200 0 ≤ 6) (h0 : n0 ≤ C 200 0) : MI i n0 (σ, L, w) x2 x3 x4 x5 y6 1 := ⟨C, hG, hR, hw, hV, rfl, ⟨by omega, h3.2⟩, Or.inr h3.1, hn, h0⟩
theorem nz {x : Int32} (h : 0 < x.toInt) : ¬ x = 0 := fun z => by rw [z, t_0] at h; omega
theorem c_oil {C : Cr} {i : Nat} {x2 x3 x4 x5 x63 x68 : Int32} {y6 : Int64} {J76 : Rh → Int32 → Int32 → Int32 → Int32 → Int64 → Int32 → Prop} (hG : GC C) (hi : i < 28) (hV : VS C x2 x3 x4 x5 y6) (hz : 0 ≤ x63.toInt) (hm : 0 ≤ x68.toInt ∧ x68.toInt ≤ C 200 0) (h3 : 3 ≤ C 200 1 ∧ C 200 1 ≤ 5) (hn : C 200 0 ≤ 6) (hJ : ∀ ρ a b c d e, MI i (C 200 0) ρ a b c d e 1 → J76 ρ a b c d e 1) {σ130 : Rh} (hR : Rel σ130.2.1 σ130.1 C) (hw : σ130.2.2 ≤ 64 * i) (h4 : 0 < x4.toInt) : σ130.2.2 + 1 ≤ 3500 ∧ wp_L_oil σ130.2.1 σ130.1 (jr x63 x4) x68 (jr (x63 / 6) 1001) (jr (x63 / 6006) 10001) (fun (x244 : Int32) (σ245 : Mm) (L246 : List Nat) => ∀ ρ248 : Rh, ρ248 = (σ245, L246, σ130.2.2 + 1) → (∃ J251 : Rh → Int32 → Prop, (∀ (σ249 : Rh) (x250 : Int32), J251 σ249 x250 → J76 σ249 x2 x3 x4 x5 y6 x250) ∧ ((x244 = (-101) → J251 ρ248 0) ∧ (¬ (x244 = (-101)) → J251 ρ248 1)))) := by
  obtain ⟨v2, v3, v4, v5, v6⟩ := id hV
  have a := jr_rg hz h4
  have D1 : dWM C (jr x63 x4).toInt x68.toInt := ⟨⟨a.1, by omega⟩, hm⟩
  refine ⟨by omega, K_oil hG.1 hR (fun z => absurd D1 z) (fun _ _ σ' L' R' ρ1 e1 => ?_) (fun _ _ _ σ' L' R' ρ1 e1 => ?_) (fun d1 d2 d3 σ' L' x9 R' e9 ρ1 e1 => ?_)⟩
  · subst e1
    exact okn (hJ _ _ _ _ _ _ (MI_c hG R' (by omega) hV h3 hn (Int.le_refl _))) (by decide)
  · subst e1
    exact okn (hJ _ _ _ _ _ _ (MI_c hG R' (by omega) hV h3 hn (Int.le_refl _))) (by decide)
  · subst e1
    refine okn (hJ _ _ _ _ _ _ (MI_c (GC_oil hG d1 d2) R' (by omega) (VS_of hV rfl rfl rfl rfl rfl) h3 hn (Int.le_refl _))) (fun z => ?_)
    have hw6 := hG.1.nw
    have hn6 := hG.1.now
    have r := (hG.1.wm (iW (jr x63 x4).toInt x68.toInt) (by unfold iW; omega)).1
    have t := l_T e9 (by omega) (by omega)
    rw [z, show (-101 : Int32).toInt = -101 from rfl] at t
    omega
theorem c_lease {C : Cr} {i : Nat} {x2 x3 x4 x5 x63 x68 : Int32} {y6 : Int64} {J76 : Rh → Int32 → Int32 → Int32 → Int32 → Int64 → Int32 → Prop} (hG : GC C) (hi : i < 28) (hV : VS C x2 x3 x4 x5 y6) (hz : 0 ≤ x63.toInt) (hm : 0 ≤ x68.toInt ∧ x68.toInt ≤ C 200 0) (h3 : 3 ≤ C 200 1 ∧ C 200 1 ≤ 5) (hn : C 200 0 ≤ 6) (hJ : ∀ ρ a b c d e, MI i (C 200 0) ρ a b c d e 1 → J76 ρ a b c d e 1) {σ130 : Rh} (hR : Rel σ130.2.1 σ130.1 C) (hw : σ130.2.2 ≤ 64 * i) : σ130.2.2 + 1 ≤ 3500 ∧ wp_L_lease σ130.2.1 σ130.1 (jr x63 x2) (jr (x63 / 5) 10) (jr (x63 / 50) 10) (jr (x63 / 500) 501) (1 + (jr (x63 / 7) 6)) (fun (x253 : Int32) (σ254 : Mm) (L255 : List Nat) => ∀ ρ257 : Rh, ρ257 = (σ254, L255, σ130.2.2 + 1) → (∃ J260 : Rh → Int32 → Prop, (∀ (σ258 : Rh) (x259 : Int32), J260 σ258 x259 → J76 σ258 x2 x3 x4 x5 y6 x259) ∧ ((x253 = (-101) → J260 ρ257 0) ∧ (¬ (x253 = (-101)) → J260 ρ257 1)))) := by
  obtain ⟨v2, v3, v4, v5, v6⟩ := id hV
  have a := jr_rg hz (y := x2) (by omega)
  have D1 : dLe1 C (jr x63 x2).toInt (jr (x63 / 5) 10).toInt (jr (x63 / 50) 10).toInt := ⟨⟨a.1, by omega⟩, ow_n (dv_nn hz (by decide)) rfl, ow_n (dv_nn hz (by decide)) rfl⟩
  refine ⟨by omega, K_lease hG.1 hR (fun z => absurd D1 z) (fun _ _ σ' L' R' ρ1 e1 => ?_) (fun _ _ _ σ' L' R' ρ1 e1 => ?_) (fun d1 d2 d3 σ' L' x9 R' e9 ρ1 e1 => ?_)⟩
  · subst e1
    exact okn (hJ _ _ _ _ _ _ (MI_c hG R' (by omega) hV h3 hn (Int.le_refl _))) (by decide)
  · subst e1
    exact okn (hJ _ _ _ _ _ _ (MI_c hG R' (by omega) hV h3 hn (Int.le_refl _))) (by decide)
  · subst e1
    refine okn (hJ _ _ _ _ _ _ (MI_c (GC_lease hG d1 d2 d3) R' (by omega) (VS_of hV rfl rfl rfl rfl rfl) h3 hn (Int.le_refl _))) (fun z => ?_)
    have r := hG.1.ns
    have t := l_T e9 (by omega) (by omega)
    rw [z, show (-101 : Int32).toInt = -101 from rfl] at t
    omega
theorem c_deed {C : Cr} {i : Nat} {x2 x3 x4 x5 x63 x68 : Int32} {y6 : Int64} {J76 : Rh → Int32 → Int32 → Int32 → Int32 → Int64 → Int32 → Prop} (hG : GC C) (hi : i < 28) (hV : VS C x2 x3 x4 x5 y6) (hz : 0 ≤ x63.toInt) (hm : 0 ≤ x68.toInt ∧ x68.toInt ≤ C 200 0) (h3 : 3 ≤ C 200 1 ∧ C 200 1 ≤ 5) (hn : C 200 0 ≤ 6) (hJ : ∀ ρ a b c d e, MI i (C 200 0) ρ a b c d e 1 → J76 ρ a b c d e 1) {σ128 : Rh} (hR : Rel σ128.2.1 σ128.1 C) (hw : σ128.2.2 ≤ 64 * i) : σ128.2.2 + 1 ≤ 3500 ∧ wp_L_deed σ128.2.1 σ128.1 (jr x63 x2) (jr (x63 / 5) 10) (jr (x63 / 50) 10) (1 + (jr (x63 / 500) 9000)) x68 (fun (x286 : Int32) (σ287 : Mm) (L288 : List Nat) => ∀ ρ290 : Rh, ρ290 = (σ287, L288, σ128.2.2 + 1) → (∃ J293 : Rh → Int32 → Prop, (∀ (σ291 : Rh) (x292 : Int32), J293 σ291 x292 → J76 σ291 x2 x3 x4 x5 y6 x292) ∧ ((x286 = (-101) → J293 ρ290 0) ∧ (¬ (x286 = (-101)) → J293 ρ290 1)))) := by
  obtain ⟨v2, v3, v4, v5, v6⟩ := id hV
  have a := jr_rg hz (y := x2) (by omega)
  have D1 : dDe1 C (jr x63 x2).toInt (jr (x63 / 5) 10).toInt (jr (x63 / 50) 10).toInt x68.toInt := ⟨⟨a.1, by omega⟩, ow_n (dv_nn hz (by decide)) rfl, ow_n (dv_nn hz (by decide)) rfl, hm⟩
  refine ⟨by omega, K_deed hG.1 hR (fun z => absurd D1 z) (fun _ _ σ' L' R' ρ1 e1 => ?_) (fun _ _ _ σ' L' R' ρ1 e1 => ?_) (fun d1 d2 d3 σ' L' x9 R' e9 ρ1 e1 => ?_)⟩
  · subst e1
    exact okn (hJ _ _ _ _ _ _ (MI_c hG R' (by omega) hV h3 hn (Int.le_refl _))) (by decide)
  · subst e1
    exact okn (hJ _ _ _ _ _ _ (MI_c hG R' (by omega) hV h3 hn (Int.le_refl _))) (by decide)
  · subst e1
    have G1 := GC_deed hG d1 d2 d3
    refine okn (hJ _ _ _ _ _ _ (MI_c G1 R' (by omega) (VS_of hV rfl rfl rfl rfl rfl) h3 hn (Int.le_refl _))) (fun z => ?_)
    have q := ow_n (x := x63 / 5) (y := 10) (dv_nn hz (by decide)) rfl
    have hn6 := hG.1.now
    have hnN : ((nN C : Nat) : Int) = C 200 0 := by unfold nN; omega
    have hlt : (jr x63 x2).toInt.toNat < nT (uDeed C (jr x63 x2).toInt (jr (x63 / 5) 10).toInt (jr (x63 / 50) 10).toInt (1 + (jr (x63 / 500) 9000)).toInt x68.toInt) := by
      show _ < nT C
      unfold nT; omega
    have r := G1.1.tn _ hlt (jr (x63 / 5) 10).toInt.toNat (by omega) (nN C)
    have s := ti_sum G1.1 hlt ((nN C : Nat) : Int)
    have p := sm_part (f := fun o : Nat => ti (uDeed C (jr x63 x2).toInt (jr (x63 / 5) 10).toInt (jr (x63 / 50) 10).toInt (1 + (jr (x63 / 500) 9000)).toInt x68.toInt) (jr x63 x2).toInt.toNat o ((nN C : Nat) : Int)) (n := 10) (fun o ho => G1.1.tn _ hlt o ho (nN C)) (i := (jr (x63 / 5) 10).toInt.toNat) (by omega)
    rw [s] at p
    have eo : (((jr (x63 / 5) 10).toInt.toNat : Nat) : Int) = (jr (x63 / 5) 10).toInt := by omega
    rw [eo, hnN] at r
    have p : ti (uDeed C (jr x63 x2).toInt (jr (x63 / 5) 10).toInt (jr (x63 / 50) 10).toInt (1 + (jr (x63 / 500) 9000)).toInt x68.toInt) (jr x63 x2).toInt.toNat (((jr (x63 / 5) 10).toInt.toNat : Nat) : Int) ((nN C : Nat) : Int) ≤ 10000 := p
    rw [eo, hnN] at p
    have t := l_E e9
    have t2 := congrArg Int32.toInt t
    rw [toInt_iZ (by omega) (by omega), z, show (-101 : Int32).toInt = -101 from rfl] at t2
    omega
theorem c_well {C : Cr} {i : Nat} {x2 x3 x4 x5 x63 x68 : Int32} {y6 : Int64} {J76 : Rh → Int32 → Int32 → Int32 → Int32 → Int64 → Int32 → Prop} (hG : GC C) (hi : i < 28) (hV : VS C x2 x3 x4 x5 y6) (hz : 0 ≤ x63.toInt) (hm : 0 ≤ x68.toInt ∧ x68.toInt ≤ C 200 0) (h3 : 3 ≤ C 200 1 ∧ C 200 1 ≤ 5) (hn : C 200 0 ≤ 6) (hJ : ∀ ρ a b c d e, MI i (C 200 0) ρ a b c d e 1 → J76 ρ a b c d e 1) {σ128 : Rh} (hR : Rel σ128.2.1 σ128.1 C) (hw : σ128.2.2 ≤ 64 * i) (h4 : 0 < x3.toInt) (h5 : ¬ 6 ≤ x4) : σ128.2.2 + 1 ≤ 3500 ∧ wp_L_well σ128.2.1 σ128.1 (jr x63 x3) (fun (x262 : Int32) (σ263 : Mm) (L264 : List Nat) => ∀ ρ266 : Rh, ρ266 = (σ263, L264, σ128.2.2 + 1) → (∃ J269 : Rh → Int32 → Prop, (∀ (σ267 : Rh) (x268 : Int32), J269 σ267 x268 → ∀ x270 : Int32, x270 = x4 + 1 → J76 σ267 x2 x3 x270 x5 y6 x268) ∧ ((¬ x262 = x4 → J269 ρ266 0) ∧ (¬ (¬ x262 = x4) → J269 ρ266 1)))) := by
  obtain ⟨v2, v3, v4, v5, v6⟩ := id hV
  have a := jr_rg hz h4
  have D1 : dUn C (jr x63 x3).toInt := ⟨a.1, by omega⟩
  have D2 : C 200 20 < 6 := by
    rw [leT, t_6] at h5
    omega
  refine ⟨by omega, K_well hG.1 hR (fun z => absurd D1 z) (fun _ z => absurd D2 z) (fun d1 d2 σ' L' x9 R' e9 ρ1 e1 => ?_)⟩
  subst e1
  have hw6 := hG.1.nw
  have t := l_T e9 (by omega) (by omega)
  have ex : x9 = x4 := eqT.mpr (by omega)
  refine okn (J := fun s v => ∀ x270 : Int32, x270 = x4 + 1 → J76 s x2 x3 x270 x5 y6 v) (fun x270 h270 => hJ _ _ _ _ _ _ (MI_c (GC_well hG d1 d2) R' (by omega) ⟨v2, v3, ?_, v5, v6⟩ h3 hn (Int.le_refl _))) (fun z => z ex)
  show x270.toInt = C 200 20 + 1
  rw [h270, ad32 (by rw [t_1]; omega) (by rw [t_1]; omega), t_1, v4]
theorem c_unit {C : Cr} {i : Nat} {x2 x3 x4 x5 x63 x68 : Int32} {y6 : Int64} {J76 : Rh → Int32 → Int32 → Int32 → Int32 → Int64 → Int32 → Prop} (hG : GC C) (hi : i < 28) (hV : VS C x2 x3 x4 x5 y6) (hz : 0 ≤ x63.toInt) (hm : 0 ≤ x68.toInt ∧ x68.toInt ≤ C 200 0) (h3 : 3 ≤ C 200 1 ∧ C 200 1 ≤ 5) (hn : C 200 0 ≤ 6) (hJ : ∀ ρ a b c d e, MI i (C 200 0) ρ a b c d e 1 → J76 ρ a b c d e 1) {σ128 : Rh} (hR : Rel σ128.2.1 σ128.1 C) (hw : σ128.2.2 ≤ 64 * i) : σ128.2.2 + 1 ≤ 3500 ∧ wp_L_unit σ128.2.1 σ128.1 (1 + (jr x63 31)) (fun (x271 : Int32) (σ272 : Mm) (L273 : List Nat) => ∀ ρ275 : Rh, ρ275 = (σ272, L273, σ128.2.2 + 1) → (∃ J278 : Rh → Int32 → Prop, (∀ (σ276 : Rh) (x277 : Int32), J278 σ276 x277 → (∃ J281 : Rh → Int32 → Prop, (∀ (σ279 : Rh) (x280 : Int32), J281 σ279 x280 → ∀ x282 : Int32, x282 = x3 + x280 → J76 σ279 x2 x282 x4 x5 y6 x277) ∧ ((¬ x271 = x3 → J281 σ276 0) ∧ (¬ (¬ x271 = x3) → J281 σ276 1)))) ∧ (∃ J284 : Rh → Prop, (∀ (σ283 : Rh), J284 σ283 → J278 σ283 1) ∧ ((x271 = x3 → J284 ρ275) ∧ (¬ (x271 = x3) → ((0 ≤ x271 → J278 ρ275 0) ∧ (¬ (0 ≤ x271) → J284 ρ275))))))) := by
  obtain ⟨v2, v3, v4, v5, v6⟩ := id hV
  have hu3 := hG.1.nu
  have neg : ∀ (s : Rh) (x9 : Int32), x9.toInt < 0 → Rel s.2.1 s.1 C → s.2.2 ≤ 64 * i + 1 → (∃ J278 : Rh → Int32 → Prop, (∀ (σ276 : Rh) (x277 : Int32), J278 σ276 x277 → (∃ J281 : Rh → Int32 → Prop, (∀ (σ279 : Rh) (x280 : Int32), J281 σ279 x280 → ∀ x282 : Int32, x282 = x3 + x280 → J76 σ279 x2 x282 x4 x5 y6 x277) ∧ ((¬ x9 = x3 → J281 σ276 0) ∧ (¬ (¬ x9 = x3) → J281 σ276 1)))) ∧ (∃ J284 : Rh → Prop, (∀ (σ283 : Rh), J284 σ283 → J278 σ283 1) ∧ ((x9 = x3 → J284 s) ∧ (¬ (x9 = x3) → ((0 ≤ x9 → J278 s 0) ∧ (¬ (0 ≤ x9) → J284 s)))))) := fun s x9 hx Rs ws => by
    have ne : ¬ x9 = x3 := fun z => by rw [eqT] at z; omega
    refine ⟨fun t v => t = s ∧ v = 1, fun t v h => ?_, fun t => t = s, fun t h => ⟨h, rfl⟩, fun _ => rfl, fun _ => ⟨fun z => ?_, fun _ => rfl⟩⟩
    · obtain ⟨rfl, rfl⟩ := h
      refine ⟨fun t2 v => t2 = t ∧ v = 0, fun t2 v h2 x282 h282 => ?_, fun _ => ⟨rfl, rfl⟩, fun z => absurd ne z⟩
      obtain ⟨rfl, rfl⟩ := h2
      rw [show x282 = x3 from by rw [h282, eqT, ad32 (by rw [t_0]; omega) (by rw [t_0]; omega), t_0]; omega]
      exact hJ _ _ _ _ _ _ (MI_c (σ := t2.1) (L := t2.2.1) (w := t2.2.2) hG Rs (by omega) hV h3 hn (Int.le_refl _))
    · rw [leT, t_0] at z
      omega
  refine ⟨by omega, K_unit hG.1 hR (fun _ σ' L' R' ρ1 e1 => ?_) (fun _ _ σ' L' R' ρ1 e1 => ?_) (fun d1 d2 σ' L' x9 R' e9 ρ1 e1 => ?_)⟩
  · subst e1
    exact neg _ _ (by decide) R' (show σ128.2.2 + 1 ≤ _ by omega)
  · subst e1
    exact neg _ _ (by decide) R' (show σ128.2.2 + 1 ≤ _ by omega)
  · subst e1
    have t := l_T e9 (by omega) (by omega)
    have ex : x9 = x3 := eqT.mpr (by omega)
    refine ⟨fun s v => s = (σ', L', σ128.2.2 + 1) ∧ v = 1, fun s v h => ?_, fun s => s = (σ', L', σ128.2.2 + 1), fun s h => ⟨h, rfl⟩, fun _ => rfl, fun z => absurd ex z⟩
    obtain ⟨rfl, rfl⟩ := h
    refine ⟨fun s v => s = (σ', L', σ128.2.2 + 1) ∧ v = 1, fun s v h x282 h282 => ?_, fun z => absurd ex z, fun _ => ⟨rfl, rfl⟩⟩
    obtain ⟨rfl, rfl⟩ := h
    refine hJ _ _ _ _ _ _ (MI_c (GC_unit hG d1 d2) R' (by omega) ⟨v2, ?_, v4, v5, v6⟩ h3 hn (Int.le_refl _))
    show x282.toInt = C 200 18 + 1
    rw [h282, ad32 (by rw [t_1]; omega) (by rw [t_1]; omega), t_1, v3]
theorem c_cost {C : Cr} {i : Nat} {x2 x3 x4 x5 x63 x68 : Int32} {y6 : Int64} {J76 : Rh → Int32 → Int32 → Int32 → Int32 → Int64 → Int32 → Prop} (hG : GC C) (hi : i < 28) (hV : VS C x2 x3 x4 x5 y6) (hz : 0 ≤ x63.toInt) (hm : 0 ≤ x68.toInt ∧ x68.toInt ≤ C 200 0) (h3 : 3 ≤ C 200 1 ∧ C 200 1 ≤ 5) (hn : C 200 0 ≤ 6) (hJ : ∀ ρ a b c d e, MI i (C 200 0) ρ a b c d e 1 → J76 ρ a b c d e 1) {σ132 : Rh} (hR : Rel σ132.2.1 σ132.1 C) (hw : σ132.2.2 ≤ 64 * i) (h4 : 0 < x4.toInt) : ∀ x227 : Int32, x227 = 1 + (jr (x63 / 6) 200000) → ¬ x4 = 0 ∧ σ132.2.2 + 1 ≤ 3500 ∧ wp_L_cost σ132.2.1 σ132.1 (jr x63 x4) x68 x227 (fun (x229 : Int32) (σ230 : Mm) (L231 : List Nat) => ∀ ρ233 : Rh, ρ233 = (σ230, L231, σ132.2.2 + 1) → (∃ J236 : Rh → Int32 → Prop, (∀ (σ234 : Rh) (x235 : Int32), J236 σ234 x235 → (∃ J239 : Rh → Int64 → Prop, (∀ (σ237 : Rh) (y238 : Int64), J239 σ237 y238 → ∀ y240 : Int64, y240 = y6 + y238 → J76 σ237 x2 x3 x4 x5 y240 x235) ∧ ((x229 ≤ 0 → J239 σ234 0) ∧ (¬ (x229 ≤ 0) → J239 σ234 x227.toInt64)))) ∧ (∃ J242 : Rh → Prop, (∀ (σ241 : Rh), J242 σ241 → J236 σ241 1) ∧ ((x229 = (-103) → J242 ρ233) ∧ (¬ (x229 = (-103)) → ((x229 < x227 → J236 ρ233 0) ∧ (¬ (x229 < x227) → J242 ρ233))))))) := by
  obtain ⟨v2, v3, v4, v5, v6⟩ := id hV
  have a := jr_rg hz h4
  have D1 : dWM C (jr x63 x4).toInt x68.toInt := ⟨⟨a.1, by omega⟩, hm⟩
  intro x227 h227
  have b := one_p (c := 1) (k := 1) rfl (by omega) (jr_n (y := 200000) (n := 200000) (dv_nn (y := 6) hz (by decide)) rfl (by decide)) (by decide)
  rw [← h227] at b
  refine ⟨nz h4, by omega, K_cost hG.1 hR (fun z => absurd D1 z) (fun _ z => absurd ⟨by omega, by omega⟩ z) (fun _ _ _ σ' L' R' ρ1 e1 => ?_) (fun d1 d2 d3 σ' L' x9 R' e9 ρ1 e1 => ?_)⟩
  · subst e1
    refine ⟨fun s v => s = (σ', L', σ132.2.2 + 1) ∧ v = 1, fun s v h => ?_, fun s => s = (σ', L', σ132.2.2 + 1), fun s h => ⟨h, rfl⟩, fun _ => rfl, fun z => absurd rfl z⟩
    obtain ⟨rfl, rfl⟩ := h
    refine ⟨fun s v => s = (σ', L', σ132.2.2 + 1) ∧ v = 0, fun s v h y240 h240 => ?_, fun _ => ⟨rfl, rfl⟩, fun z => absurd (by decide) z⟩
    obtain ⟨rfl, rfl⟩ := h
    refine hJ _ _ _ _ _ _ (MI_c hG R' (by omega) ⟨v2, v3, v4, v5, ?_⟩ h3 hn (Int.le_refl _))
    rw [h240, v6, lZ_0, lZ_add, Int.add_zero]
  · subst e1
    have hw6 := hG.1.nw
    have hn6 := hG.1.now
    have r := (hG.1.wm (iW (jr x63 x4).toInt x68.toInt) (by unfold iW; omega)).2.2
    have d32 := d3.2
    have t := l_T e9 (by omega) (by omega)
    have ge : ¬ x9 < x227 := fun z => by rw [ltT] at z; omega
    refine ⟨fun s v => s = (σ', L', σ132.2.2 + 1) ∧ v = 1, fun s v h => ?_, fun s => s = (σ', L', σ132.2.2 + 1), fun s h => ⟨h, rfl⟩, fun _ => rfl, fun _ => ⟨fun z => absurd z ge, fun _ => rfl⟩⟩
    obtain ⟨rfl, rfl⟩ := h
    refine ⟨fun s v => s = (σ', L', σ132.2.2 + 1) ∧ v = x227.toInt64, fun s v h y240 h240 => ?_, fun z => ?_, fun _ => ⟨rfl, rfl⟩⟩
    · obtain ⟨rfl, rfl⟩ := h
      refine hJ _ _ _ _ _ _ (MI_c (GC_cost hG d1 d2.1 d3) R' (by omega) ⟨v2, v3, v4, v5, ?_⟩ h3 hn (Int.le_refl _))
      rw [h240, v6, i2l, lZ_add, OT_cost hG.1 d1]
    · rw [leT, t_0] at z
      omega
