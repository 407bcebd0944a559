/-! PURE: the model's tellings, on -/
def uCost (C : Cr) (a1 a2 a3 : Int) : Cr := u2 C 219 (iW a1 a2) (C 219 (iW a1 a2) + a3)
abbrev dCo3 (C : Cr) (a1 a2 a3 : Int) : Prop := dOil3 C a1 a2 ∧ C 219 (iW a1 a2) + a3 ≤ 10000000
theorem M_cost {τ : Mm} {C : Cr} (hc : core τ = C) (hI : Inv C) {a1 a2 a3 : Int32} {Q : Int32 → Mm → Prop}
    (hn : ¬ (dWM C a1.toInt a2.toInt ∧ (1 ≤ a3.toInt ∧ a3.toInt ≤ 1000000) ∧ dCo3 C a1.toInt a2.toInt a3.toInt) → ∀ τ', core τ' = C → gI τ' 200 39 = rf (dWM C a1.toInt a2.toInt) (1 ≤ a3.toInt ∧ a3.toInt ≤ 1000000) (dCo3 C a1.toInt a2.toInt a3.toInt) → Q 0 τ')
    (hy : dWM C a1.toInt a2.toInt → (1 ≤ a3.toInt ∧ a3.toInt ≤ 1000000) → dCo3 C a1.toInt a2.toInt a3.toInt → ∀ τ' x, core τ' = uCost C a1.toInt a2.toInt a3.toInt → gI τ' 200 39 = 0 → x.toInt = C 219 (iW a1.toInt a2.toInt) + a3.toInt → Q x τ') : wp_X7_cost τ a1 a2 a3 Q := by
  have h1 := hI.nw
  have hw := hI.now
  have hu := hI.nu
  refine m_wellMonth hc hI (m_btw ?_)
  rw [show (bz ((1 : Int32).toInt ≤ a3.toInt ∧ a3.toInt ≤ (1000000 : Int32).toInt)) = bz (1 ≤ a3.toInt ∧ a3.toInt ≤ 1000000) from rfl]
  have fin : ∀ x8 : Int32, x8 = bz (dWM C a1.toInt a2.toInt ∧ (1 ≤ a3.toInt ∧ a3.toInt ≤ 1000000) ∧ dCo3 C a1.toInt a2.toInt a3.toInt) → wp_X7_goes τ (bz (dWM C a1.toInt a2.toInt)) (bz (1 ≤ a3.toInt ∧ a3.toInt ≤ 1000000)) x8 (fun (x8 : Int32) (σ7 : Mm) => ((¬ x8 = 0 → vp_in ((61 * a1) + a2) 366 ∧ vp_in ((61 * a1) + a2) 366 ∧ ∀ σ11 : Mm, σ11 = sI σ7 219 ((61 * a1) + a2).toNatClampNeg ((gI σ7 219 ((61 * a1) + a2).toNatClampNeg) + a3) → vp_in ((61 * a1) + a2) 366 ∧ Q (gI σ11 219 ((61 * a1) + a2).toNatClampNeg) σ11) ∧ (¬ (¬ x8 = 0) → Q 0 σ7))) := by
    intro x8 e8
    refine m_goesD (d1 := dWM C a1.toInt a2.toInt) (d2 := 1 ≤ a3.toInt ∧ a3.toInt ≤ 1000000) (d3 := dCo3 C a1.toInt a2.toInt a3.toInt) rfl rfl e8 (fun _ => Iff.rfl) (fun k k2 => ⟨fun z => z.2.2, fun z => ⟨k, k2, z⟩⟩) (fun q σ' k1 k2 => ?_) (fun q1 q2 q3 σ' k1 k2 => ?_)
    · exact br_n (fun z => z rfl) (hn q σ' (k1.trans hc) k2)
    · have k1 := k1.trans hc
      have ex := ix_w2 (a1 := a1) (a2 := a2) (by omega) (by omega) (by omega) (by omega)
      have nx : (61 * a1 + a2).toNatClampNeg = iW a1.toInt a2.toInt := by rw [cl_T, ex]; exact Int.toNat_natCast _
      have v : vp_in ((61 * a1) + a2) 366 := vin (by omega) (by omega)
      have g : (gI σ' 219 (iW a1.toInt a2.toInt)).toInt = C 219 (iW a1.toInt a2.toInt) := cK k1 (by decide)
      have r := hI.wm (iW a1.toInt a2.toInt) (by unfold iW; omega)
      have es : (gI σ' 219 (iW a1.toInt a2.toInt) + a3).toInt = C 219 (iW a1.toInt a2.toInt) + a3.toInt := by rw [ad32 (by omega) (by omega), g]
      refine br_y (by decide) ⟨v, v, fun s1 h1 => ⟨v, ?_⟩⟩
      rw [nx] at h1 ⊢
      have c1 := cs_I k1 (k := 219) (i := iW a1.toInt a2.toInt) (v := gI σ' 219 (iW a1.toInt a2.toInt) + a3) (by omega) (by omega) (Or.inl (by omega))
      rw [← h1, es] at c1
      refine hy q1 q2 q3 s1 _ c1 ?_ ?_
      · rw [h1]; exact th_I k2 (Or.inl (by omega))
      · rw [cK c1 (by decide)]; exact u2_y
  by_cases k : dWM C a1.toInt a2.toInt
  · have e : bz (dWM C a1.toInt a2.toInt) = 1 := bz_y k
    rw [e] at fin ⊢
    have v6 : vp_in a1 6 := vin (by omega) (by omega)
    have g216 : (gI τ 216 a1.toInt.toNat).toInt = C 216 a1.toInt.toNat := cK hc (by decide)
    have r := hI.we a1.toInt.toNat (by unfold nW; omega)
    have g215 : (gI τ 215 (C 216 a1.toInt.toNat).toNat).toInt = C 215 (C 216 a1.toInt.toNat).toNat := cK hc (by decide)
    have ex := ix_w2 (a1 := a1) (a2 := a2) (by omega) (by omega) (by omega) (by omega)
    have nx : (61 * a1 + a2).toNatClampNeg = iW a1.toInt a2.toInt := by rw [cl_T, ex]; exact Int.toNat_natCast _
    have g219 : (gI τ 219 (iW a1.toInt a2.toInt)).toInt = C 219 (iW a1.toInt a2.toInt) := cK hc (by decide)
    have r9 := hI.wm (iW a1.toInt a2.toInt) (by unfold iW; omega)
    refine jn1 (jn0 (br_n (by decide) ⟨fun q => ?_, fun q => jn1 (br_n (by decide) ⟨v6, ?_⟩)⟩))
    · rw [bz_0] at q
      exact fin 0 (bz_no (fun z => q z.2.1)).symm
    · have q := (bz_n _).mp q
      rw [cl_T (x := a1)]
      refine ⟨vin (by omega) (by omega), ?_⟩
      rw [cl_T (x := gI τ 216 a1.toInt.toNat), g216]
      refine ⟨fun z => ?_, fun z => jn1 (br_n (by decide) ⟨vin (by omega) (by omega), ?_⟩)⟩
      · rw [ltT, g215] at z
        exact fin 0 (bz_no (fun y => by have := y.2.2.1; omega)).symm
      · rw [ltT, g215] at z
        have es : (gI τ 219 (iW a1.toInt a2.toInt) + a3).toInt = C 219 (iW a1.toInt a2.toInt) + a3.toInt := by rw [ad32 (by omega) (by omega), g219]
        refine ⟨fun y => ?_, fun y => ?_⟩
        · rw [ltT, nx, es, t_1e7] at y
          exact fin 0 (bz_no (fun x => by have := x.2.2.2; omega)).symm
        · rw [ltT, nx, es, t_1e7] at y
          exact fin 1 (bz_y ⟨k, q, by omega, by omega⟩).symm
  · have e : bz (dWM C a1.toInt a2.toInt) = 0 := bz_no k
    rw [e] at fin ⊢
    exact jn1 (jn0 (br_y rfl (fin 0 (bz_no (fun z => k z.1)).symm)))
theorem M_tax {τ : Mm} {C : Cr} (hc : core τ = C) (hI : Inv C) {a1 a2 : Int32} {Q : Int32 → Mm → Prop}
    (hn : ¬ (dMo C a2.toInt ∧ (0 ≤ a1.toInt ∧ a1.toInt ≤ 50) ∧ True) → ∀ τ', core τ' = C → gI τ' 200 39 = rf (dMo C a2.toInt) (0 ≤ a1.toInt ∧ a1.toInt ≤ 50) True → Q 0 τ')
    (hy : dMo C a2.toInt → (0 ≤ a1.toInt ∧ a1.toInt ≤ 50) → ∀ τ', core τ' = u2 C 220 a2.toInt.toNat a1.toInt → gI τ' 200 39 = 0 → Q (iZ (txn C (a2.toInt.toNat + 1))) τ') : wp_X7_tax τ a1 a2 Q := by
  have hw := hI.now
  refine m_month hc (m_btw (m_goesD (d1 := dMo C a2.toInt) (d2 := 0 ≤ a1.toInt ∧ a1.toInt ≤ 50) (d3 := True) rfl rfl bz1 (fun _ => Iff.rfl) (fun _ _ => Iff.rfl) (fun q σ' k1 k2 => ?_) (fun q1 q2 _ σ' k1 k2 => ?_)))
  · exact br_n (fun z => z rfl) (hn q σ' (k1.trans hc) k2)
  · have k1 := k1.trans hc
    refine br_y (by decide) (m_taxOf k1 q1.1 (by omega) ⟨vin q1.1 (by omega), fun s1 h1 => ?_⟩)
    rw [cl_T] at h1
    have c1 := cs_I k1 (k := 220) (i := a2.toInt.toNat) (v := a1) (by omega) (by omega) (Or.inl (by omega))
    rw [← h1] at c1
    exact hy q1 q2 s1 c1 (by rw [h1]; exact th_I k2 (Or.inl (by omega)))
abbrev dUO (C : Cr) (a1 a2 : Int) : Prop := dUn C a1 ∧ dOw a2
def iC (C : Cr) (a1 a2 : Int) : Nat := 610 * a1.toNat + 61 * a2.toNat + nN C
theorem M_consent {τ : Mm} {C : Cr} (hc : core τ = C) (hI : Inv C) {a1 a2 a3 : Int32} {Q : Int32 → Mm → Prop}
    (hn : ¬ dUO C a1.toInt a2.toInt → ∀ τ', core τ' = C → gI τ' 200 39 = 1 → Q 0 τ')
    (hy : dUO C a1.toInt a2.toInt → ∀ τ', core τ' = u2 C 221 (iC C a1.toInt a2.toInt) (if a3 = 0 then 2 else 1) → gI τ' 200 39 = 0 → Q (bz (csn C a1.toInt.toNat a2.toInt.toNat (nN C + 1) = 1)) τ') : wp_X7_consent τ a1 a2 a3 Q := by
  have hw := hI.now
  have hu := hI.nu
  refine m_unit' hc hI (jch (σ := τ) (d := dUO C a1.toInt a2.toInt) ?_ ⟨fun q => ?_, fun q => m_owner ⟨fun q2 => ?_, fun q2 => ?_⟩⟩)
  · refine m_goesD (d1 := dUO C a1.toInt a2.toInt) (d2 := True) (d3 := True) rfl bz1 bz1 (fun _ => Iff.rfl) (fun _ _ => Iff.rfl) (fun q σ' k1 k2 => ?_) (fun q1 _ _ σ' k1 k2 => ?_)
    · have q : ¬ dUO C a1.toInt a2.toInt := fun z => q ⟨z, trivial, trivial⟩
      exact br_n (fun z => z rfl) (hn q σ' (k1.trans hc) (k2.trans (if_neg q)))
    · have k1 := k1.trans hc
      have g0 : (gI σ' 200 0).toInt = C 200 0 := c0 k1 (by decide)
      have e0 : gI σ' 200 0 = iZ (nN C : Int) := by
        rw [← iZ_toInt (gI σ' 200 0), g0]
        congr 1
        unfold nN; omega
      have ex := ix_c (a1 := a1) (a2 := a2) (i := nN C) (by omega) (by omega) (by omega) (by omega) (by unfold nN; omega)
      rw [← e0] at ex
      have nx : ((610 * a1) + (61 * a2) + gI σ' 200 0).toNatClampNeg = iC C a1.toInt a2.toInt := by rw [cl_T, ex]; exact Int.toNat_natCast _
      have hN : nN C ≤ 60 := by unfold nN; omega
      have v : vp_in ((610 * a1) + (61 * a2) + gI σ' 200 0) 1830 := vin (by omega) (by omega)
      refine br_y (by decide) (m_doesConsent k1 q1.1.1 (by omega) q1.2.1 q1.2.2 (by omega) (by omega) ?_ hI.to)
      refine jb ⟨v, fun s1 h1 => ?_⟩
      rw [nx] at h1
      have c1 := cs_I k1 (k := 221) (i := iC C a1.toInt a2.toInt) (v := if a3 = 0 then 2 else 1) (by omega) (by omega) (Or.inl (by omega))
      rw [← h1] at c1
      have e2 : (if a3 = 0 then (2 : Int32) else 1).toInt = (if a3 = 0 then 2 else 1) := by split <;> rfl
      rw [e2] at c1
      have := hy q1 s1 c1 (by rw [h1]; exact th_I k2 (Or.inl (by omega)))
      rw [g0]
      exact ⟨zb_bz _, this⟩
  · rw [bz_0] at q; exact ⟨rfl, fun z => q z.1⟩
  · rw [bz_0] at q2; exact ⟨rfl, fun z => q2 z.2⟩
  · exact ⟨rfl, (bz_y ⟨(bz_n _).mp q, (bz_n _).mp q2⟩).symm⟩
theorem M_penalty {τ : Mm} {C : Cr} (hc : core τ = C) {a1 : Int32} {Q : Int32 → Mm → Prop}
    (hn : ¬ (100 ≤ a1.toInt ∧ a1.toInt ≤ 500) → ∀ τ', core τ' = C → gI τ' 200 39 = 1 → Q 0 τ')
    (hy : (100 ≤ a1.toInt ∧ a1.toInt ≤ 500) → ∀ τ' x, core τ' = u2 C 200 27 a1.toInt → gI τ' 200 39 = 0 → x.toInt = C 200 27 → Q x τ') : wp_X7_penalty τ a1 Q := by
  refine m_btw (m_goesD (d1 := 100 ≤ a1.toInt ∧ a1.toInt ≤ 500) (d2 := True) (d3 := True) rfl bz1 bz1 (fun _ => Iff.rfl) (fun _ _ => Iff.rfl) (fun q σ' k1 k2 => ?_) (fun q1 _ _ σ' k1 k2 => ?_))
  · have q : ¬ (100 ≤ a1.toInt ∧ a1.toInt ≤ 500) := fun z => q ⟨z, trivial, trivial⟩
    exact br_n (fun z => z rfl) (hn q σ' (k1.trans hc) (k2.trans (if_neg q)))
  · have k1 := k1.trans hc
    refine br_y (by decide) (fun x5 e5 s1 h1 => ?_)
    have c1 := cs_I k1 (k := 200) (i := 27) (v := a1) (by omega) (by omega) (Or.inr (by omega))
    rw [← h1] at c1
    exact hy q1 s1 x5 c1 (by rw [h1]; exact th_I k2 (Or.inr (by omega))) (by rw [e5]; exact c0 k1 (by decide))
theorem M_least {τ : Mm} {C : Cr} (hc : core τ = C) {a1 : Int32} {Q : Int32 → Mm → Prop}
    (hn : ¬ (1 ≤ a1.toInt ∧ a1.toInt ≤ 100000) → ∀ τ', core τ' = C → gI τ' 200 39 = 1 → Q 0 τ')
    (hy : (1 ≤ a1.toInt ∧ a1.toInt ≤ 100000) → ∀ τ' x, core τ' = u2 C 200 28 a1.toInt → gI τ' 200 39 = 0 → x.toInt = C 200 28 → Q x τ') : wp_X7_least τ a1 Q := by
  refine m_btw (m_goesD (d1 := 1 ≤ a1.toInt ∧ a1.toInt ≤ 100000) (d2 := True) (d3 := True) rfl bz1 bz1 (fun _ => Iff.rfl) (fun _ _ => Iff.rfl) (fun q σ' k1 k2 => ?_) (fun q1 _ _ σ' k1 k2 => ?_))
  · have q : ¬ (1 ≤ a1.toInt ∧ a1.toInt ≤ 100000) := fun z => q ⟨z, trivial, trivial⟩
    exact br_n (fun z => z rfl) (hn q σ' (k1.trans hc) (k2.trans (if_neg q)))
  · have k1 := k1.trans hc
    refine br_y (by decide) (fun x5 e5 s1 h1 => ?_)
    have c1 := cs_I k1 (k := 200) (i := 28) (v := a1) (by omega) (by omega) (Or.inr (by omega))
    rw [← h1] at c1
    exact hy q1 s1 x5 c1 (by rw [h1]; exact th_I k2 (Or.inr (by omega))) (by rw [e5]; exact c0 k1 (by decide))
theorem M_suspend {τ : Mm} {C : Cr} (hc : core τ = C) (hI : Inv C) {a1 a2 : Int32} (hz : zb a2) {Q : Int32 → Mm → Prop}
    (hn : ¬ dOw a1.toInt → ∀ τ', core τ' = C → gI τ' 200 39 = 1 → Q 0 τ')
    (hy : dOw a1.toInt → ∀ τ', core τ' = u2 C 222 a1.toInt.toNat a2.toInt → gI τ' 200 39 = 0 → Q (iZ (C 222 a1.toInt.toNat)) τ') : wp_X7_suspend τ a1 a2 Q := by
  refine m_owner (m_goesD (d1 := dOw a1.toInt) (d2 := True) (d3 := True) rfl bz1 bz1 (fun _ => Iff.rfl) (fun _ _ => Iff.rfl) (fun q σ' k1 k2 => ?_) (fun q1 _ _ σ' k1 k2 => ?_))
  · have q : ¬ dOw a1.toInt := fun z => q ⟨z, trivial, trivial⟩
    exact br_n (fun z => z rfl) (hn q σ' (k1.trans hc) (k2.trans (if_neg q)))
  · have k1 := k1.trans hc
    have v : vp_in a1 10 := vin q1.1 (by omega)
    refine br_y (by decide) ⟨v, fun x6 e6 => ⟨v, fun s1 h1 => ?_⟩⟩
    have hz2 : vp_nar .boolean a2 = a2 := by
      unfold zb at hz
      unfold vp_nar
      rw [hz]
    rw [hz2] at h1
    rw [cl_T] at h1 e6
    have c1 := cs_I k1 (k := 222) (i := a1.toInt.toNat) (v := a2) (by omega) (by omega) (Or.inl (by omega))
    rw [← h1] at c1
    have g : (gI σ' 222 a1.toInt.toNat).toInt = C 222 a1.toInt.toNat := cK k1 (by decide)
    have e7 : x6 = iZ (C 222 a1.toInt.toNat) := by rw [e6, ← g, iZ_toInt]
    rw [e7]
    refine ⟨?_, hy q1 s1 c1 (by rw [h1]; exact th_I k2 (Or.inl (by omega)))⟩
    rcases hI.su a1.toInt.toNat (by omega) with h | h <;> rw [h] <;> rfl
theorem M_paid {τ : Mm} {C : Cr} (hc : core τ = C) {a1 : Int32} {Q : Int64 → Mm → Prop}
    (hn : ¬ dOw a1.toInt → ∀ τ', core τ' = C → gI τ' 200 39 = 1 → Q 0 τ')
    (hy : dOw a1.toInt → ∀ τ', core τ' = C → gI τ' 200 39 = 0 → Q (lZ (C 223 a1.toInt.toNat)) τ') : wp_X7_paid τ a1 Q := by
  refine m_owner (m_goesD (d1 := dOw a1.toInt) (d2 := True) (d3 := True) rfl bz1 bz1 (fun _ => Iff.rfl) (fun _ _ => Iff.rfl) (fun q σ' k1 k2 => ?_) (fun q1 _ _ σ' k1 k2 => ?_))
  · have q : ¬ dOw a1.toInt := fun z => q ⟨z, trivial, trivial⟩
    exact br_n (fun z => z rfl) (hn q σ' (k1.trans hc) (k2.trans (if_neg q)))
  · have k1 := k1.trans hc
    refine br_y (by decide) ⟨vin q1.1 (by omega), ?_⟩
    have := hy q1 σ' k1 k2
    rw [cl_T, core_J, k1]
    exact this
