/-! PURE: the model's revenue, costs, who is carried -/
theorem tx100 {a t : Int} (h1 : 0 ≤ a) (h2 : a ≤ 60000000) (h3 : 0 ≤ t) (h4 : t ≤ 50) : ((lZ a * lZ t) / 100).toInt32 = iZ (a * t / 100) := by
  have p := Int.mul_nonneg h1 h3
  have p2 := Int.mul_le_mul h2 h4 h3 (show (0 : Int) ≤ 60000000 by omega)
  rw [lZ_mul, show (100 : Int64) = lZ 100 from rfl, lZ_div p (by omega) (by omega) (by omega), lZ_i]
theorem m_revenueOf {σ : Mm} {C : Cr} (hc : core σ = C) (hI : Inv C) {a1 a2 : Int32} (h1 : 0 ≤ a2.toInt) (h2 : a2.toInt ≤ C 200 0) {Q : Int32 → Mm → Prop} (h : Q (iZ (rv C a1.toInt a2.toInt.toNat)) σ) : wp_X7_revenueOf σ a1 a2 Q := by
  have hw := hI.nw
  have hn := hI.now
  have g20 := c0 hc (i := 20) (by decide)
  have hnW : ((nW C : Nat) : Int) = C 200 20 := by unfold nW; omega
  obtain ⟨m, hm⟩ : ∃ m : Nat, a2.toInt.toNat = m := ⟨_, rfl⟩
  have hm2 : a2.toInt = m := by omega
  rw [hm] at h
  refine lpw_f (fun i => (iZ (sm (fun w => if C 216 w = a1.toInt then C 217 (61 * w + m) * C 218 (61 * w + m) else 0) i), iZ (i : Int))) (nW C) rfl ?_
  intro i rec hi hrec
  have ti1 : (iZ (i : Int)).toInt = i := n_iZ (by omega)
  have ni : (iZ (i : Int)).toNatClampNeg = i := nat_iZ (by omega)
  refine ⟨fun q => ?_, fun q => ?_⟩
  · rw [leT, g20, ti1] at q
    have e : i = nW C := by omega
    subst e
    refine m_taxOf hc h1 (by omega) ?_
    rw [hm]
    have r := gs_rg hI a1.toInt (m := m) (by omega)
    have t := txn_rg hI (m + 1) (by omega)
    have er : iZ (gs C a1.toInt m) - iZ (gs C a1.toInt m * txn C (m + 1) / 100) = iZ (rv C a1.toInt m) := by rw [iZ_sub]; rfl
    have eg : (iZ (gs C a1.toInt m)).toInt64 = lZ (gs C a1.toInt m) := i2lT (toInt_iZ (by omega) (by omega))
    have et : (iZ (txn C (m + 1))).toInt64 = lZ (txn C (m + 1)) := i2lT (toInt_iZ (by omega) (by omega))
    show Q (iZ (gs C a1.toInt m) - (((iZ (gs C a1.toInt m)).toInt64 * (iZ (txn C (m + 1))).toInt64) / 100).toInt32) σ
    rw [eg, et, tx100 r.1 r.2 t.1 t.2, er]
    exact h
  · rw [leT, g20, ti1] at q
    have hrec := hrec (by omega)
    have g216 : (gI σ 216 i).toInt = C 216 i := cK hc (by decide)
    have ex := ix_w (i := i) (a2 := a2) (by omega) h1 (by omega)
    rw [hm] at ex
    have nx : (61 * iZ (i : Int) + a2).toNatClampNeg = 61 * i + m := by rw [cl_T, ex]; exact Int.toNat_natCast _
    have v : vp_in (61 * iZ (i : Int) + a2) 366 := vin (by omega) (by omega)
    rw [ni, nx]
    have g217 : gI σ 217 (61 * i + m) = iZ (C 217 (61 * i + m)) := by rw [← cK hc (k := 217) (i := 61 * i + m) (by decide), iZ_toInt]
    have g218 : gI σ 218 (61 * i + m) = iZ (C 218 (61 * i + m)) := by rw [← cK hc (k := 218) (i := 61 * i + m) (by decide), iZ_toInt]
    have fin : ∀ x8 : Int32, x8 = iZ (if C 216 i = a1.toInt then C 217 (61 * i + m) * C 218 (61 * i + m) else 0) → ∀ x10 : Int32, x10 = iZ (sm (fun w => if C 216 w = a1.toInt then C 217 (61 * w + m) * C 218 (61 * w + m) else 0) i) + x8 → ∀ x11 : Int32, x11 = iZ (i : Int) + 1 → rec (x10, x11) := fun x8 h8 x10 h10 x11 h11 => hrec _ (by rw [h10, h11, h8, iZ_s, iZ_add, sm_s])
    refine ⟨vin (by omega) (by omega), jn1 ⟨fun z => fin _ ?_, fun z => ⟨v, v, fin _ ?_⟩⟩⟩
    · rw [eqT, g216] at z
      rw [if_neg z]; rfl
    · rw [Decidable.not_not, eqT, g216] at z
      rw [if_pos z, g217, g218, iZ_mul]
theorem m_costOf {σ : Mm} {C : Cr} (hc : core σ = C) (hI : Inv C) {a1 a2 : Int32} (h1 : 0 ≤ a2.toInt) (h2 : a2.toInt ≤ C 200 0) {Q : Int32 → Mm → Prop} (h : Q (iZ (co C a1.toInt a2.toInt.toNat)) σ) : wp_X7_costOf σ a1 a2 Q := by
  have hw := hI.nw
  have hn := hI.now
  have g20 := c0 hc (i := 20) (by decide)
  have hnW : ((nW C : Nat) : Int) = C 200 20 := by unfold nW; omega
  obtain ⟨m, hm⟩ : ∃ m : Nat, a2.toInt.toNat = m := ⟨_, rfl⟩
  have hm2 : a2.toInt = m := by omega
  rw [hm] at h
  refine lpw_f (fun i => (iZ (sm (fun w => if C 216 w = a1.toInt then C 219 (61 * w + m) else 0) i), iZ (i : Int))) (nW C) rfl ?_
  intro i rec hi hrec
  have ti1 : (iZ (i : Int)).toInt = i := n_iZ (by omega)
  have ni : (iZ (i : Int)).toNatClampNeg = i := nat_iZ (by omega)
  refine ⟨fun q => ?_, fun q => ?_⟩
  · rw [leT, g20, ti1] at q
    have e : i = nW C := by omega
    subst e
    exact h
  · rw [leT, g20, ti1] at q
    have hrec := hrec (by omega)
    have g216 : (gI σ 216 i).toInt = C 216 i := cK hc (by decide)
    have ex := ix_w (i := i) (a2 := a2) (by omega) h1 (by omega)
    rw [hm] at ex
    have nx : (61 * iZ (i : Int) + a2).toNatClampNeg = 61 * i + m := by rw [cl_T, ex]; exact Int.toNat_natCast _
    have v : vp_in (61 * iZ (i : Int) + a2) 366 := vin (by omega) (by omega)
    rw [ni, nx]
    have g219 : gI σ 219 (61 * i + m) = iZ (C 219 (61 * i + m)) := by rw [← cK hc (k := 219) (i := 61 * i + m) (by decide), iZ_toInt]
    have fin : ∀ x8 : Int32, x8 = iZ (if C 216 i = a1.toInt then C 219 (61 * i + m) else 0) → ∀ x10 : Int32, x10 = iZ (sm (fun w => if C 216 w = a1.toInt then C 219 (61 * w + m) else 0) i) + x8 → ∀ x11 : Int32, x11 = iZ (i : Int) + 1 → rec (x10, x11) := fun x8 h8 x10 h10 x11 h11 => hrec _ (by rw [h10, h11, h8, iZ_s, iZ_add, sm_s])
    refine ⟨vin (by omega) (by omega), jn1 ⟨fun z => fin _ ?_, fun z => ⟨v, fin _ ?_⟩⟩⟩
    · rw [eqT, g216] at z
      rw [if_neg z]; rfl
    · rw [Decidable.not_not, eqT, g216] at z
      rw [if_pos z, g219]
theorem ten_o (o : Nat) : (10 + iZ (o : Int)) = iZ ((10 + o : Nat) : Int) := by
  rw [show (10 : Int32) = iZ 10 from rfl, iZ_add]; rfl
theorem m_takes1 {τ : Mm} {d : Nat → Int} (hd : ∀ i : Nat, i < 20 → gJ τ 224 i = lZ (d i)) {Q : Mm → Prop} (h : ∀ τ', kp [225] τ τ' → (∀ o : Nat, o < 10 → gJ τ' 225 o = lZ (d (10 + o))) → Q τ') : wp_X7_takesWorking τ 1 Q := by
  refine lpw_inv (fun i (s : Mm × Int32) => kp [225] τ s.1 ∧ s.2 = iZ (i : Int) ∧ ∀ o : Nat, o < i → gJ s.1 225 o = lZ (d (10 + o))) 10 ⟨kp_rf, rfl, fun j hj => by omega⟩ ?_
  intro i s rec hi hs0 hrec
  obtain ⟨σ1, x2⟩ := s
  obtain ⟨d1, d2, d3⟩ := hs0
  dsimp only at d1 d2 d3
  subst d2
  have ti1 : (iZ (i : Int)).toInt = i := n_iZ (by omega)
  have ni : (iZ (i : Int)).toNatClampNeg = i := nat_iZ (by omega)
  refine ⟨fun q => ?_, fun q => ?_⟩
  · rw [leT, ti1, t_10] at q
    have e : i = 10 := by omega
    subst e
    exact h σ1 d1 d3
  · rw [leT, ti1, t_10] at q
    have hrec := hrec (by omega)
    rw [ni, ten_o]
    have n10 : (iZ ((10 + i : Nat) : Int)).toNatClampNeg = 10 + i := nat_iZ (by omega)
    have v10 : vp_in (iZ ((10 + i : Nat) : Int)) 20 := vin (by rw [n_iZ (by omega)]; omega) (by rw [n_iZ (by omega)]; omega)
    have e1 : gJ σ1 224 (10 + i) = lZ (d (10 + i)) := by rw [(d1 224 (by decide)).2, hd _ (by omega)]
    rw [n10, e1]
    refine jn1 (jn0 (br_y (by decide) ⟨v10, vin (by omega) (by omega), fun σ8 h8 x9 h9 => hrec _ ⟨?_, by rw [h9, iZ_s], fun j hj => ?_⟩⟩))
    · show kp [225] τ σ8
      rw [h8]; exact kp_tr d1 (kp_J (by decide))
    · show gJ σ8 225 j = _
      rw [h8, gJ_sJ]
      by_cases z : j = i
      · rw [if_pos ⟨rfl, z⟩, z]
      · rw [if_neg (fun y => z y.2)]; exact d3 j (by omega)
theorem m_takes0 {τ : Mm} {d : Nat → Int} {cr : Nat → Prop} [DecidablePred cr] (hd : ∀ i : Nat, i < 20 → gJ τ 224 i = lZ (d i)) (hcr : ∀ o : Nat, o < 10 → gI τ 228 o = bz (cr o)) {Q : Mm → Prop} (h : ∀ τ', kp [225] τ τ' → (∀ o : Nat, o < 10 → gJ τ' 225 o = lZ (if cr o then 0 else d (10 + o))) → Q τ') : wp_X7_takesWorking τ 0 Q := by
  refine lpw_inv (fun i (s : Mm × Int32) => kp [225] τ s.1 ∧ s.2 = iZ (i : Int) ∧ ∀ o : Nat, o < i → gJ s.1 225 o = lZ (if cr o then 0 else d (10 + o))) 10 ⟨kp_rf, rfl, fun j hj => by omega⟩ ?_
  intro i s rec hi hs0 hrec
  obtain ⟨σ1, x2⟩ := s
  obtain ⟨d1, d2, d3⟩ := hs0
  dsimp only at d1 d2 d3
  subst d2
  have ti1 : (iZ (i : Int)).toInt = i := n_iZ (by omega)
  have ni : (iZ (i : Int)).toNatClampNeg = i := nat_iZ (by omega)
  refine ⟨fun q => ?_, fun q => ?_⟩
  · rw [leT, ti1, t_10] at q
    have e : i = 10 := by omega
    subst e
    exact h σ1 d1 d3
  · rw [leT, ti1, t_10] at q
    have hrec := hrec (by omega)
    rw [ni, ten_o]
    have n10 : (iZ ((10 + i : Nat) : Int)).toNatClampNeg = 10 + i := nat_iZ (by omega)
    have v10 : vp_in (iZ ((10 + i : Nat) : Int)) 20 := vin (by rw [n_iZ (by omega)]; omega) (by rw [n_iZ (by omega)]; omega)
    have e1 : gJ σ1 224 (10 + i) = lZ (d (10 + i)) := by rw [(d1 224 (by decide)).2, hd _ (by omega)]
    have e2 : gI σ1 228 i = bz (cr i) := by rw [(d1 228 (by decide)).1, hcr _ (by omega)]
    rw [n10, e1, e2]
    have fin : ∀ y5 : Int64, y5 = lZ (if cr i then 0 else d (10 + i)) → vp_in (iZ (i : Int)) 20 ∧ ∀ σ8 : Mm, σ8 = sJ σ1 225 i y5 → ∀ x9 : Int32, x9 = iZ (i : Int) + 1 → rec (σ8, x9) := fun y5 h5 => ⟨vin (by omega) (by omega), fun σ8 h8 x9 h9 => hrec _ ⟨by
      show kp [225] τ σ8
      rw [h8]; exact kp_tr d1 (kp_J (by decide)), by rw [h9, iZ_s], fun j hj => by
      show gJ σ8 225 j = _
      rw [h8, gJ_sJ]
      by_cases z : j = i
      · rw [if_pos ⟨rfl, z⟩, z, h5]
      · rw [if_neg (fun y => z y.2)]; exact d3 j (by omega)⟩⟩
    refine jn1 (jn0 (br_n (fun z => z rfl) ⟨vin (by omega) (by omega), fun z => fin _ ?_, fun z => ⟨v10, fin _ ?_⟩⟩))
    · rw [if_pos ((bz_n _).mp z)]; rfl
    · rw [Decidable.not_not, bz_0] at z
      rw [if_neg z]
theorem nar_bz (c : Prop) [Decidable c] : vp_nar .boolean (bz c) = bz c := by unfold bz; split <;> rfl
theorem m_carries {τ : Mm} {C : Cr} (hc : core τ = C) (hI : Inv C) {a1 a2 : Int32} {m N : Nat} (hN : N = 10) {b d : Nat → Int} (h1 : 0 ≤ a1.toInt) (h2 : a1.toInt < C 200 18) (h3 : a2.toInt = m) (h4 : a2.toInt ≤ C 200 0) (hd : ∀ i : Nat, i < 20 → gJ τ 224 i = lZ (d i)) (hdr : ∀ i : Nat, i < 20 → 0 ≤ d i ∧ d i < 9223372036854775808) (hb : ∀ o : Nat, o < 10 → gJ τ 229 o = lZ (b o)) (hbr : ∀ o : Nat, o < 10 → 0 ≤ b o ∧ b o < 9223372036854775808) {Q : Mm → Prop}
    (h : ∀ τ', kp [228] τ τ' → (∀ o : Nat, o < 10 → gI τ' 228 o = bz (0 < d (10 + o) ∧ cq C a1.toInt.toNat m b o ∧ ∃ p, p < N ∧ (0 < d (10 + p) ∧ ¬ cq C a1.toInt.toNat m b p))) → Q τ') : wp_X7_carries τ a1 a2 Q := by
  have hu := hI.nu
  have hn := hI.now
  have k228 : ∀ k ∈ [228], 224 ≤ k := by decide
  refine lpw_inv (fun i (s : Mm × Int32 × Int32) => kp [228] τ s.1 ∧ s.2.1 = bz (∃ p, p < i ∧ (0 < d (10 + p) ∧ ¬ cq C a1.toInt.toNat m b p)) ∧ s.2.2 = iZ (i : Int) ∧ ∀ o : Nat, o < i → gI s.1 228 o = bz (0 < d (10 + o) ∧ cq C a1.toInt.toNat m b o)) 10 ⟨kp_rf, ?_, rfl, fun j hj => by omega⟩ ?_
  · have z : ∀ n : Nat, n = 0 → (0 : Int32) = bz (∃ p, p < n ∧ (0 < d (10 + p) ∧ ¬ cq C a1.toInt.toNat m b p)) := fun n hn => (bz_no (by rintro ⟨w, hw, -⟩; omega)).symm
    exact z 0 rfl
  intro i s rec hi hs0 hrec
  obtain ⟨σ1, x2, x3⟩ := s
  obtain ⟨d1, d2, d3, d4⟩ := hs0
  dsimp only at d1 d2 d3 d4
  subst d3 d2
  have ti1 : (iZ (i : Int)).toInt = i := n_iZ (by omega)
  have ni : (iZ (i : Int)).toNatClampNeg = i := nat_iZ (by omega)
  refine ⟨fun q => ?_, fun q => ?_⟩
  · rw [leT, ti1, t_10] at q
    have e : N = i := by omega
    subst e
    -- none is carried where no one is left
    refine lpw_inv (fun j (s : Mm × Int32) => kp [228] τ s.1 ∧ s.2 = iZ (j : Int) ∧ ∀ o : Nat, o < 10 → gI s.1 228 o = if o < j then bz (0 < d (10 + o) ∧ cq C a1.toInt.toNat m b o ∧ ∃ p, p < N ∧ (0 < d (10 + p) ∧ ¬ cq C a1.toInt.toNat m b p)) else bz (0 < d (10 + o) ∧ cq C a1.toInt.toNat m b o)) 10 ⟨d1, rfl, fun o ho => by rw [if_neg (by omega)]; exact d4 o (by omega)⟩ ?_
    intro j s rec hj hs1 hrec
    obtain ⟨σ6, x7⟩ := s
    obtain ⟨f1, f2, f3⟩ := hs1
    dsimp only at f1 f2 f3
    subst f2
    have tj : (iZ (j : Int)).toInt = j := n_iZ (by omega)
    have nj : (iZ (j : Int)).toNatClampNeg = j := nat_iZ (by omega)
    refine ⟨fun q => ?_, fun q => ?_⟩
    · rw [leT, tj, t_10] at q
      have e : j = 10 := by omega
      subst e
      exact h σ6 f1 (fun o ho => by rw [f3 o ho, if_pos ho])
    · rw [leT, tj, t_10] at q
      have hrec := hrec (by omega)
      have v := vin (a := iZ (j : Int)) (n := 10) (by omega) (by omega)
      have e3 := f3 j (by omega)
      rw [if_neg (by omega)] at e3
      rw [nj, e3]
      have fin : ∀ x11 : Int32, x11 = bz (0 < d (10 + j) ∧ cq C a1.toInt.toNat m b j ∧ ∃ p, p < N ∧ (0 < d (10 + p) ∧ ¬ cq C a1.toInt.toNat m b p)) → vp_in (iZ (j : Int)) 10 ∧ ∀ σ14 : Mm, σ14 = sI σ6 228 j (vp_nar .boolean x11) → ∀ x15 : Int32, x15 = iZ (j : Int) + 1 → rec (σ14, x15) := fun x11 h11 => ⟨v, fun σ14 h14 x15 h15 => hrec _ ⟨by
        show kp [228] τ σ14
        rw [h14]; exact kp_tr f1 (kp_I (by decide)), by rw [h15, iZ_s], fun o ho => by
        show gI σ14 228 o = _
        rw [h14, gI_sI, h11, nar_bz]
        by_cases z : o = j
        · rw [if_pos ⟨rfl, z⟩, if_pos (by omega), z]
        · rw [if_neg (fun y => z y.2), f3 o ho]
          by_cases z2 : o < j
          · rw [if_pos z2, if_pos (by omega)]
          · rw [if_neg z2, if_neg (by omega)]⟩⟩
      refine ⟨v, jn1 (jn0 ⟨fun z => fin _ ?_, fun z => ⟨fun z2 => fin _ ?_, fun z2 => fin _ ?_⟩⟩)⟩
      · rw [bz_0] at z; exact (bz_no (fun y => z ⟨y.1, y.2.1⟩)).symm
      · rw [bz_0] at z2; exact (bz_no (fun y => z2 y.2.2)).symm
      · have z := (bz_n _).mp z
        have z2 := (bz_n _).mp z2
        exact (bz_y ⟨z.1, z.2, z2⟩).symm
  · rw [leT, ti1, t_10] at q
    have hrec := hrec (by omega)
    have c1 := kp_core d1 k228 hc
    rw [ni, ten_o]
    have n10 : (iZ ((10 + i : Nat) : Int)).toNatClampNeg = 10 + i := nat_iZ (by omega)
    have v10 : vp_in (iZ ((10 + i : Nat) : Int)) 20 := vin (by rw [n_iZ (by omega)]; omega) (by rw [n_iZ (by omega)]; omega)
    have v := vin (a := iZ (i : Int)) (n := 10) (by omega) (by omega)
    have e1 : gJ σ1 224 (10 + i) = lZ (d (10 + i)) := by rw [(d1 224 (by decide)).2, hd _ (by omega)]
    have e2 : gJ σ1 229 i = lZ (b i) := by rw [(d1 229 (by decide)).2, hb _ (by omega)]
    have r1 := hdr (10 + i) (by omega)
    have r2 := hbr i (by omega)
    have l1 : lZ (d (10 + i)) ≤ 0 ↔ d (10 + i) ≤ 0 := lZ_le (b := 0) (by omega) (by omega) (by omega) (by omega)
    have l2 : 0 < lZ (b i) ↔ 0 < b i := lZ_lt (a := 0) (by omega) (by omega) (by omega) (by omega)
    rw [n10, e1, e2, l1, l2]
    have fin : ∀ x19 : Int32, x19 = bz (0 < d (10 + i) ∧ cq C a1.toInt.toNat m b i) → vp_in (iZ (i : Int)) 10 ∧ ∀ σ22 : Mm, σ22 = sI σ1 228 i (vp_nar .boolean x19) → (∃ J24 : Int32 → Prop, (∀ (x23 : Int32), J24 x23 → ∀ x25 : Int32, x25 = iZ (i : Int) + 1 → rec (σ22, x23, x25)) ∧ (∃ J26 : Prop, (J26 → J24 1) ∧ ((¬ bz (∃ p, p < i ∧ (0 < d (10 + p) ∧ ¬ cq C a1.toInt.toNat m b p)) = 0 → J26) ∧ (¬ (¬ bz (∃ p, p < i ∧ (0 < d (10 + p) ∧ ¬ cq C a1.toInt.toNat m b p)) = 0) → vp_in (iZ ((10 + i : Nat) : Int)) 20 ∧ (∃ J28 : Prop, (J28 → J24 0) ∧ (((gJ σ22 224 (10 + i)) ≤ 0 → J28) ∧ (¬ ((gJ σ22 224 (10 + i)) ≤ 0) → vp_in (iZ (i : Int)) 10 ∧ ((¬ (gI σ22 228 i) = 0 → J28) ∧ (¬ (¬ (gI σ22 228 i) = 0) → J26))))))))) := by
      intro x19 h19
      refine ⟨v, fun σ22 h22 => ?_⟩
      have g1 : gJ σ22 224 (10 + i) = lZ (d (10 + i)) := by rw [h22]; exact e1
      have g2 : gI σ22 228 i = bz (0 < d (10 + i) ∧ cq C a1.toInt.toNat m b i) := by rw [h22, gI_sI, if_pos ⟨rfl, rfl⟩, h19, nar_bz]
      have fin2 : ∀ x23 : Int32, x23 = bz (∃ p, p < i + 1 ∧ (0 < d (10 + p) ∧ ¬ cq C a1.toInt.toNat m b p)) → ∀ x25 : Int32, x25 = iZ (i : Int) + 1 → rec (σ22, x23, x25) := fun x23 h23 x25 h25 => hrec _ ⟨by
        show kp [228] τ σ22
        rw [h22]; exact kp_tr d1 (kp_I (by decide)), h23, by rw [h25, iZ_s], fun o ho => by
        show gI σ22 228 o = _
        by_cases z : o = i
        · rw [z, g2]
        · rw [h22, gI_sI, if_neg (fun y => z y.2)]; exact d4 o (by omega)⟩
      have ex : (∃ p, p < i + 1 ∧ (0 < d (10 + p) ∧ ¬ cq C a1.toInt.toNat m b p)) ↔ ((∃ p, p < i ∧ (0 < d (10 + p) ∧ ¬ cq C a1.toInt.toNat m b p)) ∨ (0 < d (10 + i) ∧ ¬ cq C a1.toInt.toNat m b i)) := by
        constructor
        · rintro ⟨p, hp, hp2⟩
          by_cases e : p = i
          · subst e; exact Or.inr hp2
          · exact Or.inl ⟨p, by omega, hp2⟩
        · rintro (⟨p, hp, hp2⟩ | hp)
          · exact ⟨p, by omega, hp2⟩
          · exact ⟨i, by omega, hp⟩
      rw [g1, g2, l1]
      refine jn1 (jn0 ⟨fun z => fin2 _ ?_, fun z => ⟨v10, jn0 ⟨fun z2 => fin2 _ ?_, fun z2 => ⟨v, fun z3 => fin2 _ ?_, fun z3 => fin2 _ ?_⟩⟩⟩⟩)
      · exact (bz_y (ex.mpr (Or.inl ((bz_n _).mp z)))).symm
      · rw [Decidable.not_not, bz_0] at z
        exact (bz_no (fun y => (ex.mp y).elim z (fun w => by have := w.1; omega))).symm
      · rw [Decidable.not_not, bz_0] at z
        have z3 := (bz_n _).mp z3
        exact (bz_no (fun y => (ex.mp y).elim z (fun w => w.2 z3.2))).symm
      · rw [Decidable.not_not, bz_0] at z3
        exact (bz_y (ex.mpr (Or.inr ⟨by omega, fun w => z3 ⟨by omega, w⟩⟩))).symm
    refine ⟨v10, jn2 (jn1 ⟨fun z => fin _ ?_, fun z => ⟨v, jn1 ⟨fun z2 => fin _ ?_, fun z2 => m_doesConsent c1 h1 (by omega) (by omega) (by omega) (by omega) (by omega) ⟨fun z3 => fin _ ?_, fun z3 => fin _ ?_⟩ hI.to⟩⟩⟩)⟩
    · exact (bz_no (fun y => by have := y.1; omega)).symm
    · exact (bz_y ⟨by omega, Or.inl z2⟩).symm
    · have z3 := (bz_n _).mp z3
      rw [h3, ti1, show ((m : Nat) : Int).toNat = m from by omega, show ((i : Nat) : Int).toNat = i from by omega] at z3
      exact (bz_no (fun y => y.2.elim z2 (fun w => w z3))).symm
    · rw [Decidable.not_not, bz_0] at z3
      rw [h3, ti1, show ((m : Nat) : Int).toNat = m from by omega, show ((i : Nat) : Int).toNat = i from by omega] at z3
      exact (bz_y ⟨by omega, Or.inr z3⟩).symm
