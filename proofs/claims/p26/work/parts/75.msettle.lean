/-! PURE: one month of a unit in the model -/
theorem kJ {ks : List Nat} {a b : Mm} {k i : Nat} {v : Int64} (h : kp ks a b) (hk : k ∉ ks) (f : gJ a k i = v) : gJ b k i = v := by rw [(h k hk).2]; exact f
theorem kI {ks : List Nat} {a b : Mm} {k i : Nat} {v : Int32} (h : kp ks a b) (hk : k ∉ ks) (f : gI a k i = v) : gI b k i = v := by rw [(h k hk).1]; exact f
theorem w1_rg {C : Cr} (hI : Inv C) {u : Nat} (hu : u < nU C) (m : Nat) : (∀ o, 0 ≤ w1 C u m o) ∧ 0 < sm (w1 C u m) 10 ∧ sm (w1 C u m) 10 ≤ 80000000000 :=
  ⟨fun o => dk_nn hI u m _, dk_work hI hu m, Int.le_trans (dk_all hI hu m).2 (dk_top hI u m)⟩
theorem w2_rg {C : Cr} (hI : Inv C) {u : Nat} (hu : u < nU C) (m : Nat) (b : Nat → Int) : (∀ o, 0 ≤ w2 C u m b o) ∧ 0 < sm (w2 C u m b) 10 ∧ sm (w2 C u m b) 10 ≤ 80000000000 := by
  have h1 := w1_rg hI hu m
  have n : ∀ o, 0 ≤ w2 C u m b o := fun o => by
    have := h1.1 o
    unfold w2
    unfold w1 at this
    split <;> omega
  have le : sm (w2 C u m b) 10 ≤ sm (w1 C u m) 10 := sm_le (fun o _ => by
    have := h1.1 o
    unfold w2
    unfold w1 at this ⊢
    split <;> omega)
  refine ⟨n, ?_, by omega⟩
  by_cases s : isS C u m b
  · obtain ⟨p, hp, hp1, hp2⟩ := id s
    refine sm_pos (fun k _ => n k) hp ?_
    unfold w2
    rw [if_neg (fun z => hp2 z.2.1)]
    exact hp1
  · have e : sm (w2 C u m b) 10 = sm (w1 C u m) 10 := sm_cong (fun o _ => by
      unfold w2 w1
      rw [if_neg (fun z => s z.2.2)])
    omega
theorem p1_rg {C : Cr} (hI : Inv C) {u : Nat} (hu : u < nU C) {m : Nat} (hm : m < 61) {o : Nat} (ho : o < 10) : 0 ≤ pt (co C u m) (w1 C u m) 10 o ∧ pt (co C u m) (w1 C u m) 10 o ≤ 60000000 := by
  have hw := w1_rg hI hu m
  have hc := co_rg hI u hm
  have hn : ∀ k, k < 10 → 0 ≤ pt (co C u m) (w1 C u m) 10 k := fun k hk => pt_nn hc.1 (fun i _ => hw.1 i) hw.2.1 hk
  have := sm_part hn ho
  rw [pt_all (by decide) hw.2.1] at this
  exact ⟨hn o ho, by omega⟩
theorem p3_rg {C : Cr} (hI : Inv C) {u : Nat} (hu : u < nU C) {m : Nat} (hm : m < 61) : (∀ j, j < 20 → 0 ≤ p3 C u m j ∧ p3 C u m j ≤ 60000000) ∧ sm (fun o => p3 C u m (10 + o)) 10 ≤ 60000000 := by
  have hs := (dk_all hI hu m).1
  have hr := rv_rg hI u hm
  have hn : ∀ k, k < 20 → 0 ≤ p3 C u m k := fun k hk => pt_nn hr.1 (fun i _ => dk_nn hI u m i) hs hk
  have ha : sm (p3 C u m) 20 = rv C u m := pt_all (by decide) hs
  refine ⟨fun j hj => ⟨hn j hj, ?_⟩, ?_⟩
  · have := sm_part hn hj
    omega
  · have e : sm (p3 C u m) 20 = sm (p3 C u m) 10 + sm (fun o => p3 C u m (10 + o)) 10 := sm_split 10 10
    have := sm_nn (f := p3 C u m) (n := 10) (fun k hk => hn k (by omega))
    omega
theorem b1_rg {C : Cr} (hI : Inv C) {u : Nat} (hu : u < nU C) {m : Nat} (hm : m < 61) {b : Nat → Int} {o : Nat} (ho : o < 10) (hb : 0 ≤ b o) : b o ≤ b1 C u m b o ∧ b1 C u m b o ≤ b o + 300000000 := by
  have h := p1_rg hI hu hm ho
  have hp := hI.pen
  have p := Int.mul_nonneg h.1 (show 0 ≤ C 200 27 by omega)
  have p2 := Int.mul_le_mul h.2 hp.2 (by omega) (show (0 : Int) ≤ 60000000 by omega)
  unfold b1
  split <;> omega
theorem of_rg {C : Cr} (hI : Inv C) {u : Nat} (hu : u < nU C) {m : Nat} (hm : m < 61) {b : Nat → Int} {o : Nat} (ho : o < 10) (hb : 0 ≤ b o) : 0 ≤ of C u m b o ∧ of C u m b o ≤ p3 C u m (10 + o) ∧ of C u m b o ≤ b1 C u m b o := by
  have h := (p3_rg hI hu hm).1 (10 + o) (by omega)
  have h2 := b1_rg hI hu hm ho hb
  unfold of
  split
  · split <;> omega
  · omega
theorem b2_rg {C : Cr} (hI : Inv C) {u : Nat} (hu : u < nU C) {m : Nat} (hm : m < 61) {b : Nat → Int} {o : Nat} (ho : o < 10) (hb : 0 ≤ b o) : 0 ≤ b2 C u m b o ∧ b2 C u m b o ≤ b o + 300000000 := by
  have h := of_rg hI hu hm ho hb
  have h2 := b1_rg hI hu hm ho hb
  unfold b2
  omega
theorem wh_rg {C : Cr} (hI : Inv C) {u : Nat} (hu : u < nU C) {m : Nat} (hm : m < 61) {b : Nat → Int} (hb : ∀ o, o < 10 → 0 ≤ b o) : 0 ≤ sm (of C u m b) 10 ∧ sm (of C u m b) 10 ≤ 60000000 := by
  have h := (p3_rg hI hu hm).2
  have l := sm_le (f := of C u m b) (g := fun o => p3 C u m (10 + o)) (n := 10) (fun o ho => (of_rg hI hu hm ho (hb o ho)).2.1)
  exact ⟨sm_nn (fun o ho => (of_rg hI hu hm ho (hb o ho)).1), by omega⟩
theorem mul_top {a s : Int} (h1 : 0 ≤ a) (h2 : a ≤ 60000000) (h3 : 0 < s) (h4 : s ≤ 80000000000) : a * s < 9223372036854775808 := by
  have := Int.mul_le_mul h2 h4 (Int.le_of_lt h3) (show (0 : Int) ≤ 60000000 by omega)
  omega
theorem m_settles {τ : Mm} {C : Cr} (hc : core τ = C) (hI : Inv C) {a1 a2 : Int32} {u m : Nat} {b : Nat → Int} (h1 : a1.toInt = u) (h2 : u < nU C) (h3 : a2.toInt = m) (h4 : (m : Int) ≤ C 200 0) (hb : ∀ o : Nat, o < 10 → gJ τ 229 o = lZ (b o)) (hbr : ∀ o : Nat, o < 10 → 0 ≤ b o ∧ b o ≤ 1000000000000000) {Q : Mm → Prop}
    (h : ∀ τ', kp [224, 225, 226, 227, 228, 229, 230] τ τ' → (∀ o : Nat, o < 10 → gJ τ' 229 o = lZ (b2 C u m b o)) → (∀ o : Nat, o < 10 → gJ τ' 230 o = lZ (ds C u m b o)) → Q τ') : wp_X7_settles τ a1 a2 Q := by
  have hu := hI.nu
  have hn := hI.now
  have hm61 : m < 61 := by omega
  have hnU : ((nU C : Nat) : Int) = C 200 18 := by unfold nU; omega
  have W1 := w1_rg hI h2 m
  have W2 := w2_rg hI h2 m b
  have CO := co_rg hI u hm61
  have RV := rv_rg hI u hm61
  have DK := dk_all hI h2 m
  have DT := dk_top hI u m
  have WH := wh_rg hI h2 hm61 (fun o ho => (hbr o ho).1)
  have em : a2.toInt.toNat = m := by omega
  have eu : a1.toInt.toNat = u := by omega
  refine m_decks hc hI (by omega) (by omega) (fun σ1 k1 D1 => ?_)
  rw [h1, em] at D1
  have c1 := kp_core k1 (by decide) hc
  refine m_carries (N := 10) (m := m) (b := b) (d := dk C u m) c1 hI rfl (by omega) (by omega) h3 (by omega) D1 (fun i _ => ⟨dk_nn hI u m i, ?_⟩) (fun o ho => kJ k1 (by decide) (hb o ho)) (fun o ho => by have := hbr o ho; omega) (fun σ2 k2 R2 => ?_)
  · rename_i hi
    have := sm_part (f := dk C u m) (n := 20) (fun k _ => dk_nn hI u m k) hi
    omega
  rw [eu] at R2
  have R2 : ∀ o : Nat, o < 10 → gI σ2 228 o = bz (ca C u m b o) := fun o ho => (R2 o ho).trans (bz_cong Iff.rfl)
  have c2 := kp_core k2 (by decide) c1
  have D2 : ∀ i : Nat, i < 20 → gJ σ2 224 i = lZ (dk C u m i) := fun i hi => kJ k2 (by decide) (D1 i hi)
  have B2 : ∀ o : Nat, o < 10 → gJ σ2 229 o = lZ (b o) := fun o ho => kJ k2 (by decide) (kJ k1 (by decide) (hb o ho))
  refine m_costOf c2 hI (by omega) (by omega) ?_
  rw [h1, em]
  have ex4 : (iZ (co C u m)).toInt64 = lZ (co C u m) := i2lT (toInt_iZ (by omega) (by omega))
  refine m_takes1 D2 (fun σ5 k5 W5 => ?_)
  rw [ex4]
  refine m_parted (n := 10) (w := w1 C u m) (by decide) (by decide) W5 (fun i _ => W1.1 i) W1.2.1 (by omega) CO.1 (by omega) (mul_top CO.1 CO.2 W1.2.1 W1.2.2) (fun σ6 k6 P6 => ?_)
  have k26 : kp [225, 226, 227] σ2 σ6 := kp_tr (kp_up k5 (by decide)) (kp_up k6 (by decide))
  -- the balances with their penalties
  refine lpw_inv (fun i (s : Mm × Int32) => kp [229] σ6 s.1 ∧ s.2 = iZ (i : Int) ∧ ∀ o : Nat, o < 10 → gJ s.1 229 o = lZ (if o < i then b1 C u m b o else b o)) 10 ⟨kp_rf, rfl, fun o ho => by rw [if_neg (by omega)]; exact kJ k26 (by decide) (B2 o ho)⟩ ?_
  intro i s rec hi hs0 hrec
  obtain ⟨σ7, x8⟩ := s
  obtain ⟨k7, e7, B7⟩ := hs0
  dsimp only at k7 e7 B7
  subst e7
  have ti1 : (iZ (i : Int)).toInt = i := n_iZ (by omega)
  have ni : (iZ (i : Int)).toNatClampNeg = i := nat_iZ (by omega)
  have k27 : kp [225, 226, 227, 229] σ2 σ7 := kp_tr (kp_up k26 (by decide)) (kp_up k7 (by decide))
  have c7 := kp_core k27 (by decide) c2
  have R7 : ∀ o : Nat, o < 10 → gI σ7 228 o = bz (ca C u m b o) := fun o ho => kI k27 (by decide) (R2 o ho)
  have D7 : ∀ i : Nat, i < 20 → gJ σ7 224 i = lZ (dk C u m i) := fun i hi => kJ k27 (by decide) (D2 i hi)
  refine ⟨fun q => ?_, fun q => ?_⟩
  rotate_left
  · rw [leT, ti1, t_10] at q
    have hrec := hrec (by omega)
    have hi10 : i < 10 := by omega
    have v := vin (a := iZ (i : Int)) (n := 10) (by omega) (by omega)
    have v20 := vin (a := iZ (i : Int)) (n := 20) (by omega) (by omega)
    rw [ni, R7 i hi10]
    have P7 : gJ σ7 226 i = lZ (pt (co C u m) (w1 C u m) 10 i) := kJ k7 (by decide) (P6 i hi10)
    have g27 : (gI σ7 200 27).toInt = C 200 27 := c0 c7 (by decide)
    have hp := hI.pen
    have pr := p1_rg hI h2 hm61 hi10
    have p0 := Int.mul_nonneg pr.1 (show 0 ≤ C 200 27 by omega)
    have p2 := Int.mul_le_mul pr.2 hp.2 (by omega) (show (0 : Int) ≤ 60000000 by omega)
    have fin : ∀ y66 : Int64, y66 = lZ (if ca C u m b i then pt (co C u m) (w1 C u m) 10 i * C 200 27 / 100 else 0) → vp_in (iZ (i : Int)) 10 ∧ ∀ σ69 : Mm, σ69 = sJ σ7 229 i ((gJ σ7 229 i) + y66) → ∀ x70 : Int32, x70 = iZ (i : Int) + 1 → rec (σ69, x70) := fun y66 h66 => ⟨v, fun σ69 h69 x70 h70 => hrec _ ⟨by
      show kp [229] σ6 σ69
      rw [h69]; exact kp_tr k7 (kp_J (by decide)), by rw [h70, iZ_s], fun o ho => by
      show gJ σ69 229 o = _
      have Bi : gJ σ7 229 i = lZ (b i) := by rw [B7 i hi10, if_neg (Nat.lt_irrefl i)]
      rw [h69, gJ_sJ, Bi, h66, lZ_add]
      by_cases z : o = i
      · subst z; rw [if_pos ⟨rfl, rfl⟩, if_pos (Nat.lt_succ_self o)]; rfl
      · rw [if_neg (fun y => z y.2), B7 o ho]
        by_cases z2 : o < i
        · rw [if_pos z2, if_pos (by omega)]
        · rw [if_neg z2, if_neg (by omega)]⟩⟩
    refine ⟨v, v, jn1 ⟨fun z => fin _ ?_, fun z => ⟨v20, fin _ ?_⟩⟩⟩
    · rw [bz_0] at z; rw [if_neg z]; rfl
    · rw [if_pos ((bz_n _).mp z), P7, i2lT g27, lZ_mul, show (100 : Int64) = lZ 100 from rfl, lZ_div p0 (by omega) (by omega) (by omega)]
  rw [leT, ti1, t_10] at q
  have e : i = 10 := by omega
  subst e
  clear hrec q
  have B7 : ∀ o : Nat, o < 10 → gJ σ7 229 o = lZ (b1 C u m b o) := fun o ho => by rw [B7 o ho, if_pos ho]
  refine m_takes0 (cr := ca C u m b) D7 R7 (fun σ11 k11 W11 => ?_)
  refine m_parted (n := 10) (w := w2 C u m b) (by decide) (by decide) W11 (fun i _ => W2.1 i) W2.2.1 (by omega) CO.1 (by omega) (mul_top CO.1 CO.2 W2.2.1 W2.2.2) (fun σ12 k12 P12 => ?_)
  have k712 : kp [225, 226, 227] σ7 σ12 := kp_tr (kp_up k11 (by decide)) (kp_up k12 (by decide))
  -- the dues, less the costs
  refine lpw_inv (fun i (s : Mm × Int32) => kp [230] σ12 s.1 ∧ s.2 = iZ (i : Int) ∧ ∀ o : Nat, o < i → gJ s.1 230 o = lZ (-pt (co C u m) (w2 C u m b) 10 o)) 10 ⟨kp_rf, rfl, fun o ho => by omega⟩ ?_
  intro i s rec hi hs0 hrec
  obtain ⟨σ13, x14⟩ := s
  obtain ⟨k13, e13, U13⟩ := hs0
  dsimp only at k13 e13 U13
  subst e13
  have ti1 : (iZ (i : Int)).toInt = i := n_iZ (by omega)
  have ni : (iZ (i : Int)).toNatClampNeg = i := nat_iZ (by omega)
  refine ⟨fun q => ?_, fun q => ?_⟩
  rotate_left
  · rw [leT, ti1, t_10] at q
    have hrec := hrec (by omega)
    have hi10 : i < 10 := by omega
    have P13 : gJ σ13 226 i = lZ (pt (co C u m) (w2 C u m b) 10 i) := kJ k13 (by decide) (P12 i hi10)
    rw [ni, P13, lZ_neg]
    refine ⟨vin (by omega) (by omega), vin (by omega) (by omega), fun σ62 h62 x63 h63 => hrec _ ⟨?_, by rw [h63, iZ_s], fun o ho => ?_⟩⟩
    · show kp [230] σ12 σ62
      rw [h62]; exact kp_tr k13 (kp_J (by decide))
    · show gJ σ62 230 o = _
      rw [h62, gJ_sJ]
      by_cases z : o = i
      · rw [if_pos ⟨rfl, z⟩, z]
      · rw [if_neg (fun y => z y.2)]; exact U13 o (by omega)
  rw [leT, ti1, t_10] at q
  have e : i = 10 := by omega
  subst e
  clear hrec q
  have k713 : kp [225, 226, 227, 230] σ7 σ13 := kp_tr (kp_up k712 (by decide)) (kp_up k13 (by decide))
  have D13 : ∀ i : Nat, i < 20 → gJ σ13 224 i = lZ (dk C u m i) := fun i hi => kJ k713 (by decide) (D7 i hi)
  have B13 : ∀ o : Nat, o < 10 → gJ σ13 229 o = lZ (b1 C u m b o) := fun o ho => kJ k713 (by decide) (B7 o ho)
  have R13 : ∀ o : Nat, o < 10 → gI σ13 228 o = bz (ca C u m b o) := fun o ho => kI k713 (by decide) (R7 o ho)
  have c13 := kp_core k713 (by decide) c7
  -- the whole deck as weights
  refine lpw_inv (fun i (s : Mm × Int32) => kp [225] σ13 s.1 ∧ s.2 = iZ (i : Int) ∧ ∀ o : Nat, o < i → gJ s.1 225 o = lZ (dk C u m o)) 20 ⟨kp_rf, rfl, fun o ho => by omega⟩ ?_
  intro i s rec hi hs0 hrec
  obtain ⟨σ17, x18⟩ := s
  obtain ⟨k17, e17, W17⟩ := hs0
  dsimp only at k17 e17 W17
  subst e17
  have ti1 : (iZ (i : Int)).toInt = i := n_iZ (by omega)
  have ni : (iZ (i : Int)).toNatClampNeg = i := nat_iZ (by omega)
  refine ⟨fun q => ?_, fun q => ?_⟩
  rotate_left
  · rw [leT, ti1, t_20] at q
    have hrec := hrec (by omega)
    have P17 : gJ σ17 224 i = lZ (dk C u m i) := kJ k17 (by decide) (D13 i (by omega))
    rw [ni, P17]
    refine ⟨vin (by omega) (by omega), vin (by omega) (by omega), fun σ62 h62 x63 h63 => hrec _ ⟨?_, by rw [h63, iZ_s], fun o ho => ?_⟩⟩
    · show kp [225] σ13 σ62
      rw [h62]; exact kp_tr k17 (kp_J (by decide))
    · show gJ σ62 225 o = _
      rw [h62, gJ_sJ]
      by_cases z : o = i
      · rw [if_pos ⟨rfl, z⟩, z]
      · rw [if_neg (fun y => z y.2)]; exact W17 o (by omega)
  rw [leT, ti1, t_20] at q
  have e : i = 20 := by omega
  subst e
  clear hrec q
  have c17 := kp_core k17 (by decide) c13
  refine m_revenueOf c17 hI (by omega) (by omega) ?_
  rw [h1, em]
  have ex22 : (iZ (rv C u m)).toInt64 = lZ (rv C u m) := i2lT (toInt_iZ (by omega) (by omega))
  rw [ex22]
  refine m_parted (n := 20) (w := dk C u m) (by decide) (by decide) W17 (fun i _ => dk_nn hI u m i) DK.1 (by omega) RV.1 (by omega) (mul_top RV.1 RV.2 DK.1 DT) (fun σ23 k23 P23 => ?_)
  have k1323 : kp [225, 226, 227] σ13 σ23 := kp_tr (kp_up k17 (by decide)) (kp_up k23 (by decide))
  have D23 : ∀ i : Nat, i < 20 → gJ σ23 224 i = lZ (dk C u m i) := fun i hi => kJ k1323 (by decide) (D13 i hi)
  have R23 : ∀ o : Nat, o < 10 → gI σ23 228 o = bz (ca C u m b o) := fun o ho => kI k1323 (by decide) (R13 o ho)
  have P23 : ∀ i : Nat, i < 20 → gJ σ23 226 i = lZ (p3 C u m i) := P23
  -- what is withheld
  refine lpw_inv (fun i (s : Mm × Int64 × Int32) => kp [229, 230] σ23 s.1 ∧ s.2.1 = lZ (sm (of C u m b) i) ∧ s.2.2 = iZ (i : Int) ∧ (∀ o : Nat, o < 10 → gJ s.1 229 o = lZ (if o < i then b2 C u m b o else b1 C u m b o)) ∧ ∀ o : Nat, o < 10 → gJ s.1 230 o = lZ (if o < i then -pt (co C u m) (w2 C u m b) 10 o + (p3 C u m o + p3 C u m (10 + o) - of C u m b o) else -pt (co C u m) (w2 C u m b) 10 o)) 10 ⟨kp_rf, rfl, rfl, fun o ho => by rw [if_neg (by omega)]; exact kJ k1323 (by decide) (B13 o ho), fun o ho => by rw [if_neg (by omega)]; exact kJ k1323 (by decide) (U13 o ho)⟩ ?_
  intro i s rec hi hs0 hrec
  obtain ⟨σ24, y25, x26⟩ := s
  obtain ⟨k24, e25, e26, B24, U24⟩ := hs0
  dsimp only at k24 e25 e26 B24 U24
  subst e25 e26
  have ti1 : (iZ (i : Int)).toInt = i := n_iZ (by omega)
  have ni : (iZ (i : Int)).toNatClampNeg = i := nat_iZ (by omega)
  have D24 : ∀ i : Nat, i < 20 → gJ σ24 224 i = lZ (dk C u m i) := fun i hi => kJ k24 (by decide) (D23 i hi)
  have R24 : ∀ o : Nat, o < 10 → gI σ24 228 o = bz (ca C u m b o) := fun o ho => kI k24 (by decide) (R23 o ho)
  refine ⟨fun q => ?_, fun q => ?_⟩
  rotate_left
  · rw [leT, ti1, t_10] at q
    have hrec := hrec (by omega)
    have hi10 : i < 10 := by omega
    have v := vin (a := iZ (i : Int)) (n := 10) (by omega) (by omega)
    have v20 := vin (a := iZ (i : Int)) (n := 20) (by omega) (by omega)
    rw [ni, ten_o]
    have n10 : (iZ ((10 + i : Nat) : Int)).toNatClampNeg = 10 + i := nat_iZ (by omega)
    have v10 : vp_in (iZ ((10 + i : Nat) : Int)) 20 := vin (by rw [n_iZ (by omega)]; omega) (by rw [n_iZ (by omega)]; omega)
    have P24 : ∀ j : Nat, j < 20 → gJ σ24 226 j = lZ (p3 C u m j) := fun j hj => kJ k24 (by decide) (P23 j hj)
    have Bi := B24 i hi10
    rw [if_neg (by omega)] at Bi
    have Ui := U24 i hi10
    rw [if_neg (by omega)] at Ui
    have r3 := (p3_rg hI h2 hm61).1 (10 + i) (by omega)
    have rb := b1_rg hI h2 hm61 hi10 (hbr i hi10).1
    have rb0 := hbr i hi10
    rw [n10, R24 i hi10, Bi, P24 (10 + i) (by omega)]
    refine ⟨v10, fun y41 h41 => ⟨v, ?_⟩⟩
    subst h41
    have le : lZ (b1 C u m b i) ≤ lZ (p3 C u m (10 + i)) ↔ b1 C u m b i ≤ p3 C u m (10 + i) := lZ_le (by omega) (by omega) (by omega) (by omega)
    rw [le]
    have fin : ∀ y43 : Int64, y43 = lZ (of C u m b i) → vp_in (iZ (i : Int)) 10 ∧ vp_in (iZ (i : Int)) 10 ∧ ∀ σ47 : Mm, σ47 = sJ σ24 229 i (lZ (b1 C u m b i) - y43) → ∀ y48 : Int64, y48 = lZ (sm (of C u m b) i) + y43 → vp_in (iZ (i : Int)) 10 ∧ vp_in (iZ (i : Int)) 20 ∧ vp_in (iZ (i : Int)) 10 ∧ ∀ σ52 : Mm, σ52 = sJ σ47 230 i ((gJ σ47 230 i) + (((gJ σ47 226 i) + lZ (p3 C u m (10 + i))) - y43)) → ∀ x53 : Int32, x53 = iZ (i : Int) + 1 → rec (σ52, y48, x53) := by
      intro y43 h43
      subst h43
      refine ⟨v, v, fun σ47 h47 y48 h48 => ⟨v, v20, v, fun σ52 h52 x53 h53 => hrec _ ?_⟩⟩
      have P47 : gJ σ47 226 i = lZ (p3 C u m i) := by rw [h47, gJ_sJ, if_neg (by omega)]; exact P24 i (by omega)
      have U47 : gJ σ47 230 i = lZ (-pt (co C u m) (w2 C u m b) 10 i) := by rw [h47, gJ_sJ, if_neg (by omega)]; exact Ui
      rw [P47, U47, lZ_add, lZ_sub, lZ_add] at h52
      rw [lZ_sub] at h47
      refine ⟨?_, ?_, by rw [h53, iZ_s], fun o ho => ?_, fun o ho => ?_⟩
      · show kp [229, 230] σ23 σ52
        rw [h52, h47]; exact kp_tr (kp_tr k24 (kp_J (by decide))) (kp_J (by decide))
      · show y48 = _
        rw [h48, lZ_add, sm_s]
      · show gJ σ52 229 o = _
        rw [h52, gJ_sJ, if_neg (by omega), h47, gJ_sJ]
        by_cases z : o = i
        · rw [if_pos ⟨rfl, z⟩, if_pos (by omega), z]; rfl
        · rw [if_neg (fun y => z y.2), B24 o ho]
          by_cases z2 : o < i
          · rw [if_pos z2, if_pos (by omega)]
          · rw [if_neg z2, if_neg (by omega)]
      · show gJ σ52 230 o = _
        rw [h52, gJ_sJ]
        by_cases z : o = i
        · rw [if_pos ⟨rfl, z⟩, if_pos (by omega), z]
        · rw [if_neg (fun y => z y.2), h47, gJ_sJ, if_neg (by omega), U24 o ho]
          by_cases z2 : o < i
          · rw [if_pos z2, if_pos (by omega)]
          · rw [if_neg z2, if_neg (by omega)]
    refine jn1 ⟨fun z => ⟨v, fun z2 => ⟨v, fin _ ?_⟩, fun z2 => fin _ ?_⟩, fun z => fin _ ?_⟩
    · have z := (bz_n _).mp z
      unfold of
      rw [if_pos z, if_neg (by omega)]
    · have z := (bz_n _).mp z
      unfold of
      rw [if_pos z, if_pos (by omega)]
    · rw [Decidable.not_not, bz_0] at z
      unfold of
      rw [if_neg z]; rfl
  rw [leT, ti1, t_10] at q
  have e : i = 10 := by omega
  subst e
  clear hrec q
  refine m_takes0 (cr := ca C u m b) D24 R24 (fun σ29 k29 W29 => ?_)
  refine m_parted (n := 10) (w := w2 C u m b) (by decide) (by decide) W29 (fun i _ => W2.1 i) W2.2.1 (by omega) WH.1 (by omega) (mul_top WH.1 WH.2 W2.2.1 W2.2.2) (fun σ30 k30 P30 => ?_)
  have k2430 : kp [225, 226, 227] σ24 σ30 := kp_tr (kp_up k29 (by decide)) (kp_up k30 (by decide))
  have B30 : ∀ o : Nat, o < 10 → gJ σ30 229 o = lZ (b2 C u m b o) := fun o ho => kJ k2430 (by decide) (by rw [B24 o ho, if_pos ho])
  have U30 : ∀ o : Nat, o < 10 → gJ σ30 230 o = lZ (-pt (co C u m) (w2 C u m b) 10 o + (p3 C u m o + p3 C u m (10 + o) - of C u m b o)) := fun o ho => kJ k2430 (by decide) (by rw [U24 o ho, if_pos ho])
  have all : kp [224, 225, 226, 227, 228, 229, 230] τ σ30 := kp_tr (kp_up k1 (by decide)) (kp_tr (kp_up k2 (by decide)) (kp_tr (kp_up k27 (by decide)) (kp_tr (kp_up k713 (by decide)) (kp_tr (kp_up k1323 (by decide)) (kp_tr (kp_up k24 (by decide)) (kp_up k2430 (by decide)))))))
  -- what was withheld goes to the others
  refine lpw_inv (fun i (s : Mm × Int32) => kp [230] σ30 s.1 ∧ s.2 = iZ (i : Int) ∧ ∀ o : Nat, o < 10 → gJ s.1 230 o = lZ (if o < i then ds C u m b o else -pt (co C u m) (w2 C u m b) 10 o + (p3 C u m o + p3 C u m (10 + o) - of C u m b o))) 10 ⟨kp_rf, rfl, fun o ho => by rw [if_neg (by omega)]; exact U30 o ho⟩ ?_
  intro i s rec hi hs0 hrec
  obtain ⟨σ31, x32⟩ := s
  obtain ⟨k31, e31, U31⟩ := hs0
  dsimp only at k31 e31 U31
  subst e31
  have ti1 : (iZ (i : Int)).toInt = i := n_iZ (by omega)
  have ni : (iZ (i : Int)).toNatClampNeg = i := nat_iZ (by omega)
  refine ⟨fun q => ?_, fun q => ?_⟩
  · rw [leT, ti1, t_10] at q
    have e : i = 10 := by omega
    subst e
    exact h σ31 (kp_tr all (kp_up k31 (by decide))) (fun o ho => kJ k31 (by decide) (B30 o ho)) (fun o ho => by rw [U31 o ho, if_pos ho])
  · rw [leT, ti1, t_10] at q
    have hrec := hrec (by omega)
    have hi10 : i < 10 := by omega
    have P31 : gJ σ31 226 i = lZ (pt (sm (of C u m b) 10) (w2 C u m b) 10 i) := kJ k31 (by decide) (P30 i hi10)
    have Ui := U31 i hi10
    rw [if_neg (by omega)] at Ui
    rw [ni, P31, Ui, lZ_add]
    have v := vin (a := iZ (i : Int)) (n := 10) (by omega) (by omega)
    refine ⟨v, vin (by omega) (by omega), v, fun σ38 h38 x39 h39 => hrec _ ⟨?_, by rw [h39, iZ_s], fun o ho => ?_⟩⟩
    · show kp [230] σ30 σ38
      rw [h38]; exact kp_tr k31 (kp_J (by decide))
    · show gJ σ38 230 o = _
      rw [h38, gJ_sJ]
      by_cases z : o = i
      · rw [if_pos ⟨rfl, z⟩, if_pos (by omega), z]; rfl
      · rw [if_neg (fun y => z y.2), U31 o ho]
        by_cases z2 : o < i
        · rw [if_pos z2, if_pos (by omega)]
        · rw [if_neg z2, if_neg (by omega)]
