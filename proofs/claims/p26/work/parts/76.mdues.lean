/-! PURE: the model's questions of money -/
theorem bl_rg {C : Cr} (hI : Inv C) {u : Nat} (hu : u < nU C) : ∀ j, um C u + j ≤ 61 → ∀ o, o < 10 → 0 ≤ bl C u j o ∧ bl C u j o ≤ 300000000 * j
  | 0, _, o, _ => by unfold bl; omega
  | j + 1, h, o, ho => by
    have ih := bl_rg hI hu j (by omega) o ho
    have b := b2_rg hI hu (m := um C u + j) (by omega) (b := bl C u j) ho ih.1
    unfold bl
    omega
theorem um_eq {C : Cr} (hI : Inv C) {u : Nat} (hu : u < nU C) : ((um C u : Nat) : Int) = C 215 u := by
  have := (hI.un u hu).1
  unfold um; omega
theorem m_settlesTo {τ : Mm} {C : Cr} (hc : core τ = C) (hI : Inv C) {a1 a2 : Int32} {u m : Nat} (h1 : a1.toInt = u) (h2 : u < nU C) (h3 : a2.toInt = m) (h4 : (m : Int) ≤ C 200 0) (h5 : um C u ≤ m) {Q : Mm → Prop}
    (h : ∀ τ', kp [224, 225, 226, 227, 228, 229, 230] τ τ' → (∀ o : Nat, o < 10 → gJ τ' 229 o = lZ (bl C u (m - um C u + 1) o)) → (∀ o : Nat, o < 10 → gJ τ' 230 o = lZ (du C u m o)) → Q τ') : wp_X7_settlesTo τ a1 a2 Q := by
  have hu := hI.nu
  have hn := hI.now
  have hnU : ((nU C : Nat) : Int) = C 200 18 := by unfold nU; omega
  have hum := um_eq hI h2
  refine lpw_inv (fun i (s : Mm × Int32) => kp [229] τ s.1 ∧ s.2 = iZ (i : Int) ∧ ∀ o : Nat, o < i → gJ s.1 229 o = lZ 0) 10 ⟨kp_rf, rfl, fun o ho => by omega⟩ ?_
  intro i s rec hi hs0 hrec
  obtain ⟨σ1, x2⟩ := s
  obtain ⟨k1, e1, B1⟩ := hs0
  dsimp only at k1 e1 B1
  subst e1
  have ti1 : (iZ (i : Int)).toInt = i := n_iZ (by omega)
  have ni : (iZ (i : Int)).toNatClampNeg = i := nat_iZ (by omega)
  refine ⟨fun q => ?_, fun q => ?_⟩
  rotate_left
  · rw [leT, ti1, t_10] at q
    have hrec := hrec (by omega)
    rw [ni]
    refine ⟨vin (by omega) (by omega), fun σ14 h14 x15 h15 => hrec _ ⟨?_, by rw [h15, iZ_s], fun o ho => ?_⟩⟩
    · show kp [229] τ σ14
      rw [h14]; exact kp_tr k1 (kp_J (by decide))
    · show gJ σ14 229 o = _
      rw [h14, gJ_sJ]
      by_cases z : o = i
      · rw [if_pos ⟨rfl, z⟩]; rfl
      · rw [if_neg (fun y => z y.2)]; exact B1 o (by omega)
  rw [leT, ti1, t_10] at q
  have e : i = 10 := by omega
  subst e
  clear hrec q
  have c1 := kp_core k1 (by decide) hc
  refine ⟨vin (by omega) (by omega), fun x6 e6 => ?_⟩
  have g215 : (gI σ1 215 u).toInt = C 215 u := cK c1 (by decide)
  have e6 : x6 = iZ ((um C u + 0 : Nat) : Int) := by
    rw [e6, cl_T, h1, Int.toNat_natCast, ← iZ_toInt (gI σ1 215 u), g215, ← hum]; rfl
  subst e6
  refine lpw_inv (fun j (s : Mm × Int32) => kp [224, 225, 226, 227, 228, 229, 230] τ s.1 ∧ s.2 = iZ ((um C u + j : Nat) : Int) ∧ (∀ o : Nat, o < 10 → gJ s.1 229 o = lZ (bl C u j o)) ∧ (1 ≤ j → ∀ o : Nat, o < 10 → gJ s.1 230 o = lZ (du C u (um C u + (j - 1)) o))) (m - um C u + 1) ⟨kp_up k1 (by decide), rfl, B1, fun z => by omega⟩ ?_
  intro j s rec hj hs0 hrec
  obtain ⟨σ7, x8⟩ := s
  obtain ⟨k7, e7, B7, U7⟩ := hs0
  dsimp only at k7 e7 B7 U7
  subst e7
  have tj : (iZ ((um C u + j : Nat) : Int)).toInt = (um C u + j : Nat) := n_iZ (by omega)
  have c7 := kp_core k7 (by decide) hc
  refine ⟨fun q => ?_, fun q => ?_⟩
  · rw [ltT, tj, h3] at q
    have e : j = m - um C u + 1 := by omega
    subst e
    refine h σ7 k7 B7 ?_
    have := U7 (by omega)
    rw [show um C u + (m - um C u + 1 - 1) = m from by omega] at this
    exact this
  · rw [ltT, tj, h3] at q
    have hrec := hrec (by omega)
    refine m_settles (u := u) (m := um C u + j) (b := bl C u j) c7 hI h1 h2 tj (by omega) B7 (fun o ho => by have := bl_rg hI h2 j (by omega) o ho; omega) (fun σ11 k11 B11 U11 x12 h12 => hrec _ ⟨kp_tr k7 k11, ?_, B11, fun _ => ?_⟩)
    · show x12 = _
      rw [h12, iZ_s]; rfl
    · show ∀ o : Nat, o < 10 → gJ σ11 230 o = lZ (du C u (um C u + (j + 1 - 1)) o)
      intro o ho
      rw [U11 o ho]
      unfold du
      rw [show j + 1 - 1 = j from by omega, show um C u + j - um C u = j from by omega]
abbrev dUMO (C : Cr) (a1 a2 a3 : Int) : Prop := isUM C a1 a2 ∧ dOw a3
theorem um_le {C : Cr} (hI : Inv C) {a1 a2 : Int} (h : isUM C a1 a2) : a1.toNat < nU C ∧ um C a1.toNat ≤ a2.toNat ∧ 0 ≤ a2 ∧ (a2.toNat : Int) ≤ C 200 0 := by
  have hu := hI.nu
  have l : a1.toNat < nU C := by unfold nU; omega
  have := um_eq hI l
  omega
theorem M_due {τ : Mm} {C : Cr} (hc : core τ = C) (hI : Inv C) {a1 a2 a3 : Int32} {Q : Int32 → Mm → Prop}
    (hn : ¬ dUMO C a1.toInt a2.toInt a3.toInt → ∀ τ', core τ' = C → gI τ' 200 39 = 1 → Q 0 τ')
    (hy : dUMO C a1.toInt a2.toInt a3.toInt → ∀ τ', core τ' = C → gI τ' 200 39 = 0 → Q (iZ (du C a1.toInt.toNat a2.toInt.toNat a3.toInt.toNat)) τ') : wp_X7_due τ a1 a2 a3 Q := by
  refine m_unitMonth hc hI (jch (σ := τ) (d := dUMO C a1.toInt a2.toInt a3.toInt) ?_ ⟨fun q => ?_, fun q => m_owner ⟨fun q2 => ?_, fun q2 => ?_⟩⟩)
  · refine m_goesD (d1 := dUMO C a1.toInt a2.toInt a3.toInt) (d2 := True) (d3 := True) rfl bz1 bz1 (fun _ => Iff.rfl) (fun _ _ => Iff.rfl) (fun q σ' k1 k2 => ?_) (fun q1 _ _ σ' k1 k2 => ?_)
    · have q : ¬ dUMO C a1.toInt a2.toInt a3.toInt := fun z => q ⟨z, trivial, trivial⟩
      exact br_n (fun z => z rfl) (hn q σ' (k1.trans hc) (k2.trans (if_neg q)))
    · have k1 := k1.trans hc
      obtain ⟨l1, l2, l3, l4⟩ := um_le hI q1.1
      refine br_y (by decide) (m_settlesTo (u := a1.toInt.toNat) (m := a2.toInt.toNat) k1 hI (by have := q1.1.1.1; omega) l1 (by omega) l4 l2 (fun s ks B U => ⟨vin q1.2.1 (by omega), ?_⟩))
      rw [cl_T, U _ (by omega), lZ_i]
      exact hy q1 s (kp_core ks (by decide) k1) ((kp_t ks (by decide)).trans k2)
  · rw [bz_0] at q; exact ⟨rfl, fun z => q z.1⟩
  · rw [bz_0] at q2; exact ⟨rfl, fun z => q2 z.2⟩
  · exact ⟨rfl, (bz_y ⟨(bz_n _).mp q, (bz_n _).mp q2⟩).symm⟩
theorem M_balance {τ : Mm} {C : Cr} (hc : core τ = C) (hI : Inv C) {a1 a2 a3 : Int32} {Q : Int64 → Mm → Prop}
    (hn : ¬ dUMO C a1.toInt a2.toInt a3.toInt → ∀ τ', core τ' = C → gI τ' 200 39 = 1 → Q 0 τ')
    (hy : dUMO C a1.toInt a2.toInt a3.toInt → ∀ τ', core τ' = C → gI τ' 200 39 = 0 → Q (lZ (bl C a1.toInt.toNat (a2.toInt.toNat - um C a1.toInt.toNat + 1) a3.toInt.toNat)) τ') : wp_X7_balance τ a1 a2 a3 Q := by
  refine m_unitMonth hc hI (jch (σ := τ) (d := dUMO C a1.toInt a2.toInt a3.toInt) ?_ ⟨fun q => ?_, fun q => m_owner ⟨fun q2 => ?_, fun q2 => ?_⟩⟩)
  · refine m_goesD (d1 := dUMO C a1.toInt a2.toInt a3.toInt) (d2 := True) (d3 := True) rfl bz1 bz1 (fun _ => Iff.rfl) (fun _ _ => Iff.rfl) (fun q σ' k1 k2 => ?_) (fun q1 _ _ σ' k1 k2 => ?_)
    · have q : ¬ dUMO C a1.toInt a2.toInt a3.toInt := fun z => q ⟨z, trivial, trivial⟩
      exact br_n (fun z => z rfl) (hn q σ' (k1.trans hc) (k2.trans (if_neg q)))
    · have k1 := k1.trans hc
      obtain ⟨l1, l2, l3, l4⟩ := um_le hI q1.1
      refine br_y (by decide) (m_settlesTo (u := a1.toInt.toNat) (m := a2.toInt.toNat) k1 hI (by have := q1.1.1.1; omega) l1 (by omega) l4 l2 (fun s ks B U => ⟨vin q1.2.1 (by omega), ?_⟩))
      rw [cl_T, B _ (by omega)]
      exact hy q1 s (kp_core ks (by decide) k1) ((kp_t ks (by decide)).trans k2)
  · rw [bz_0] at q; exact ⟨rfl, fun z => q z.1⟩
  · rw [bz_0] at q2; exact ⟨rfl, fun z => q2 z.2⟩
  · exact ⟨rfl, (bz_y ⟨(bz_n _).mp q, (bz_n _).mp q2⟩).symm⟩
theorem M_revenue {τ : Mm} {C : Cr} (hc : core τ = C) (hI : Inv C) {a1 a2 : Int32} {Q : Int32 → Mm → Prop}
    (hn : ¬ isUM C a1.toInt a2.toInt → ∀ τ', core τ' = C → gI τ' 200 39 = 1 → Q 0 τ')
    (hy : isUM C a1.toInt a2.toInt → ∀ τ', core τ' = C → gI τ' 200 39 = 0 → Q (iZ (rv C a1.toInt a2.toInt.toNat)) τ') : wp_X7_revenue τ a1 a2 Q := by
  refine m_unitMonth hc hI (m_goesD (d1 := isUM C a1.toInt a2.toInt) (d2 := True) (d3 := True) rfl bz1 bz1 (fun _ => Iff.rfl) (fun _ _ => Iff.rfl) (fun q σ' k1 k2 => ?_) (fun q1 _ _ σ' k1 k2 => ?_))
  · have q : ¬ isUM C a1.toInt a2.toInt := fun z => q ⟨z, trivial, trivial⟩
    exact br_n (fun z => z rfl) (hn q σ' (k1.trans hc) (k2.trans (if_neg q)))
  · have k1 := k1.trans hc
    obtain ⟨l1, l2, l3, l4⟩ := um_le hI q1
    exact br_y (by decide) (m_revenueOf k1 hI l3 (by omega) (hy q1 σ' k1 k2))
theorem M_agrees {τ : Mm} {C : Cr} (hc : core τ = C) (hI : Inv C) {a1 a2 : Int32} {Q : Int32 → Mm → Prop}
    (hn : ¬ isUM C a1.toInt a2.toInt → ∀ τ', core τ' = C → gI τ' 200 39 = 1 → Q 0 τ')
    (hy : isUM C a1.toInt a2.toInt → ∀ τ', core τ' = C → gI τ' 200 39 = 0 → Q (bz (lZ (sm (du C a1.toInt.toNat a2.toInt.toNat) 10) = lZ (rv C a1.toInt a2.toInt.toNat - co C a1.toInt a2.toInt.toNat))) τ') : wp_X7_agrees τ a1 a2 Q := by
  refine m_unitMonth hc hI (m_goesD (d1 := isUM C a1.toInt a2.toInt) (d2 := True) (d3 := True) rfl bz1 bz1 (fun _ => Iff.rfl) (fun _ _ => Iff.rfl) (fun q σ' k1 k2 => ?_) (fun q1 _ _ σ' k1 k2 => ?_))
  · have q : ¬ isUM C a1.toInt a2.toInt := fun z => q ⟨z, trivial, trivial⟩
    exact br_n (fun z => z rfl) (hn q σ' (k1.trans hc) (k2.trans (if_neg q)))
  · have k1 := k1.trans hc
    obtain ⟨l1, l2, l3, l4⟩ := um_le hI q1
    have hnow := hI.now
    refine br_y (by decide) (m_settlesTo (u := a1.toInt.toNat) (m := a2.toInt.toNat) k1 hI (by have := q1.1.1; omega) l1 (by omega) l4 l2 (fun s ks B U => ?_))
    have cs := kp_core ks (by decide) k1
    refine lpw_f (fun i => (lZ (sm (du C a1.toInt.toNat a2.toInt.toNat) i), iZ (i : Int))) 10 rfl ?_
    intro i rec hi hrec
    have ti1 : (iZ (i : Int)).toInt = i := n_iZ (by omega)
    have ni : (iZ (i : Int)).toNatClampNeg = i := nat_iZ (by omega)
    refine ⟨fun q => ?_, fun q => ?_⟩
    · rw [leT, ti1, t_10] at q
      have e : i = 10 := by omega
      subst e
      refine m_revenueOf cs hI l3 (by omega) (m_costOf cs hI l3 (by omega) (jbn ?_))
      have r1 := rv_rg hI a1.toInt (m := a2.toInt.toNat) (by omega)
      have r2 := co_rg hI a1.toInt (m := a2.toInt.toNat) (by omega)
      have ex : (iZ (rv C a1.toInt a2.toInt.toNat) - iZ (co C a1.toInt a2.toInt.toNat)).toInt64 = lZ (rv C a1.toInt a2.toInt.toNat - co C a1.toInt a2.toInt.toNat) := by
        rw [iZ_sub]; exact i2lT (toInt_iZ (by omega) (by omega))
      rw [ex]
      exact ⟨zb_if _, hy q1 s cs ((kp_t ks (by decide)).trans k2)⟩
    · rw [leT, ti1, t_10] at q
      have hrec := hrec (by omega)
      rw [ni, U i (by omega)]
      exact ⟨vin (by omega) (by omega), fun y17 h17 x18 h18 => hrec _ (by rw [h17, h18, iZ_s, lZ_add, sm_s])⟩
def dkp (C : Cr) (u : Nat) (m : Nat) : Nat → Int := pt 100000000 (dk C u m) 20
theorem M_interest {τ : Mm} {C : Cr} (hc : core τ = C) (hI : Inv C) {a1 a2 a3 a4 : Int32} {Q : Int32 → Mm → Prop}
    (hn : ¬ dUMO C a1.toInt a2.toInt a3.toInt → ∀ τ', core τ' = C → gI τ' 200 39 = 1 → Q 0 τ')
    (hy : dUMO C a1.toInt a2.toInt a3.toInt → ∀ τ', core τ' = C → gI τ' 200 39 = 0 → Q (iZ (dkp C a1.toInt.toNat a2.toInt.toNat (if a4 = 0 then 10 + a3.toInt.toNat else a3.toInt.toNat))) τ') : wp_X7_interest τ a1 a2 a3 a4 Q := by
  refine m_unitMonth hc hI (jch (σ := τ) (d := dUMO C a1.toInt a2.toInt a3.toInt) ?_ ⟨fun q => ?_, fun q => m_owner ⟨fun q2 => ?_, fun q2 => ?_⟩⟩)
  · refine m_goesD (d1 := dUMO C a1.toInt a2.toInt a3.toInt) (d2 := True) (d3 := True) rfl bz1 bz1 (fun _ => Iff.rfl) (fun _ _ => Iff.rfl) (fun q σ' k1 k2 => ?_) (fun q1 _ _ σ' k1 k2 => ?_)
    · have q : ¬ dUMO C a1.toInt a2.toInt a3.toInt := fun z => q ⟨z, trivial, trivial⟩
      exact br_n (fun z => z rfl) (hn q σ' (k1.trans hc) (k2.trans (if_neg q)))
    · have k1 := k1.trans hc
      obtain ⟨l1, l2, l3, l4⟩ := um_le hI q1.1
      have DK := dk_all hI l1 a2.toInt.toNat
      have DT := dk_top hI (a1.toInt.toNat : Int) a2.toInt.toNat
      have ea : ((a1.toInt.toNat : Nat) : Int) = a1.toInt := by have := q1.1.1.1; omega
      refine br_y (by decide) (m_decks k1 hI l3 (by omega) (fun s1 ks1 D1 => ?_))
      rw [← ea] at D1
      refine lpw_inv (fun i (s : Mm × Int32) => kp [225] s1 s.1 ∧ s.2 = iZ (i : Int) ∧ ∀ o : Nat, o < i → gJ s.1 225 o = lZ (dk C (a1.toInt.toNat : Int) a2.toInt.toNat o)) 20 ⟨kp_rf, rfl, fun o ho => by omega⟩ ?_
      intro i s rec hi hs0 hrec
      obtain ⟨σ17, x18⟩ := s
      obtain ⟨k17, e17, W17⟩ := hs0
      dsimp only at k17 e17 W17
      subst e17
      have ti1 : (iZ (i : Int)).toInt = i := n_iZ (by omega)
      have ni : (iZ (i : Int)).toNatClampNeg = i := nat_iZ (by omega)
      refine ⟨fun q => ?_, fun q => ?_⟩
      · rw [leT, ti1, t_20] at q
        have e : i = 20 := by omega
        subst e
        have mt : 100000000 * sm (dk C (a1.toInt.toNat : Int) a2.toInt.toNat) 20 < 9223372036854775808 := by omega
        refine m_parted (n := 20) (a := 100000000) (w := dk C (a1.toInt.toNat : Int) a2.toInt.toNat) (by decide) (by decide) W17 (fun i _ => dk_nn hI _ _ i) DK.1 (by omega) (by decide) (by decide) mt (fun s3 ks3 P3 => ?_)
        have ks : kp [224, 225, 226, 227] σ' s3 := kp_tr (kp_up ks1 (by decide)) (kp_tr (kp_up k17 (by decide)) (kp_up ks3 (by decide)))
        have fin := hy q1 s3 (kp_core ks (by decide) k1) ((kp_t ks (by decide)).trans k2)
        have e10 : (10 + a3).toInt = 10 + a3.toInt := by rw [ad32 (by rw [t_10]; omega) (by rw [t_10]; omega), t_10]
        refine jn1 ⟨fun z => ⟨vin (by omega) (by omega), ?_⟩, fun z => ⟨vin (by omega) (by omega), ?_⟩⟩
        · rw [if_pos z] at fin
          rw [cl_T, e10, show (10 + a3.toInt).toNat = 10 + a3.toInt.toNat from by omega, P3 _ (by omega), lZ_i]
          exact fin
        · rw [if_neg z] at fin
          rw [cl_T, P3 _ (by omega), lZ_i]
          exact fin
      · rw [leT, ti1, t_20] at q
        have hrec := hrec (by omega)
        have P17 : gJ σ17 224 i = lZ (dk C (a1.toInt.toNat : Int) a2.toInt.toNat i) := kJ k17 (by decide) (D1 i (by omega))
        rw [ni, P17]
        refine ⟨vin (by omega) (by omega), vin (by omega) (by omega), fun σ62 h62 x63 h63 => hrec _ ⟨?_, by rw [h63, iZ_s], fun o ho => ?_⟩⟩
        · show kp [225] s1 σ62
          rw [h62]; exact kp_tr k17 (kp_J (by decide))
        · show gJ σ62 225 o = _
          rw [h62, gJ_sJ]
          by_cases z : o = i
          · rw [if_pos ⟨rfl, z⟩, z]
          · rw [if_neg (fun y => z y.2)]; exact W17 o (by omega)
  · rw [bz_0] at q; exact ⟨rfl, fun z => q z.1⟩
  · rw [bz_0] at q2; exact ⟨rfl, fun z => q2 z.2⟩
  · exact ⟨rfl, (bz_y ⟨(bz_n _).mp q, (bz_n _).mp q2⟩).symm⟩
