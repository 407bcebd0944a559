/-! PURE: the class's questions -/
theorem lt_T {x y : Int32} : x < y ↔ x.toInt < y.toInt := ltT
theorem k_unitIn {L : List Nat} {σ : Mm} {C : Cr} (hI : Inv C) (hR : Rel L σ C) {a1 a2 : Int32} {Q : Option Nat → Mm → Prop} (h : Q (if isUM C a1.toInt a2.toInt then some (100 + 8 * a1.toInt.toNat) else none) σ) : wp_X6_unitIn L σ a1 a2 Q := by
  have no : ¬ isUM C a1.toInt a2.toInt → Q none σ := fun z => by rwa [if_neg z] at h
  refine k_unitAt hI hR (jn1 (jn0 ⟨fun q => no (fun z => ?_), fun k3 q => ?_⟩))
  · rw [if_pos z.1] at q; cases q
  · have q1 : dUn C a1.toInt := Classical.byContradiction (fun z => by rw [if_neg z] at q; cases q)
    rw [if_pos q1] at q
    cases q
    have huU : a1.toInt.toNat < nU C := by unfold nU; omega
    have g := (hR.un _ huU).1
    have g0 := hR.now
    refine ⟨lv_u hI hR huU, fun z => no (fun y => ?_), fun z => ⟨fun z2 => no (fun y => ?_), fun z2 => ?_⟩⟩
    · rw [ltT, g] at z; omega
    · rw [ltT, g0] at z2; omega
    · rw [ltT, g] at z
      rw [ltT, g0] at z2
      rwa [if_pos ⟨q1, by omega, by omega⟩] at h
theorem K_title {L : List Nat} {σ : Mm} {C : Cr} (hI : Inv C) (hR : Rel L σ C) {a1 a2 a3 : Int32} {Q : Int32 → Mm → List Nat → Prop}
    (hn : ¬ dTOM C a1.toInt a2.toInt a3.toInt → ∀ σ' L', Rel L' σ' C → Q (-101) σ' L')
    (hy : dTOM C a1.toInt a2.toInt a3.toInt → ∀ σ' L' {x9 : Int32}, Rel L' σ' C → x9.toInt64 = lZ (iZ (ti C a1.toInt.toNat a2.toInt a3.toInt)).toInt → Q x9 σ' L') : wp_L_title L σ a1 a2 a3 Q := by
  unfold wp_L_title wp_X6_title
  refine k_tractAt hI hR (jn1 ⟨fun q => ⟨rfl, hn (fun z => ?_) σ L hR⟩, fun k3 q => k_owner ⟨fun q2 => ⟨rfl, hn (fun z => ?_) σ L hR⟩, fun q2 => k_month hR ⟨fun q3 => ?_, fun q3 => ⟨rfl, hn (fun z => ?_) σ L hR⟩⟩⟩⟩)
  · rw [if_pos z.1] at q; cases q
  · rw [bz_0] at q2; exact q2 z.2.1
  · have q2 := (bz_n _).mp q2
    have q3 := (bz_n _).mp q3
    have q1 : dTr C a1.toInt := Classical.byContradiction (fun z => by rw [if_neg z] at q; cases q)
    rw [if_pos q1] at q
    cases q
    have ht : a1.toInt.toNat < nT C := by unfold nT; omega
    exact k_titleOf hI hR ht (k_out hR (i2l _) (fun R' O' => hy ⟨q1, q2, q3⟩ _ _ R' O'))
  · rw [Decidable.not_not, bz_0] at q3; exact q3 z.2.2
theorem K_revenue {L : List Nat} {σ : Mm} {C : Cr} (hI : Inv C) (hR : Rel L σ C) {a1 a2 : Int32} {Q : Int32 → Mm → List Nat → Prop}
    (hn : ¬ isUM C a1.toInt a2.toInt → ∀ σ' L', Rel L' σ' C → Q (-101) σ' L')
    (hy : isUM C a1.toInt a2.toInt → ∀ σ' L' {x9 : Int32}, Rel L' σ' C → x9.toInt64 = lZ (iZ (rv C a1.toInt a2.toInt.toNat)).toInt → Q x9 σ' L') : wp_L_revenue L σ a1 a2 Q := by
  unfold wp_L_revenue wp_X6_revenue
  have hnw := hI.now
  refine k_unitIn hI hR ⟨fun q => ⟨rfl, hn (fun z => ?_) σ L hR⟩, fun k3 q => ?_⟩
  · rw [if_pos z] at q; cases q
  · have q1 : isUM C a1.toInt a2.toInt := Classical.byContradiction (fun z => by rw [if_neg z] at q; cases q)
    rw [if_pos q1] at q
    cases q
    obtain ⟨u1, u2, u3, u4⟩ := um_le hI q1
    have e1 : ((a1.toInt.toNat : Nat) : Int) = a1.toInt := by omega
    refine k_revenueOf hI hR u1 (m := a2.toInt.toNat) (by omega) (by omega) (k_out hR (v := (iZ (rv C a1.toInt a2.toInt.toNat)).toInt) ?_ (fun R' O' => hy q1 _ _ R' O'))
    rw [lZ_i, e1]
    exact i2l _
theorem K_due {L : List Nat} {σ : Mm} {C : Cr} (hI : Inv C) (hR : Rel L σ C) {a1 a2 a3 : Int32} {Q : Int32 → Mm → List Nat → Prop}
    (hn : ¬ dUMO C a1.toInt a2.toInt a3.toInt → ∀ σ' L', Rel L' σ' C → Q (-2000000001) σ' L')
    (hy : dUMO C a1.toInt a2.toInt a3.toInt → ∀ σ' L' {x9 : Int32}, Rel L' σ' C → x9.toInt64 = lZ (iZ (du C a1.toInt.toNat a2.toInt.toNat a3.toInt.toNat)).toInt → Q x9 σ' L') : wp_L_due L σ a1 a2 a3 Q := by
  unfold wp_L_due wp_X6_due
  have hnw := hI.now
  refine k_unitIn hI hR (jn1 ⟨fun q => ⟨rfl, hn (fun z => ?_) σ L hR⟩, fun k3 q => k_owner ⟨fun q2 => k_settle hI hR (fun σ8 R8 s8 => ?_), fun q2 => ⟨rfl, hn (fun z => ?_) σ L hR⟩⟩⟩)
  · rw [if_pos z.1] at q; cases q
  · have q2 := (bz_n _).mp q2
    have q1 : isUM C a1.toInt a2.toInt := Classical.byContradiction (fun z => by rw [if_neg z] at q; cases q)
    rw [if_pos q1] at q
    cases q
    obtain ⟨u1, u2, u3, u4⟩ := um_le hI q1
    have k := kd_u2 _ (nU3 hI u1)
    obtain ⟨o, ho, rfl⟩ := ow_iZ q2
    have to : (iZ (o : Int)).toInt = o := n_iZ (by omega)
    have hm : a2.toInt = (a2.toInt.toNat : Nat) := by omega
    have ex := row_ix (i := o) hm (by omega) ho
    have nx : (a2 * 10 + iZ (o : Int)).toNatClampNeg = 10 * a2.toInt.toNat + o := by rw [cl_T, ex]; exact Int.toNat_natCast _
    have mo := (R8.mo _ a2.toInt.toNat u1 u2 (by omega) o ho).1
    rw [k.2.2.2.2.2.1, nx, mo]
    refine ⟨lv_u hI R8 u1, ⟨inF R8 (al_u u1 (by decide)), k.1.2.2.2.2.1⟩, vin (by omega) (by omega), k_out R8 (v := (iZ (du C a1.toInt.toNat a2.toInt.toNat o)).toInt) ?_ (fun R' O' => hy ⟨q1, q2⟩ _ _ R' (by rw [to, Int.toNat_natCast]; exact O'))⟩
    rw [lZ_i]
    exact i2l _
  · rw [Decidable.not_not, bz_0] at q2; exact q2 z.2
theorem K_balance {L : List Nat} {σ : Mm} {C : Cr} (hI : Inv C) (hR : Rel L σ C) {a1 a2 a3 : Int32} {Q : Int64 → Mm → List Nat → Prop}
    (hn : ¬ dUMO C a1.toInt a2.toInt a3.toInt → ∀ σ' L', Rel L' σ' C → Q (-101) σ' L')
    (hy : dUMO C a1.toInt a2.toInt a3.toInt → ∀ σ' L' {x9 : Int64}, Rel L' σ' C → x9 = lZ (bl C a1.toInt.toNat (a2.toInt.toNat - um C a1.toInt.toNat + 1) a3.toInt.toNat) → Q x9 σ' L') : wp_L_balance L σ a1 a2 a3 Q := by
  unfold wp_L_balance wp_X6_balance
  have hnw := hI.now
  refine k_unitIn hI hR (jn1 ⟨fun q => ⟨rfl, hn (fun z => ?_) σ L hR⟩, fun k3 q => k_owner ⟨fun q2 => k_settle hI hR (fun σ8 R8 s8 => ?_), fun q2 => ⟨rfl, hn (fun z => ?_) σ L hR⟩⟩⟩)
  · rw [if_pos z.1] at q; cases q
  · have q2 := (bz_n _).mp q2
    have q1 : isUM C a1.toInt a2.toInt := Classical.byContradiction (fun z => by rw [if_neg z] at q; cases q)
    rw [if_pos q1] at q
    cases q
    obtain ⟨u1, u2, u3, u4⟩ := um_le hI q1
    have k := kd_u2 _ (nU3 hI u1)
    obtain ⟨o, ho, rfl⟩ := ow_iZ q2
    have to : (iZ (o : Int)).toInt = o := n_iZ (by omega)
    have hm : a2.toInt = (a2.toInt.toNat : Nat) := by omega
    have ex := row_ix (i := o) hm (by omega) ho
    have nx : (a2 * 10 + iZ (o : Int)).toNatClampNeg = 10 * a2.toInt.toNat + o := by rw [cl_T, ex]; exact Int.toNat_natCast _
    have mo := (R8.mo _ a2.toInt.toNat u1 u2 (by omega) o ho).2
    rw [k.2.2.2.2.2.2, nx, mo]
    exact ⟨lv_u hI R8 u1, ⟨inF R8 (al_u u1 (by decide)), k.1.2.2.2.2.2⟩, vin (by omega) (by omega), hy ⟨q1, q2⟩ _ _ R8 (by rw [to, Int.toNat_natCast])⟩
  · rw [Decidable.not_not, bz_0] at q2; exact q2 z.2
theorem K_agrees {L : List Nat} {σ : Mm} {C : Cr} (hI : Inv C) (hR : Rel L σ C) {a1 a2 : Int32} {Q : Int32 → Mm → List Nat → Prop}
    (hn : ¬ isUM C a1.toInt a2.toInt → ∀ σ' L', Rel L' σ' C → Q (-101) σ' L')
    (hy : isUM C a1.toInt a2.toInt → ∀ σ' L' {x9 : Int32}, Rel L' σ' C → x9 = bz (lZ (sm (du C a1.toInt.toNat a2.toInt.toNat) 10) = lZ (rv C a1.toInt a2.toInt.toNat - co C a1.toInt a2.toInt.toNat)) → Q x9 σ' L') : wp_L_agrees L σ a1 a2 Q := by
  unfold wp_L_agrees wp_X6_agrees
  have hnw := hI.now
  refine k_unitIn hI hR ⟨fun q => ⟨rfl, hn (fun z => ?_) σ L hR⟩, fun k3 q => k_settle hI hR (fun σ4 R4 s4 => ?_)⟩
  · rw [if_pos z] at q; cases q
  · have q1 : isUM C a1.toInt a2.toInt := Classical.byContradiction (fun z => by rw [if_neg z] at q; cases q)
    rw [if_pos q1] at q
    cases q
    obtain ⟨u1, u2, u3, u4⟩ := um_le hI q1
    have e1 : ((a1.toInt.toNat : Nat) : Int) = a1.toInt := by omega
    have k := kd_u2 _ (nU3 hI u1)
    have hm : a2.toInt = (a2.toInt.toNat : Nat) := by omega
    have na : a2.toNatClampNeg = a2.toInt.toNat := rfl
    refine lpw_f (fun i => (lZ (sm (du C a1.toInt.toNat a2.toInt.toNat) i), iZ (i : Int))) 10 rfl ?_
    intro i rec hi hrec
    have ti1 : (iZ (i : Int)).toInt = i := n_iZ (by omega)
    have ni : (iZ (i : Int)).toNatClampNeg = i := nat_iZ (by omega)
    refine ⟨fun q => ?_, fun q => ?_⟩
    · rw [leT, ti1, t_10] at q
      have e : i = 10 := by omega
      subst e
      have g4 := ((R4.un _ u1).2 a2.toInt.toNat (by omega)).2.2.2
      refine k_revenueOf hI R4 u1 hm (by omega) ⟨lv_u hI R4 u1, ⟨inF R4 (al_u u1 (by decide)), k.1.2.2.2.1⟩, by rw [k.2.2.2.2.1]; exact vin (by omega) (by omega), ?_⟩
      rw [na, i2lT g4, e1, lZ_sub]
      refine jbn ⟨by split <;> rfl, ?_⟩
      exact k_outb R4 (d := lZ (sm (du C a1.toInt.toNat a2.toInt.toNat) 10) = lZ (rv C a1.toInt a2.toInt.toNat - co C a1.toInt a2.toInt.toNat)) rfl (fun R' x9 O' => hy q1 _ _ R' O')
    · rw [leT, ti1, t_10] at q
      have hrec := hrec (by omega)
      have ex := row_ix (i := i) hm (by omega) (by omega)
      have nx : (a2 * 10 + iZ (i : Int)).toNatClampNeg = 10 * a2.toInt.toNat + i := by rw [cl_T, ex]; exact Int.toNat_natCast _
      have mo := (R4.mo _ a2.toInt.toNat u1 u2 (by omega) i (by omega)).1
      rw [k.2.2.2.2.2.1, nx, mo]
      refine ⟨lv_u hI R4 u1, ⟨inF R4 (al_u u1 (by decide)), k.1.2.2.2.2.1⟩, vin (by omega) (by omega), fun y19 h19 x20 h20 => hrec _ ?_⟩
      rw [h19, h20, iZ_s, lZ_add, sm_s]
theorem K_interest {L : List Nat} {σ : Mm} {C : Cr} (hI : Inv C) (hR : Rel L σ C) {a1 a2 a3 a4 : Int32} {Q : Int32 → Mm → List Nat → Prop}
    (hn : ¬ dUMO C a1.toInt a2.toInt a3.toInt → ∀ σ' L', Rel L' σ' C → Q (-101) σ' L')
    (hy : dUMO C a1.toInt a2.toInt a3.toInt → ∀ σ' L' {x9 : Int32}, Rel L' σ' C → x9.toInt64 = lZ (iZ (dkp C a1.toInt.toNat a2.toInt.toNat (if a4 = 0 then 10 + a3.toInt.toNat else a3.toInt.toNat))).toInt → Q x9 σ' L') : wp_L_interest L σ a1 a2 a3 a4 Q := by
  unfold wp_L_interest wp_X6_interest
  have hnw := hI.now
  refine k_unitIn hI hR (jn1 ⟨fun q => ⟨rfl, hn (fun z => ?_) σ L hR⟩, fun k3 q => k_owner ⟨fun q2 => ?_, fun q2 => ⟨rfl, hn (fun z => ?_) σ L hR⟩⟩⟩)
  · rw [if_pos z.1] at q; cases q
  · have q2 := (bz_n _).mp q2
    have q1 : isUM C a1.toInt a2.toInt := Classical.byContradiction (fun z => by rw [if_neg z] at q; cases q)
    rw [if_pos q1] at q
    cases q
    obtain ⟨u1, u2, u3, u4⟩ := um_le hI q1
    obtain ⟨o, ho, rfl⟩ := ow_iZ q2
    have to : (iZ (o : Int)).toInt = o := n_iZ (by omega)
    have hm : a2.toInt = (a2.toInt.toNat : Nat) := by omega
    have DK := dk_all hI u1 a2.toInt.toNat
    have DT := dk_top hI a1.toInt.toNat a2.toInt.toNat
    rw [to, Int.toNat_natCast] at hy
    refine k_layDeck hI hR u1 hm u4 (fun σ8 k8 D8 => ?_)
    have R8 := Rel_kq k8 (by decide) hR
    have top : 100000000 * sm (dk C a1.toInt.toNat a2.toInt.toNat) 20 < 9223372036854775808 := by omega
    refine k_partOut (a := 100000000) (w := dk C a1.toInt.toNat a2.toInt.toNat) pt_9 (by decide) (by decide) D8 (fun i _ => dk_nn hI _ _ i) DK.1 (by omega) (by decide) (by decide) top (fun σ9 k9 P9 => ?_)
    have k9 : kq [11, 12] σ8 σ9 := k9
    have P9 : ∀ i : Nat, i < 20 → gJ σ9 11 i = lZ (dkp C a1.toInt.toNat a2.toInt.toNat i) := P9
    have R9 := Rel_kq k9 (by decide) R8
    have hy := hy ⟨q1, by rw [← to]; exact q2⟩
    refine jn1 ⟨fun z => ?_, fun z => ?_⟩
    · rw [if_pos z] at hy
      have n10 : (iZ ((10 + o : Nat) : Int)).toNatClampNeg = 10 + o := nat_iZ (by omega)
      rw [ten_o, n10, P9 _ (by omega), lZ_i]
      exact ⟨vin (by rw [n_iZ (by omega)]; omega) (by rw [n_iZ (by omega)]; omega), k_out R9 (i2l _) (fun R' O' => hy _ _ R' O')⟩
    · rw [if_neg z] at hy
      have n10 : (iZ (o : Int)).toNatClampNeg = o := nat_iZ (by omega)
      rw [n10, P9 _ (by omega), lZ_i]
      exact ⟨vin (by omega) (by omega), k_out R9 (i2l _) (fun R' O' => hy _ _ R' O')⟩
  · rw [Decidable.not_not, bz_0] at q2; exact q2 z.2
theorem K_owed {L : List Nat} {σ : Mm} {C : Cr} (hI : Inv C) (hR : Rel L σ C) {a1 : Int32} {Q : Int64 → Mm → List Nat → Prop}
    (hn : ¬ dOw a1.toInt → ∀ σ' L', Rel L' σ' C → Q (-1000000000001) σ' L')
    (hy : dOw a1.toInt → ∀ σ' L' {x9 : Int64}, Rel L' σ' C → x9 = lZ (ow C a1.toInt.toNat) → Q x9 σ' L') : wp_L_owed L σ a1 Q := by
  unfold wp_L_owed wp_X6_owed
  refine k_owner ⟨fun q => k_settle hI hR (fun σ3 R3 s3 => ?_), fun q => ⟨rfl, hn ?_ σ L hR⟩⟩
  · have q := (bz_n _).mp q
    exact k_settledOwed hI R3 s3 (o := a1.toInt.toNat) (by omega) (by omega) (k_outl R3 rfl (fun R' O' => hy q _ _ R' O'))
  · rwa [Decidable.not_not, bz_0] at q
/-- a pay day -/
theorem Rel_pay {L : List Nat} {σ σ' : Mm} {C : Cr} (hI : Inv C) (h : Rel L σ C) {n : Nat} (r : gR σ' = gR σ) (ri : gI σ' = gI σ) (rj : ∀ k, k ≠ 7 → gJ σ' k = gJ σ k) (pd : ∀ o : Nat, o < 10 → gJ σ' 7 o = lZ (uPay C n 223 o)) : Rel L σ' (uPay C n) := by
  have e : ∀ i, uPay C n 200 i = C 200 i := fun i => uPay_o (by decide)
  refine Rel_E hI h ⟨⟨e _, e _, e _, e _, e _⟩, fun k a b => funext (fun i => uPay_o (by omega))⟩ r (fun k _ => by rw [ri]) rj (fun i _ => by rw [ri]) (by rw [ri, e]; exact h.now) (by rw [ri, e]; exact h.pen) (by rw [ri, e]; exact h.lst) (fun o ho => by rw [ri, uPay_o (by decide)]; exact h.sus o ho) (by rw [ri, e]; exact h.set) pd (Or.inr ⟨e _, by rw [ri]⟩)
theorem ow_pay {C : Cr} {n i : Nat} (hi : i < 10) (h : n ≤ i) : ow (uPay C n) i = ow C i := by
  have e200 : ∀ i, uPay C n 200 i = C 200 i := fun i => uPay_o (by decide)
  have he : rowE C (uPay C n) := ⟨⟨e200 _, e200 _, e200 _, e200 _, e200 _⟩, fun k a b => funext (fun i => uPay_o (by omega))⟩
  have eN : nN (uPay C n) = nN C := by unfold nN; rw [e200]
  have eU : nU (uPay C n) = nU C := by unfold nU; rw [e200]
  have e3 : uPay C n 223 i = C 223 i := if_neg (fun z => by have := z.2.1; omega)
  have es : sm (fun u => sm (fun j => du (uPay C n) u (um (uPay C n) u + j) i) (nN (uPay C n) + 1 - um (uPay C n) u)) (nU (uPay C n)) = sm (fun u => sm (fun j => du C u (um C u + j) i) (nN C + 1 - um C u)) (nU C) := by
    rw [eU, eN]
    refine sm_cong (fun u _ => ?_)
    rw [um_E he u]
    exact sm_cong (fun j _ => du_cong (n := um C u + j + 1) (um_E he u) (e200 27) (fun m _ _ => sM_E he u m) (by omega) (by omega) hi)
  unfold ow
  rw [e3, es]
theorem k_payDay {L : List Nat} {σ : Mm} {C : Cr} (hI : Inv C) (hR : Rel L σ C) {Q : Int64 → Mm → Prop}
    (hy : ∀ σ', Rel L σ' (uPay C 10) → Q (lZ (sm (fun o => if py C o then ow C o else 0) 10)) σ') : wp_X6_payDay L σ Q := by
  have hl := hI.lst
  refine k_settle hI hR (fun σ1 R1 s1 => ?_)
  refine lpw_inv (fun i (s : Mm × Int64 × Int32) => gR s.1 = gR σ1 ∧ gI s.1 = gI σ1 ∧ (∀ k, k ≠ 7 → gJ s.1 k = gJ σ1 k) ∧ (∀ o : Nat, o < 10 → gJ s.1 7 o = lZ (uPay C i 223 o)) ∧ s.2.1 = lZ (sm (fun o => if py C o then ow C o else 0) i) ∧ s.2.2 = iZ (i : Int)) 10 ⟨rfl, rfl, fun _ _ => rfl, fun o ho => ?_, rfl, rfl⟩ ?_
  · unfold uPay
    rw [if_neg (fun z => by have := z.2.1; omega)]
    exact R1.pd o ho
  intro i s rec hi hs0 hrec
  obtain ⟨σ2, y3, x4⟩ := s
  obtain ⟨r2, i2, j2, p2, e3, e4⟩ := hs0
  dsimp only at r2 i2 j2 p2 e3 e4
  subst e3 e4
  have ti1 : (iZ (i : Int)).toInt = i := n_iZ (by omega)
  have ni : (iZ (i : Int)).toNatClampNeg = i := nat_iZ (by omega)
  refine ⟨fun q => ?_, fun q => ?_⟩
  · rw [leT, ti1, t_10] at q
    have e : i = 10 := by omega
    subst e
    exact hy σ2 (Rel_pay hI R1 r2 i2 j2 p2)
  · rw [leT, ti1, t_10] at q
    have hrec := hrec (by omega)
    have hi10 : i < 10 := by omega
    have v := vin (a := iZ (i : Int)) (n := 10) (by omega) (by omega)
    rw [i2, ni]
    have l14 : ((gI σ1 0 14).toInt64).toInt = C 200 28 := by rw [i2lT R1.lst]; exact toInt_lZ (by omega) (by omega)
    have hs := R1.sus i hi10
    have su := hI.su i hi10
    have no : ¬ py C i → ∀ x15 : Int32, x15 = iZ (i : Int) + 1 → rec (σ2, lZ (sm (fun o => if py C o then ow C o else 0) i), x15) := fun hp x15 h15 => hrec _ ⟨r2, i2, j2, fun o ho => by
      show gJ σ2 7 o = _
      rw [p2 o ho]
      congr 1
      unfold uPay
      by_cases z : 223 = 223 ∧ o < i ∧ py C o
      · rw [if_pos z, if_pos ⟨rfl, by omega, z.2.2⟩]
      · rw [if_neg z, if_neg (fun y => z ⟨rfl, by
          have := y.2.1
          by_cases e : o = i
          · subst e; exact absurd y.2.2 hp
          · omega, y.2.2⟩)], by
      show lZ _ = lZ _
      rw [sm_s, if_neg hp, Int.add_zero], by rw [h15, iZ_s]⟩
    have fin : ∀ y10 : Int64, (C 200 28 ≤ y10.toInt ↔ py C i) → (py C i → y10 = lZ (ow C i)) → ∃ J14 : Mm → Int64 → Prop, (∀ (σ12 : Mm) (y13 : Int64), J14 σ12 y13 → ∀ x15 : Int32, x15 = iZ (i : Int) + 1 → rec (σ12, y13, x15)) ∧ ((y10 < ((gI σ2 0 14).toInt64) → J14 σ2 (lZ (sm (fun o => if py C o then ow C o else 0) i))) ∧ (¬ (y10 < ((gI σ2 0 14).toInt64)) → vp_in (iZ (i : Int)) 10 ∧ vp_in (iZ (i : Int)) 10 ∧ ∀ σ18 : Mm, σ18 = sJ σ2 7 i ((gJ σ2 7 i) + y10) → ∀ y19 : Int64, y19 = lZ (sm (fun o => if py C o then ow C o else 0) i) + y10 → J14 σ18 y19)) := by
      intro y10 h1 h2
      rw [i2]
      refine jn2 ⟨fun z => no (fun y => ?_), fun z => ⟨v, v, fun σ18 h18 y19 h19 x15 h15 => hrec _ ?_⟩⟩
      · rw [Int64.lt_iff_toInt_lt, l14] at z
        have := h1.mpr y
        omega
      · rw [Int64.lt_iff_toInt_lt, l14] at z
        have hp := h1.mp (by omega)
        have e10 := h2 hp
        subst e10
        have e7 : gJ σ2 7 i = lZ (C 223 i) := by
          rw [p2 i hi10]
          unfold uPay
          rw [if_neg (fun y => by have := y.2.1; omega)]
        rw [e7, lZ_add] at h18
        refine ⟨?_, ?_, fun k hk => ?_, fun o ho => ?_, ?_, by rw [h15, iZ_s]⟩
        · show gR σ18 = _
          rw [h18]; exact r2
        · show gI σ18 = _
          rw [h18]; exact i2
        · show gJ σ18 k = _
          rw [h18, gJ_ne hk]; exact j2 k hk
        · show gJ σ18 7 o = _
          rw [h18, gJ_sJ]
          by_cases w : o = i
          · rw [if_pos ⟨rfl, w⟩]
            unfold uPay
            rw [if_pos ⟨rfl, by omega, by rw [w]; exact hp⟩, w, lZ_toInt]
          · rw [if_neg (fun y => w y.2), p2 o ho]
            congr 1
            unfold uPay
            by_cases w2 : 223 = 223 ∧ o < i ∧ py C o
            · rw [if_pos w2, if_pos ⟨rfl, by omega, w2.2.2⟩]
            · rw [if_neg w2, if_neg (fun y => w2 ⟨rfl, by have := y.2.1; omega, y.2.2⟩)]
        · show y19 = _
          rw [h19, lZ_add, sm_s, if_pos hp]
    refine k_hasBit (by omega) (jn2 ⟨fun z => ?_, fun z => ?_⟩)
    · rw [bz_0] at z
      have c0 : C 222 i = 0 := su.resolve_right (fun y => z (hs.mpr y))
      have R2 : Rel L σ2 (uPay C i) := Rel_pay hI R1 r2 i2 j2 p2
      refine k_settledOwed (Inv_pay hI) R2 (by rw [i2, s1, uPay_o (by decide)]) hi10 ti1 ?_
      rw [ow_pay hi10 (Nat.le_refl _)]
      exact fin (lZ (ow C i)) ⟨fun y => ⟨c0, y⟩, fun y => y.2⟩ (fun _ => rfl)
    · have z := (bz_n _).mp z
      have c1 := hs.mp z
      refine fin 0 ⟨fun y => ?_, fun y => ?_⟩ (fun y => ?_)
      · have : (0 : Int64).toInt = 0 := rfl
        omega
      · have := y.1; omega
      · have := y.1; omega
