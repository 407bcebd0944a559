/-! PURE: the class books a month's revenue -/
theorem k_bookRevenue {L : List Nat} {σ : Mm} {C : Cr} (hI : Inv C) (hR : Rel L σ C) {u m : Nat} (hu : u < nU C) {a2 a3 : Int32} (h1 : a2.toInt = m) (h2 : m < 61) (hs : (gI σ 0 16).toInt ≤ m) {b : Nat → Int} (hbr : ∀ o : Nat, o < 10 → 0 ≤ b o ∧ b o ≤ 1000000000000000) (hd : ∀ j : Nat, j < 20 → gJ σ 10 j = lZ (dk C u m j)) (hcr : ∀ o : Nat, o < 10 → (bt a3 o = true ↔ ca C u m b o)) (hb : ∀ o : Nat, o < 10 → gJ σ (100 + 8 * u + 6) (10 * m + o) = lZ (b1 C u m b o)) (h5 : ∀ o : Nat, o < 10 → gJ σ (100 + 8 * u + 5) (10 * m + o) = lZ (-pt (co C u m) (w2 C u m b) 10 o)) {Q : Mm → Prop}
    (h : ∀ σ', kr u m σ σ' → (∀ o : Nat, o < 10 → gJ σ' (100 + 8 * u + 6) (10 * m + o) = lZ (b2 C u m b o)) → (∀ o : Nat, o < 10 → gJ σ' (100 + 8 * u + 5) (10 * m + o) = lZ (ds C u m b o)) → Q σ') : wp_X6_bookRevenue L σ (some (100 + 8 * u)) a2 a3 Q := by
  have hu3 := nU3 hI hu
  have k := kd_u2 u hu3
  have W2 := w2_rg hI hu m b
  have RV := rv_rg hI u h2
  have DK := dk_all hI hu m
  have DT := dk_top hI u m
  have WH := wh_rg hI hu h2 (fun o ho => (hbr o ho).1)
  have l5 : LV (Fc ++ L) (100 + 8 * u + 5) 9 := ⟨inF hR (al_u hu (by decide)), k.1.2.2.2.2.1⟩
  have l6 : LV (Fc ++ L) (100 + 8 * u + 6) 9 := ⟨inF hR (al_u hu (by decide)), k.1.2.2.2.2.2⟩
  have lu := lv_u hI hR hu
  intro x1 e1
  subst e1
  refine k_revenueOf hI hR hu h1 h2 ?_
  refine k_partOut (w := dk C u m) pt_9 (by decide) (by decide) hd (fun i _ => dk_nn hI u m i) DK.1 (by omega) RV.1 (by omega) (mul_top RV.1 RV.2 DK.1 DT) (fun σ4 k4 P4 => ?_)
  have k4 : kq [11, 12] σ σ4 := k4
  have P4 : ∀ i : Nat, i < 20 → gJ σ4 11 i = lZ (p3 C u m i) := P4
  have r4 : kr u m σ σ4 := kr_kq k4 (by decide)
  have D4 : ∀ j : Nat, j < 20 → gJ σ4 10 j = lZ (dk C u m j) := fun j hj => by rw [kqJ k4 (by decide)]; exact hd j hj
  refine lpw_inv (fun i (s : Mm × Int64 × Int32) => kq [100 + 8 * u + 5, 100 + 8 * u + 6] σ4 s.1 ∧ kr u m σ s.1 ∧ s.2.1 = lZ (sm (of C u m b) i) ∧ s.2.2 = iZ (i : Int) ∧ (∀ o : Nat, o < 10 → gJ s.1 (100 + 8 * u + 6) (10 * m + o) = lZ (if o < i then b2 C u m b o else b1 C u m b o)) ∧ ∀ o : Nat, o < 10 → gJ s.1 (100 + 8 * u + 5) (10 * m + o) = lZ (if o < i then -pt (co C u m) (w2 C u m b) 10 o + (p3 C u m o + p3 C u m (10 + o) - of C u m b o) else -pt (co C u m) (w2 C u m b) 10 o)) 10 ⟨kq_rf, r4, rfl, rfl, fun o ho => by rw [if_neg (by omega), kqJ k4 (nk (by omega) (by decide))]; exact hb o ho, fun o ho => by rw [if_neg (by omega), kqJ k4 (nk (by omega) (by decide))]; exact h5 o ho⟩ ?_
  intro i s rec hi hs0 hrec
  obtain ⟨σ5, y6, x7⟩ := s
  obtain ⟨k5, r5, e6, e7, B5, U5⟩ := hs0
  dsimp only at k5 r5 e6 e7 B5 U5
  subst e6 e7
  have ti1 : (iZ (i : Int)).toInt = i := n_iZ (by omega)
  have ni : (iZ (i : Int)).toNatClampNeg = i := nat_iZ (by omega)
  refine ⟨fun q => ?_, fun q => ?_⟩
  rotate_left
  · rw [leT, ti1, t_10] at q
    have hrec := hrec (by omega)
    have hi10 : i < 10 := by omega
    have ex := row_ix (i := i) h1 h2 hi10
    have nx : (a2 * 10 + iZ (i : Int)).toNatClampNeg = 10 * m + i := by rw [cl_T, ex]; exact Int.toNat_natCast _
    have v20 := vin (a := iZ (i : Int)) (n := 20) (by omega) (by omega)
    have vx5 : vp_in (a2 * 10 + iZ (i : Int)) (ln (100 + 8 * u + 5)) := by rw [k.2.2.2.2.2.1]; exact vin (by omega) (by omega)
    have vx6 : vp_in (a2 * 10 + iZ (i : Int)) (ln (100 + 8 * u + 6)) := by rw [k.2.2.2.2.2.2]; exact vin (by omega) (by omega)
    have n10 : (iZ ((10 + i : Nat) : Int)).toNatClampNeg = 10 + i := nat_iZ (by omega)
    have v10 : vp_in (iZ ((10 + i : Nat) : Int)) 20 := vin (by rw [n_iZ (by omega)]; omega) (by rw [n_iZ (by omega)]; omega)
    have P5 : ∀ j : Nat, j < 20 → gJ σ5 11 j = lZ (p3 C u m j) := fun j hj => by rw [kqJ k5 (nm2 (by omega) (by omega))]; exact P4 j hj
    have Bi := B5 i hi10
    rw [if_neg (by omega)] at Bi
    have Ui := U5 i hi10
    rw [if_neg (by omega)] at Ui
    have r3 := (p3_rg hI hu h2).1 (10 + i) (by omega)
    have rb := b1_rg hI hu h2 hi10 (hbr i hi10).1
    have rb0 := hbr i hi10
    rw [ten_o, n10, P5 (10 + i) (by omega), ni, nx]
    have lt : lZ (b1 C u m b i) < lZ (p3 C u m (10 + i)) ↔ b1 C u m b i < p3 C u m (10 + i) := lZ_lt (by omega) (by omega) (by omega) (by omega)
    refine ⟨v10, fun y25 h25 => k_hasBit (by omega) ?_⟩
    subst h25
    have fin : ∀ y29 : Int64, y29 = lZ (of C u m b i) → ∃ k31 : Nat, some (100 + 8 * u) = some k31 ∧ LV (Fc ++ L) k31 4 ∧ LV (Fc ++ L) (k31 + 6) 9 ∧ vp_in (a2 * 10 + iZ (i : Int)) (ln (k31 + 6)) ∧ vp_in (a2 * 10 + iZ (i : Int)) (ln (k31 + 6)) ∧ ∀ σ37 : Mm, σ37 = sJ σ5 (k31 + 6) (10 * m + i) ((gJ σ5 (k31 + 6) (10 * m + i)) - y29) → LV (Fc ++ L) (k31 + 5) 9 ∧ vp_in (a2 * 10 + iZ (i : Int)) (ln (k31 + 5)) ∧ vp_in (iZ (i : Int)) 20 ∧ vp_in (a2 * 10 + iZ (i : Int)) (ln (k31 + 5)) ∧ ∀ σ42 : Mm, σ42 = sJ σ37 (k31 + 5) (10 * m + i) ((gJ σ37 (k31 + 5) (10 * m + i)) + (((gJ σ37 11 i) + lZ (p3 C u m (10 + i))) - y29)) → ∀ y43 : Int64, y43 = lZ (sm (of C u m b) i) + y29 → ∀ x44 : Int32, x44 = iZ (i : Int) + 1 → rec (σ42, y43, x44) := by
      intro y29 h29
      subst h29
      refine ⟨100 + 8 * u, rfl, lu, l6, vx6, vx6, fun σ37 h37 => ⟨l5, vx5, v20, vx5, fun σ42 h42 y43 h43 x44 h44 => hrec _ ?_⟩⟩
      rw [Bi, lZ_sub] at h37
      have P37 : gJ σ37 11 i = lZ (p3 C u m i) := by rw [h37, gJ_sJ, if_neg (by omega)]; exact P5 i (by omega)
      have U37 : gJ σ37 (100 + 8 * u + 5) (10 * m + i) = lZ (-pt (co C u m) (w2 C u m b) 10 i) := by rw [h37, gJ_sJ, if_neg (by omega)]; exact Ui
      rw [P37, U37, lZ_add, lZ_sub, lZ_add] at h42
      refine ⟨?_, ?_, ?_, by rw [h44, iZ_s], fun o ho => ?_, fun o ho => ?_⟩
      · show kq _ σ4 σ42
        rw [h42, h37]; exact kq_tr (kq_tr k5 (kq_J (by simp))) (kq_J (by simp))
      · show kr u m σ σ42
        rw [h42, h37]; exact kr_tr (kr_tr r5 (kr_6 hi10)) (kr_5 hi10)
      · show y43 = _
        rw [h43, lZ_add, sm_s]
      · show gJ σ42 (100 + 8 * u + 6) (10 * m + o) = _
        rw [h42, gJ_sJ, if_neg (by omega), h37, gJ_sJ]
        by_cases z : o = i
        · rw [z, if_pos ⟨rfl, rfl⟩, if_pos (Nat.lt_succ_self i)]; rfl
        · rw [if_neg (fun y => z (by have := y.2; omega)), B5 o ho]
          by_cases z2 : o < i
          · rw [if_pos z2, if_pos (by omega)]
          · rw [if_neg z2, if_neg (by omega)]
      · show gJ σ42 (100 + 8 * u + 5) (10 * m + o) = _
        rw [h42, gJ_sJ]
        by_cases z : o = i
        · rw [z, if_pos ⟨rfl, rfl⟩, if_pos (Nat.lt_succ_self i)]
        · rw [if_neg (fun y => z (by have := y.2; omega)), h37, gJ_sJ, if_neg (by omega), U5 o ho]
          by_cases z2 : o < i
          · rw [if_pos z2, if_pos (by omega)]
          · rw [if_neg z2, if_neg (by omega)]
    refine jn2 ⟨fun z => fin _ ?_, fun z => ⟨100 + 8 * u, rfl, lu, l6, vx6, fin _ ?_⟩⟩
    · rw [bz_0, hcr i hi10] at z
      unfold of
      rw [if_neg z]; rfl
    · have z := (hcr i hi10).mp ((bz_n _).mp z)
      unfold of
      rw [Bi, if_pos z]
      by_cases y : b1 C u m b i < p3 C u m (10 + i)
      · rw [if_pos (lt.mpr y), if_neg (by omega)]
      · rw [if_neg (fun w => y (lt.mp w))]
        by_cases y2 : p3 C u m (10 + i) < b1 C u m b i
        · rw [if_pos y2]
        · rw [if_neg y2, show p3 C u m (10 + i) = b1 C u m b i from by omega]
  rw [leT, ti1, t_10] at q
  have e : i = 10 := by omega
  subst e
  clear hrec q
  have D5 : ∀ j : Nat, j < 20 → gJ σ5 10 j = lZ (dk C u m j) := fun j hj => by rw [kqJ k5 (nm2 (by omega) (by omega))]; exact D4 j hj
  refine k_partBy (d := dk C u m) (cr := ca C u m b) D5 hcr (fun o _ => W2.1 o) W2.2.1 W2.2.2 WH.1 WH.2 (fun σ10 k10 P10 => ?_)
  have P10 : ∀ o : Nat, o < 10 → gJ σ10 15 o = lZ (pt (sm (of C u m b) 10) (w2 C u m b) 10 o) := P10
  have r10 : kr u m σ σ10 := kr_tr r5 (kr_kq k10 (by decide))
  have B10 : ∀ o : Nat, o < 10 → gJ σ10 (100 + 8 * u + 6) (10 * m + o) = lZ (b2 C u m b o) := fun o ho => by rw [kqJ k10 (nk (by omega) (by decide)), B5 o ho, if_pos ho]
  have U10 : ∀ o : Nat, o < 10 → gJ σ10 (100 + 8 * u + 5) (10 * m + o) = lZ (-pt (co C u m) (w2 C u m b) 10 o + (p3 C u m o + p3 C u m (10 + o) - of C u m b o)) := fun o ho => by rw [kqJ k10 (nk (by omega) (by decide)), U5 o ho, if_pos ho]
  refine lpw_inv (fun i (s : Mm × Int32) => kq [100 + 8 * u + 5] σ10 s.1 ∧ kr u m σ s.1 ∧ s.2 = iZ (i : Int) ∧ ∀ o : Nat, o < 10 → gJ s.1 (100 + 8 * u + 5) (10 * m + o) = lZ (if o < i then ds C u m b o else -pt (co C u m) (w2 C u m b) 10 o + (p3 C u m o + p3 C u m (10 + o) - of C u m b o))) 10 ⟨kq_rf, r10, rfl, fun o ho => by rw [if_neg (by omega)]; exact U10 o ho⟩ ?_
  intro i s rec hi hs0 hrec
  obtain ⟨σ11, x12⟩ := s
  obtain ⟨k11, r11, e12, U11⟩ := hs0
  dsimp only at k11 r11 e12 U11
  subst e12
  have ti1 : (iZ (i : Int)).toInt = i := n_iZ (by omega)
  have ni : (iZ (i : Int)).toNatClampNeg = i := nat_iZ (by omega)
  refine ⟨fun q => ?_, fun q => ?_⟩
  · rw [leT, ti1, t_10] at q
    have e : i = 10 := by omega
    subst e
    exact h σ11 r11 (fun o ho => by rw [kqJ k11 (nm1 (by omega))]; exact B10 o ho) (fun o ho => by rw [U11 o ho, if_pos ho])
  · rw [leT, ti1, t_10] at q
    have hrec := hrec (by omega)
    have hi10 : i < 10 := by omega
    have ex := row_ix (i := i) h1 h2 hi10
    have nx : (a2 * 10 + iZ (i : Int)).toNatClampNeg = 10 * m + i := by rw [cl_T, ex]; exact Int.toNat_natCast _
    have v := vin (a := iZ (i : Int)) (n := 10) (by omega) (by omega)
    have vx : vp_in (a2 * 10 + iZ (i : Int)) (ln (100 + 8 * u + 5)) := by rw [k.2.2.2.2.2.1]; exact vin (by omega) (by omega)
    refine ⟨100 + 8 * u, rfl, lu, l5, vx, v, vx, fun σ22 h22 x23 h23 => hrec _ ?_⟩
    have P11 : gJ σ11 15 i = lZ (pt (sm (of C u m b) 10) (w2 C u m b) 10 i) := by rw [kqJ k11 (nm1 (by omega))]; exact P10 i hi10
    have Ui := U11 i hi10
    rw [if_neg (by omega)] at Ui
    rw [ni, nx, Ui, P11, lZ_add] at h22
    refine ⟨?_, ?_, by rw [h23, iZ_s], fun o ho => ?_⟩
    · show kq _ σ10 σ22
      rw [h22]; exact kq_tr k11 (kq_J (by simp))
    · show kr u m σ σ22
      rw [h22]; exact kr_tr r11 (kr_5 hi10)
    · show gJ σ22 (100 + 8 * u + 5) (10 * m + o) = _
      rw [h22, gJ_sJ]
      by_cases e : o = i
      · rw [e, if_pos ⟨rfl, rfl⟩, if_pos (Nat.lt_succ_self i)]; rfl
      · rw [if_neg (fun y => e (by have := y.2; omega)), U11 o ho]
        by_cases z2 : o < i
        · rw [if_pos z2, if_pos (by omega)]
        · rw [if_neg z2, if_neg (by omega)]
