/-! PURE: the class's revenue, its parting by working interests -/
theorem k_revenueOf {L : List Nat} {σ : Mm} {C : Cr} (hI : Inv C) (hR : Rel L σ C) {u m : Nat} (hu : u < nU C) {a2 : Int32} (h1 : a2.toInt = m) (h2 : m < 61) {Q : Int64 → Mm → Prop} (h : Q (lZ (rv C u m)) σ) : wp_X6_revenueOf L σ (some (100 + 8 * u)) a2 Q := by
  have hu3 := nU3 hI hu
  have k := kd_u2 u hu3
  refine ⟨100 + 8 * u, rfl, lv_u hI hR hu, ⟨inF hR (al_u hu (by decide)), k.1.2.2.1⟩, by rw [k.2.2.2.1]; exact vin (by omega) (by omega), fun y6 e6 => ?_⟩
  have g3 := ((hR.un u hu).2 m h2).2.2.1
  rw [cl_T, h1, Int.toNat_natCast, i2lT g3] at e6
  subst e6
  refine k_taxIn hR (by omega) (by omega) ?_
  rw [h1, show ((m : Int) + 1).toNat = m + 1 from by omega]
  have r := gs_rg hI u h2
  have t := txn_rg hI (m + 1) (by omega)
  have p := Int.mul_nonneg r.1 t.1
  have p2 := Int.mul_le_mul r.2 t.2 t.1 (show (0 : Int) ≤ 60000000 by omega)
  have et : (iZ (txn C (m + 1))).toInt64 = lZ (txn C (m + 1)) := i2lT (toInt_iZ (by omega) (by omega))
  rw [et, lZ_mul, show (100 : Int64) = lZ 100 from rfl, lZ_div p (by omega) (by omega) (by omega), lZ_sub]
  exact h
theorem k_partBy {L : List Nat} {σ : Mm} {a : Int} {d : Nat → Int} {a3 : Int32} {cr : Nat → Prop} [DecidablePred cr] (hd : ∀ j : Nat, j < 20 → gJ σ 10 j = lZ (d j)) (hcr : ∀ o : Nat, o < 10 → (bt a3 o = true ↔ cr o)) (h0 : ∀ o : Nat, o < 10 → 0 ≤ (if cr o then 0 else d (10 + o))) (hs : 0 < sm (fun o => if cr o then 0 else d (10 + o)) 10) (hs2 : sm (fun o => if cr o then 0 else d (10 + o)) 10 ≤ 80000000000) (ha : 0 ≤ a) (ha2 : a ≤ 60000000) {Q : Mm → Prop}
    (h : ∀ σ', kq [14, 15, 16] σ σ' → (∀ o : Nat, o < 10 → gJ σ' 15 o = lZ (pt a (fun o => if cr o then 0 else d (10 + o)) 10 o)) → Q σ') : wp_X6_partByWorking L σ (lZ a) a3 Q := by
  refine lpw_inv (fun i (s : Mm × Int32) => kq [14] σ s.1 ∧ s.2 = iZ (i : Int) ∧ ∀ o : Nat, o < i → gJ s.1 14 o = lZ (if cr o then 0 else d (10 + o))) 10 ⟨kq_rf, rfl, fun o ho => by omega⟩ ?_
  intro i s rec hi hs0 hrec
  obtain ⟨σ1, x2⟩ := s
  obtain ⟨k1, e1, B1⟩ := hs0
  dsimp only at k1 e1 B1
  subst e1
  have ti1 : (iZ (i : Int)).toInt = i := n_iZ (by omega)
  have ni : (iZ (i : Int)).toNatClampNeg = i := nat_iZ (by omega)
  refine ⟨fun q => ?_, fun q => ?_⟩
  · rw [leT, ti1, t_10] at q
    have e : i = 10 := by omega
    subst e
    exact k_partOut pt_13 (by decide) (by decide) B1 h0 hs (by omega) ha (by omega) (mul_top ha ha2 hs hs2) (fun σ5 k5 P5 => h σ5 (kq_tr (kq_up k1 (by decide)) (kq_up k5 (by decide))) P5)
  · rw [leT, ti1, t_10] at q
    have hrec := hrec (by omega)
    refine k_hasBit (by omega) ?_
    rw [ten_o, ni]
    have n10 : (iZ ((10 + i : Nat) : Int)).toNatClampNeg = 10 + i := nat_iZ (by omega)
    have v10 : vp_in (iZ ((10 + i : Nat) : Int)) 20 := vin (by rw [n_iZ (by omega)]; omega) (by rw [n_iZ (by omega)]; omega)
    have e1 : gJ σ1 10 (10 + i) = lZ (d (10 + i)) := by rw [kqJ k1 (by decide), hd _ (by omega)]
    rw [n10, e1]
    have fin : ∀ y8 : Int64, y8 = lZ (if cr i then 0 else d (10 + i)) → vp_in (iZ (i : Int)) 10 ∧ ∀ σ11 : Mm, σ11 = sJ σ1 14 i y8 → ∀ x12 : Int32, x12 = iZ (i : Int) + 1 → rec (σ11, x12) := fun y8 h8 => ⟨vin (by omega) (by omega), fun σ11 h11 x12 h12 => hrec _ ⟨by
      show kq [14] σ σ11
      rw [h11]; exact kq_tr k1 (kq_J (by simp)), by rw [h12, iZ_s], fun o ho => by
      show gJ σ11 14 o = _
      rw [h11, gJ_sJ]
      by_cases z : o = i
      · rw [if_pos ⟨rfl, z⟩, z, h8]
      · rw [if_neg (fun y => z y.2)]; exact B1 o (by omega)⟩⟩
    refine jn1 ⟨fun z => ⟨v10, fin _ ?_⟩, fun z => fin _ ?_⟩
    · rw [bz_0, hcr i (by omega)] at z
      rw [if_neg z]
    · rw [bz_0, Decidable.not_not, hcr i (by omega)] at z
      rw [if_pos z]; rfl
