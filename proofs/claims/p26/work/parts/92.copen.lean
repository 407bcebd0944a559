/-! PURE: the class opens a month of a unit -/
theorem row_ix {m i : Nat} {a : Int32} (h1 : a.toInt = m) (h2 : m < 61) (h3 : i < 10) : (a * 10 + iZ (i : Int)).toInt = ((10 * m + i : Nat) : Int) := by
  rw [← iZ_toInt a, h1, show (10 : Int32) = iZ 10 from rfl, iZ_mul, iZ_add, toInt_iZ (by omega) (by omega)]
  omega
theorem row_ix2 {m i : Nat} {a : Int32} (h1 : a.toInt = m) (h2 : m < 61) (h3 : i < 10) : (a * 10 - 10 + iZ (i : Int)).toInt = 10 * (m : Int) + i - 10 := by
  rw [← iZ_toInt a, h1, show (10 : Int32) = iZ 10 from rfl, iZ_mul, iZ_sub, iZ_add, toInt_iZ (by omega) (by omega)]
  omega
theorem k_openMonth {L : List Nat} {σ : Mm} {C : Cr} (hI : Inv C) (hR : Rel L σ C) {u m : Nat} (hu : u < nU C) {a1 : Int32} (h1 : a1.toInt = m) (h2 : m < 61) {Q : Mm → Prop}
    (h : ∀ σ', kq [100 + 8 * u + 5, 100 + 8 * u + 6] σ σ' → (∀ j : Nat, gJ σ' (100 + 8 * u + 5) j = if 10 * m ≤ j ∧ j < 10 * m + 10 then lZ 0 else gJ σ (100 + 8 * u + 5) j) → (∀ j : Nat, gJ σ' (100 + 8 * u + 6) j = if 10 * m ≤ j ∧ j < 10 * m + 10 then (if m ≤ um C u then lZ 0 else gJ σ (100 + 8 * u + 6) (j - 10)) else gJ σ (100 + 8 * u + 6) j) → Q σ') : wp_X4_openMonth L σ (100 + 8 * u) a1 Q := by
  have hu3 := nU3 hI hu
  have k := kd_u2 u hu3
  have hum := um_eq hI hu
  have g0 := (hR.un u hu).1
  intro x1 e1 x2 e2
  subst e1 e2
  refine lpw_inv (fun i (s : Mm × Int32) => kq [100 + 8 * u + 5, 100 + 8 * u + 6] σ s.1 ∧ s.2 = iZ (i : Int) ∧ (∀ j : Nat, gJ s.1 (100 + 8 * u + 5) j = if 10 * m ≤ j ∧ j < 10 * m + i then lZ 0 else gJ σ (100 + 8 * u + 5) j) ∧ ∀ j : Nat, gJ s.1 (100 + 8 * u + 6) j = if 10 * m ≤ j ∧ j < 10 * m + i then (if m ≤ um C u then lZ 0 else gJ σ (100 + 8 * u + 6) (j - 10)) else gJ σ (100 + 8 * u + 6) j) 10 ⟨kq_rf, rfl, fun j => by rw [if_neg (by omega)], fun j => by rw [if_neg (by omega)]⟩ ?_
  intro i s rec hi hs0 hrec
  obtain ⟨σ3, x4⟩ := s
  obtain ⟨k3, e3, U3, B3⟩ := hs0
  dsimp only at k3 e3 U3 B3
  subst e3
  have ti1 : (iZ (i : Int)).toInt = i := n_iZ (by omega)
  refine ⟨fun q => ?_, fun q => ?_⟩
  · rw [leT, ti1, t_10] at q
    have e : i = 10 := by omega
    subst e
    exact h σ3 k3 U3 B3
  · rw [leT, ti1, t_10] at q
    have hrec := hrec (by omega)
    have ex := row_ix (i := i) h1 h2 (by omega)
    have ex2 := row_ix2 (i := i) h1 h2 (by omega)
    have nx : (a1 * 10 + iZ (i : Int)).toNatClampNeg = 10 * m + i := by rw [cl_T, ex]; exact Int.toNat_natCast _
    have l5 : LV (Fc ++ L) (100 + 8 * u + 5) 9 := ⟨inF hR (al_u hu (by decide)), k.1.2.2.2.2.1⟩
    have l6 : LV (Fc ++ L) (100 + 8 * u + 6) 9 := ⟨inF hR (al_u hu (by decide)), k.1.2.2.2.2.2⟩
    rw [k.2.2.2.2.2.1, k.2.2.2.2.2.2, nx]
    refine ⟨lv_u hI hR hu, l5, vin (by omega) (by omega), fun σ10 h10 => ?_⟩
    have k10 : kq [100 + 8 * u + 5, 100 + 8 * u + 6] σ3 σ10 := by rw [h10]; exact kq_J (by simp)
    have g10 : (gI σ10 (100 + 8 * u) 0).toInt = um C u := by
      rw [kqI k10 (by simp), kqI k3 (by simp), g0, hum]
    have fin : ∀ y11 : Int64, y11 = (if m ≤ um C u then lZ 0 else gJ σ (100 + 8 * u + 6) (10 * m + i - 10)) → LV (Fc ++ L) (100 + 8 * u + 6) 9 ∧ vp_in (a1 * 10 + iZ (i : Int)) 610 ∧ ∀ σ15 : Mm, σ15 = sJ σ10 (100 + 8 * u + 6) (10 * m + i) y11 → ∀ x16 : Int32, x16 = iZ (i : Int) + 1 → rec (σ15, x16) := fun y11 h11 => ⟨l6, vin (by omega) (by omega), fun σ15 h15 x16 h16 => hrec _ ⟨by
      show kq _ σ σ15
      rw [h15]; exact kq_tr (kq_tr k3 k10) (kq_J (by simp)), by rw [h16, iZ_s], fun j => by
      show gJ σ15 (100 + 8 * u + 5) j = _
      rw [h15, gJ_sJ, if_neg (by omega), h10, gJ_sJ]
      by_cases z : j = 10 * m + i
      · rw [if_pos ⟨rfl, z⟩, if_pos (by omega)]; rfl
      · rw [if_neg (fun y => z y.2), U3 j]
        by_cases z2 : 10 * m ≤ j ∧ j < 10 * m + i
        · rw [if_pos z2, if_pos (by omega)]
        · rw [if_neg z2, if_neg (by omega)], fun j => by
      show gJ σ15 (100 + 8 * u + 6) j = _
      rw [h15, gJ_sJ]
      by_cases z : j = 10 * m + i
      · rw [if_pos ⟨rfl, z⟩, if_pos (by omega), z, h11]
      · rw [if_neg (fun y => z y.2), h10, gJ_sJ, if_neg (by omega), B3 j]
        by_cases z2 : 10 * m ≤ j ∧ j < 10 * m + i
        · rw [if_pos z2, if_pos (show 10 * m ≤ j ∧ j < 10 * m + (i + 1) by omega)]
        · rw [if_neg z2, if_neg (show ¬ (10 * m ≤ j ∧ j < 10 * m + (i + 1)) by omega)]⟩⟩
    refine jn1 ⟨fun z => fin _ ?_, fun z => ⟨l6, vin (by rw [leT, h1, g10] at z; omega) (by omega), fin _ ?_⟩⟩
    · rw [leT, h1, g10] at z
      rw [if_pos (by omega)]; rfl
    · rw [leT, h1, g10] at z
      have n2 : (a1 * 10 - 10 + iZ (i : Int)).toNatClampNeg = 10 * m + i - 10 := by rw [cl_T, ex2]; omega
      rw [if_neg (by omega), n2, h10, gJ_sJ, if_neg (by omega), B3, if_neg (by omega)]
