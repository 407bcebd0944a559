/-! PURE: the class lays a tract on the deck -/
def lt (C : Cr) (t m o j : Nat) : Int := cbL C t o (C 201 t * ti C t o m) j (lo C t o m)
theorem cbL_0 {C : Cr} {t o j : Nat} {l : Option Nat} : cbL C t o 0 j l = 0 := by
  cases l with
  | none => unfold cbL; dsimp only; rw [Int.mul_zero]; simp
  | some k => unfold cbL; dsimp only; rw [Int.mul_zero, Int.mul_zero]; simp
theorem k_layTract {L : List Nat} {σ : Mm} {C : Cr} (hI : Inv C) (hR : Rel L σ C) {t m : Nat} (ht : t < nT C) {a2 : Int32} (h1 : a2.toInt = m) (h2 : (m : Int) ≤ C 200 0) {b : Nat → Int} (hb : ∀ j : Nat, j < 20 → gJ σ 10 j = lZ (b j)) {Q : Mm → Prop} (h : ∀ σ', kq [8, 10] σ σ' → (∀ j : Nat, j < 20 → gJ σ' 10 j = lZ (b j + sm (fun o => lt C t m o j) 10)) → Q σ') : wp_X6_layTract L σ (some (20 + t)) a2 Q := by
  have s8 : ∀ k ∈ [8, 10], k ∈ sk := by decide
  have hs := hI.ns
  have hnS : ((nS C : Nat) : Int) = C 200 11 := by unfold nS; omega
  obtain ⟨⟨r1, r2⟩, -, -⟩ := hI.tr t ht
  refine k_readTitles hI hR ht (fun σ1 k1 T1 => ?_)
  rw [h1] at T1
  refine lpw_inv (fun o (s : Mm × Int32) => kq [8, 10] σ s.1 ∧ s.2 = iZ (o : Int) ∧ (∀ p : Nat, p < 10 → gI s.1 8 p = iZ (ti C t p m)) ∧ ∀ j : Nat, j < 20 → gJ s.1 10 j = lZ (b j + sm (fun o => lt C t m o j) o)) 10 ⟨kq_up k1 (by decide), rfl, T1, fun j hj => by rw [sm_0, Int.add_zero, kqJ k1 (by decide)]; exact hb j hj⟩ ?_
  intro o s rec ho hs0 hrec
  obtain ⟨σ2, x3⟩ := s
  obtain ⟨k2, e2, T2, B2⟩ := hs0
  dsimp only at k2 e2 T2 B2
  subst e2
  have to1 : (iZ (o : Int)).toInt = o := n_iZ (by omega)
  have no1 : (iZ (o : Int)).toNatClampNeg = o := nat_iZ (by omega)
  refine ⟨fun q => ?_, fun q => ⟨vin (by omega) (by rw [leT, t_10, to1] at q; omega), ?_⟩⟩
  · rw [leT, t_10, to1] at q
    have e : o = 10 := by omega
    subst e
    exact h σ2 k2 B2
  rw [leT, t_10, to1] at q
  have hrec := hrec (by omega)
  have ho10 : o < 10 := by omega
  have rti := ti_rg hI t o m
  have nti := hI.tn t ht o ho10 m
  have T := T2 o ho10
  have tT : (iZ (ti C t o m)).toInt = ti C t o m := toInt_iZ (by omega) (by omega)
  obtain ⟨w, hwd⟩ : ∃ w : Int, w = C 201 t * ti C t o m := ⟨_, rfl⟩
  have el : ∀ j, lt C t m o j = cbL C t o w j (lo C t o m) := fun j => by unfold lt; rw [← hwd]
  rw [no1, T]
  have fin : ∀ σ' : Mm, kq [10] σ2 σ' → (∀ j : Nat, j < 20 → gJ σ' 10 j = lZ (b j + sm (fun o => lt C t m o j) o + cbL C t o w j (lo C t o m))) → ∀ x9 : Int32, x9 = iZ (o : Int) + 1 → rec (σ', x9) := fun σ' k3 B3 x9 h9 => hrec _ ⟨kq_tr k2 (kq_up k3 (by decide)), by rw [h9, iZ_s], fun p hp => by
    show gI σ' 8 p = _
    rw [kqI k3 (by decide)]; exact T2 p hp, fun j hj => by
    show gJ σ' 10 j = _
    rw [B3 j hj, sm_s, el, Int.add_assoc]⟩
  refine jn1 ⟨fun z => ?_, fun z => ⟨20 + t, rfl, lv_t hI hR ht, vin (by omega) (by omega), fun y14 h14 => ?_⟩⟩
  · rw [leT, tT, t_0] at z
    have w0 : w = 0 := by rw [hwd, show ti C t o m = 0 from by omega, Int.mul_zero]
    refine fin σ2 kq_rf (fun j hj => ?_)
    rw [B2 j hj, w0, cbL_0, Int.add_zero]
  · have R2 := Rel_kq k2 s8 hR
    have g0 := (R2.tr t ht).1
    rw [i2lT g0, i2lT tT, lZ_mul, ← hwd] at h14
    subst h14
    refine k_leaseThat hI R2 ht (by omega) h1 h2 ?_
    rw [to1, Int.toNat_natCast]
    cases hl : lo C t o m with
    | none =>
      rw [hl] at fin
      refine ⟨fun _ => ?_, fun k z => (by cases z)⟩
      rw [ten_o]
      have n10 : (iZ ((10 + o : Nat) : Int)).toNatClampNeg = 10 + o := nat_iZ (by omega)
      have v10 : vp_in (iZ ((10 + o : Nat) : Int)) 20 := vin (by rw [n_iZ (by omega)]; omega) (by rw [n_iZ (by omega)]; omega)
      refine ⟨v10, v10, fun σ20 h20 => fin σ20 ?_ (fun j hj => ?_)⟩
      · rw [h20]; exact kq_J (by simp)
      · rw [h20, gJ_sJ, n10, show (1000 : Int64) = lZ 1000 from rfl, lZ_mul, B2 j hj, B2 (10 + o) (by omega)]
        unfold cbL
        dsimp only
        by_cases q1 : j = 10 + o
        · rw [if_pos ⟨rfl, q1⟩, if_pos q1, lZ_add, q1]
          congr 1
          omega
        · rw [if_neg (fun w => q1 w.2), if_neg q1]
          congr 1
          omega
    | some k =>
      rw [hl] at fin
      refine ⟨fun z => (by cases z), fun k17 z => ?_⟩
      cases z
      have hk := (fst_lt hl).1
      obtain ⟨-, -, l2, l3, -, -⟩ := R2.le k hk
      obtain ⟨-, -, d11, d12, -, -⟩ := hI.le k hk
      have v20 : vp_in (iZ (o : Int)) 20 := vin (by omega) (by omega)
      refine ⟨v20, lv_l hI R2 hk, v20, fun σ24 h24 => ?_⟩
      have k24 : kq [10] σ2 σ24 := by rw [h24]; exact kq_J (by simp)
      have e24 : gI σ24 (70 + k) = gI σ2 (70 + k) := kqI k24 (by simp; omega)
      rw [e24]
      obtain ⟨ll, hll⟩ : ∃ l : Nat, C 211 k = l := ⟨(C 211 k).toNat, by omega⟩
      have t10' : (10 + gI σ2 (70 + k) 2).toInt = 10 + C 211 k := by rw [ad32 (by rw [t_10]; omega) (by rw [t_10]; omega), t_10, l2]
      have n10' : (10 + gI σ2 (70 + k) 2).toNatClampNeg = 10 + ll := by rw [cl_T, t10']; omega
      have v20' : vp_in (10 + gI σ2 (70 + k) 2) 20 := vin (by omega) (by omega)
      rw [n10']
      refine ⟨v20', v20', fun σ27 h27 => fin σ27 ?_ (fun j hj => ?_)⟩
      · rw [h27]; exact kq_tr k24 (kq_J (by simp))
      · have q1' : lZ w * (gI σ2 (70 + k) 3).toInt64 = lZ (C 212 k * w) := by rw [i2lT l3, lZ_mul, Int.mul_comm]
        have q2' : lZ w * (1000 - gI σ2 (70 + k) 3).toInt64 = lZ ((1000 - C 212 k) * w) := by
          rw [i2lT (z := 1000 - C 212 k) (by rw [sb32 (by rw [t_1000]; omega) (by rw [t_1000]; omega), t_1000, l3]), lZ_mul, Int.mul_comm]
        have h24 : σ24 = sJ σ2 10 o (gJ σ2 10 o + lZ w * (gI σ2 (70 + k) 3).toInt64) := h24
        rw [h27, gJ_sJ, h24, gJ_sJ, gJ_sJ, q1', q2', B2 j hj, B2 o (by omega), B2 (10 + ll) (by omega)]
        unfold cbL
        dsimp only
        by_cases q1 : j = o
        · rw [if_neg (by omega), if_pos ⟨rfl, q1⟩, if_pos q1, if_neg (by omega), lZ_add, q1]
          congr 1
          omega
        · by_cases q3 : j = 10 + ll
          · rw [if_pos ⟨rfl, q3⟩, if_neg (by omega), if_neg q1, if_pos (by omega), lZ_add, q3]
            congr 1
            omega
          · rw [if_neg (by omega), if_neg (by omega), if_neg q1, if_neg (by omega)]
            congr 1
            omega
