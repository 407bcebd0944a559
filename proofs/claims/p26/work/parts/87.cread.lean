/-! PURE: the class reads all titles of a tract -/
theorem kqI {ks : List Nat} {a b : Mm} {k : Nat} (h : kq ks a b) (hk : k ∉ ks) : gI b k = gI a k := (h.1 k hk).1
theorem kqJ {ks : List Nat} {a b : Mm} {k : Nat} (h : kq ks a b) (hk : k ∉ ks) : gJ b k = gJ a k := (h.1 k hk).2
theorem k_readTitles {L : List Nat} {σ : Mm} {C : Cr} (hI : Inv C) (hR : Rel L σ C) {t : Nat} (ht : t < nT C) {a2 : Int32} {Q : Mm → Prop} (h : ∀ σ', kq [8] σ σ' → (∀ o : Nat, o < 10 → gI σ' 8 o = iZ (ti C t o a2.toInt)) → Q σ') : wp_X6_readTitles L σ (some (20 + t)) a2 Q := by
  have hd := hI.nd
  have hnD : ((nD C : Nat) : Int) = C 200 5 := by unfold nD; omega
  have r1 := (hR.tr t ht).2.1
  have s8 : ∀ k ∈ [8], k ∈ sk := by decide
  refine lpw_inv (fun i (s : Mm × Int32) => kq [8] σ s.1 ∧ s.2 = iZ (i : Int) ∧ ∀ o : Nat, o < i → gI s.1 8 o = iZ (tiN C t o a2.toInt 0)) 10 ⟨kq_rf, rfl, fun o ho => by omega⟩ ?_
  intro i s rec hi hs0 hrec
  obtain ⟨σ1, x2⟩ := s
  obtain ⟨k1, e1, B1⟩ := hs0
  dsimp only at k1 e1 B1
  subst e1
  have ti1 : (iZ (i : Int)).toInt = i := n_iZ (by omega)
  have ni : (iZ (i : Int)).toNatClampNeg = i := nat_iZ (by omega)
  refine ⟨fun q => ?_, fun q => ⟨20 + t, rfl, lv_t hI hR ht, ?_⟩⟩
  rotate_left
  · rw [leT, ti1, t_10] at q
    have hrec := hrec (by omega)
    have g1 : gI σ1 (20 + t) = gI σ (20 + t) := kqI k1 (by simp; omega)
    rw [g1, ni]
    refine jbn ⟨vin (by omega) (by omega), fun σ32 h32 x33 h33 => hrec _ ⟨?_, by rw [h33, iZ_s], fun o ho => ?_⟩⟩
    · show kq [8] σ σ32
      rw [h32]; exact kq_tr k1 (kq_I (by simp))
    · show gI σ32 8 o = _
      rw [h32, gI_sI]
      by_cases z : o = i
      · rw [if_pos ⟨rfl, z⟩, z, tiN, sm_0, Int.add_zero]
        by_cases y : gI σ (20 + t) 1 = iZ (i : Int)
        · rw [if_pos y, if_pos (by rw [← r1, y, ti1])]; rfl
        · rw [if_neg y, if_neg (fun w => y (eqT.mpr (by rw [r1, w, ti1])))]; rfl
      · rw [if_neg (fun y => z y.2)]; exact B1 o (by omega)
  rw [leT, ti1, t_10] at q
  have e : i = 10 := by omega
  subst e
  clear hrec q
  refine lpw_inv (fun i (s : Mm × Int32) => kq [8] σ s.1 ∧ s.2 = iZ (i : Int) ∧ ∀ o : Nat, o < 10 → gI s.1 8 o = iZ (tiN C t o a2.toInt i)) (nD C) ⟨k1, rfl, B1⟩ ?_
  intro i s rec hi hs0 hrec
  obtain ⟨σ5, x6⟩ := s
  obtain ⟨k5, e5, B5⟩ := hs0
  dsimp only at k5 e5 B5
  subst e5
  have ti1 : (iZ (i : Int)).toInt = i := n_iZ (by omega)
  have ni : (iZ (i : Int)).toNatClampNeg = i := nat_iZ (by omega)
  have R5 := Rel_kq k5 s8 hR
  have fin : i = nD C → Q σ5 := fun e => h σ5 k5 (fun o ho => by rw [B5 o ho, e]; rfl)
  refine jn0 ⟨fun q => ?_, fun q => ⟨vin (by omega) (by rw [leT, t_40, ti1] at q; omega), fun o11 e11 => ?_⟩⟩
  · rw [leT, t_40, ti1] at q; exact fin (by omega)
  · rw [leT, t_40, ti1] at q
    rw [ni, R5.g2 i (by omega)] at e11
    by_cases hlt : i < nD C
    · rw [if_pos hlt] at e11
      subst e11
      refine ⟨fun z => (by cases z), fun k12 e12 => ?_⟩
      cases e12
      have hrec := hrec hlt
      obtain ⟨g0, g1, g2, g3, g4⟩ := R5.de i hlt
      obtain ⟨d4, d5, d6, dne, -, -⟩ := hI.de i hlt
      have htl : (C 204 i).toNat < nT C := by unfold nT; omega
      refine ⟨lv_d hI hR hlt, fun o14 e14 => ?_⟩
      rw [g0] at e14
      subst e14
      refine ⟨lo_some (lv_t hI hR htl).1, lo_some (lv_t hI hR ht).1, ?_⟩
      have same : (∀ o : Nat, o < 10 → tiT C t o a2.toInt i = 0) → ∀ x19 : Int32, x19 = iZ (i : Int) + 1 → rec (σ5, x19) := fun k x19 e19 => hrec _ ⟨k5, by rw [e19, iZ_s], fun o ho => by
        show gI σ5 8 o = _
        rw [B5 o ho, tiN, tiN, sm_s, k o ho, Int.add_zero]⟩
      refine jn1 ⟨fun y => same (fun o ho => ?_), fun y => ⟨fun y2 => same (fun o ho => ?_), fun y2 => ?_⟩⟩
      · unfold tiT; rw [if_neg (fun z => y (by congr 1; omega))]
      · rw [ltT, g4] at y2
        unfold tiT; rw [if_neg (fun z => by omega)]
      · have y := Option.some.inj (Decidable.not_not.mp y)
        rw [ltT, g4] at y2
        have v1 : vp_in (gI σ5 (30 + i) 1) 10 := vin (by omega) (by omega)
        obtain ⟨ff, hf⟩ : ∃ f : Nat, C 205 i = f := ⟨(C 205 i).toNat, by omega⟩
        obtain ⟨tt, htt⟩ : ∃ f : Nat, C 206 i = f := ⟨(C 206 i).toNat, by omega⟩
        have n1 : (gI σ5 (30 + i) 1).toNatClampNeg = ff := by rw [cl_T, g1]; omega
        have p3 : gI σ5 (30 + i) 3 = iZ (C 207 i) := by rw [← g3, iZ_toInt]
        refine ⟨v1, v1, fun σ22 h22 => ?_⟩
        rw [n1] at h22
        have k22 : kq [8] σ5 σ22 := by rw [h22]; exact kq_I (by simp)
        have e22 : gI σ22 (30 + i) = gI σ5 (30 + i) := kqI k22 (by simp; omega)
        rw [e22]
        have v2 : vp_in (gI σ5 (30 + i) 2) 10 := vin (by omega) (by omega)
        have n2 : (gI σ5 (30 + i) 2).toNatClampNeg = tt := by rw [cl_T, g2]; omega
        refine ⟨v2, v2, fun σ25 h25 x19 h19 => hrec _ ⟨?_, by rw [h19, iZ_s], fun o ho => ?_⟩⟩
        · show kq [8] σ σ25
          rw [h25]; exact kq_tr (kq_tr k5 k22) (kq_I (by simp))
        · show gI σ25 8 o = _
          have et : tiT C t o a2.toInt i = (if C 206 i = o then C 207 i else 0) - (if C 205 i = o then C 207 i else 0) := if_pos ⟨by omega, by omega⟩
          have en : tiN C t o a2.toInt (i + 1) = tiN C t o a2.toInt i + tiT C t o a2.toInt i := by
            unfold tiN; rw [sm_s, Int.add_assoc]
          have bf := B5 ff (by omega)
          have bt' := B5 tt (by omega)
          have hne : tt ≠ ff := fun z => dne (by omega)
          rw [en, et, h25, gI_sI, n2, h22, gI_sI, gI_sI, p3, bf]
          by_cases z1 : o = tt
          · subst z1
            rw [if_pos ⟨rfl, rfl⟩, if_neg (fun w => hne w.2), if_pos htt, if_neg (fun w => hne (by omega)), bt', iZ_add]
            congr 1
            omega
          · rw [if_neg (fun w => z1 w.2)]
            by_cases z2 : o = ff
            · subst z2
              rw [if_pos ⟨rfl, rfl⟩, if_neg (fun w => z1 (by omega)), if_pos hf, iZ_sub]
              congr 1
              omega
            · rw [if_neg (fun w => z2 w.2), if_neg (fun w => z1 (by omega)), if_neg (fun w => z2 (by omega)), B5 o ho]
              congr 1
              omega
    · rw [if_neg hlt] at e11
      subst e11
      exact ⟨fun _ => fin (by omega), fun k12 z => (by cases z)⟩
