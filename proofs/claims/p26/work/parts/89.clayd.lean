/-! PURE: the class lays a deck -/
theorem k_layDeck {L : List Nat} {σ : Mm} {C : Cr} (hI : Inv C) (hR : Rel L σ C) {u m : Nat} (hu : u < nU C) {a2 : Int32} (h1 : a2.toInt = m) (h2 : (m : Int) ≤ C 200 0) {Q : Mm → Prop} (h : ∀ σ', kq [8, 10] σ σ' → (∀ j : Nat, j < 20 → gJ σ' 10 j = lZ (dk C u m j)) → Q σ') : wp_X6_layDeck L σ (some (100 + 8 * u)) a2 Q := by
  have s8 : ∀ k ∈ [8, 10], k ∈ sk := by decide
  have htr := hI.nt
  have hnT : ((nT C : Nat) : Int) = C 200 1 := by unfold nT; omega
  refine k_clear pt_9 (by decide) (fun σ1 k1 B1 => ?_)
  refine lpw_inv (fun t (s : Mm × Int32) => kq [8, 10] σ s.1 ∧ s.2 = iZ (t : Int) ∧ ∀ j : Nat, j < 20 → gJ s.1 10 j = lZ (sm (fun t => sm (fun o => cb C u m t o j) 10) t)) (nT C) ⟨kq_up k1 (by decide), rfl, B1⟩ ?_
  intro t s rec ht0 hs0 hrec
  obtain ⟨σ2, x3⟩ := s
  obtain ⟨k2, e2, B2⟩ := hs0
  dsimp only at k2 e2 B2
  subst e2
  have tt1 : (iZ (t : Int)).toInt = t := n_iZ (by omega)
  have nt1 : (iZ (t : Int)).toNatClampNeg = t := nat_iZ (by omega)
  have R2 := Rel_kq k2 s8 hR
  have fin : t = nT C → Q σ2 := fun e => h σ2 k2 (fun j hj => by rw [B2 j hj, e]; rfl)
  refine jn0 ⟨fun q => ?_, fun q => ⟨vin (by omega) (by rw [leT, t_8, tt1] at q; omega), fun o8 e8 => ?_⟩⟩
  · rw [leT, t_8, tt1] at q; exact fin (by omega)
  · rw [leT, t_8, tt1] at q
    rw [nt1, R2.g1 t (by omega)] at e8
    by_cases ht : t < nT C
    · rw [if_pos ht] at e8
      subst e8
      refine ⟨fun z => (by cases z), fun k9 e9 => ?_⟩
      cases e9
      have hrec := hrec ht
      have g2 := (R2.tr t ht).2.2
      have r203 := (hI.tr t ht).2.2
      refine ⟨lv_t hI R2 ht, fun o11 e11 => ?_⟩
      rw [g2] at e11
      have lo11 : lO (Fc ++ L) o11 := by
        intro k hk
        rw [hk] at e11
        by_cases z : C 203 t = -1
        · rw [if_pos z] at e11; cases e11
        · rw [if_neg z] at e11
          cases e11
          exact (lv_u hI R2 (t := (C 203 t).toNat) (by unfold nU; omega)).1
      refine ⟨lo11, lo_some (lv_u hI R2 hu).1, ?_⟩
      have iff : o11 = some (100 + 8 * u) ↔ C 203 t = u := by
        rw [e11]
        by_cases z : C 203 t = -1
        · rw [if_pos z]
          exact ⟨fun y => (by cases y), fun y => by omega⟩
        · rw [if_neg z]
          constructor
          · intro y
            have := Option.some.inj y
            omega
          · intro y
            rw [y, Int.toNat_natCast]
      refine jn1 ⟨fun y x16 h16 => hrec _ ⟨k2, by rw [h16, iZ_s], fun j hj => ?_⟩, fun y => ?_⟩
      · show gJ σ2 10 j = _
        have ne : C 203 t ≠ u := fun z => y (iff.mpr z)
        rw [B2 j hj, sm_s, sm_zero (f := fun o => cb C u m t o j) (fun o _ => cb_no ne), Int.add_zero]
      · have y := iff.mp (Decidable.not_not.mp y)
        refine k_layTract hI R2 ht h1 h2 B2 (fun σ17 k17 B17 x16 h16 => hrec _ ⟨kq_tr k2 k17, by rw [h16, iZ_s], fun j hj => ?_⟩)
        show gJ σ17 10 j = _
        have es : sm (fun o => lt C t m o j) 10 = sm (fun o => cb C u m t o j) 10 := sm_cong (fun o _ => by
          unfold cb lt
          rw [if_pos y])
        rw [B17 j hj, es]
        rfl
    · rw [if_neg ht] at e8
      subst e8
      exact ⟨fun _ => fin (by omega), fun k9 z => (by cases z)⟩
