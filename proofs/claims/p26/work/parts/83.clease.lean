/-! PURE: the class's leases -/
theorem kd_u2 : ∀ t : Nat, t < 3 → (kd (100 + 8 * t + 1) = 8 ∧ kd (100 + 8 * t + 2) = 8 ∧ kd (100 + 8 * t + 3) = 8 ∧ kd (100 + 8 * t + 4) = 8 ∧ kd (100 + 8 * t + 5) = 9 ∧ kd (100 + 8 * t + 6) = 9) ∧ (ln (100 + 8 * t + 1) = 61 ∧ ln (100 + 8 * t + 2) = 61 ∧ ln (100 + 8 * t + 3) = 61 ∧ ln (100 + 8 * t + 4) = 61 ∧ ln (100 + 8 * t + 5) = 610 ∧ ln (100 + 8 * t + 6) = 610) := by decide +kernel
theorem kd_w2 : ∀ t : Nat, t < 6 → (kd (130 + 4 * t + 1) = 8 ∧ kd (130 + 4 * t + 2) = 8 ∧ kd (130 + 4 * t + 3) = 8) ∧ (ln (130 + 4 * t + 1) = 61 ∧ ln (130 + 4 * t + 2) = 61 ∧ ln (130 + 4 * t + 3) = 61) := by decide +kernel
theorem al_u {C : Cr} {u i : Nat} (hu : u < nU C) (hi : i < 7) : al C (100 + 8 * u + i) := Or.inr (Or.inr (Or.inr (Or.inl ⟨by omega, by omega, by omega⟩)))
theorem al_w {C : Cr} {w i : Nat} (hu : w < nW C) (hi : i < 4) : al C (130 + 4 * w + i) := Or.inr (Or.inr (Or.inr (Or.inr ⟨by omega, by omega⟩)))
theorem nU3 {C : Cr} (hI : Inv C) {u : Nat} (hu : u < nU C) : u < 3 := by have := hI.nu; unfold nU at hu; omega
theorem ba_0 {C : Cr} (hI : Inv C) {u : Int} {m : Nat} (hm : m < 61) : ba C u m = 0 ↔ ¬ gv C u m := by
  have hw := hI.nw
  have nn : ∀ w, w < nW C → 0 ≤ (if C 216 w = u then C 217 (61 * w + m) else 0) := fun w hw => by
    have := (hI.wm (61 * w + m) (by unfold nW at hw; omega)).1
    split <;> omega
  constructor
  · rintro h ⟨w, w1, w2, w3⟩
    have : 0 < ba C u m := sm_pos nn w1 (by rw [if_pos w2]; exact w3)
    omega
  · intro h
    refine sm_zero (fun w hw => ?_)
    have := nn w hw
    by_cases q : C 216 w = u
    · rw [if_pos q] at this ⊢
      have : ¬ 0 < C 217 (61 * w + m) := fun z => h ⟨w, hw, q, z⟩
      omega
    · rw [if_neg q]
theorem k_inForce {L : List Nat} {σ : Mm} {C : Cr} (hI : Inv C) (hR : Rel L σ C) {l m : Nat} (hl1 : l < nS C) {a1 : Int32} (h1 : a1.toInt = m) (h2 : (m : Int) ≤ C 200 0) {Q : Int32 → Mm → Prop} (h : Q (bz (hl C l m)) σ) : wp_X1_isInForce L σ (70 + l) a1 Q := by
  have hn := hI.now
  obtain ⟨g0, g1, g2, g3, g4, g5⟩ := hR.le l hl1
  obtain ⟨d9, -, -, -, d13, d14⟩ := hI.le l hl1
  have htl : (C 209 l).toNat < nT C := by unfold nT; omega
  obtain ⟨-, -, gt⟩ := hR.tr _ htl
  have h203 := (hI.tr _ htl).2.2
  refine ⟨lv_l hI hR hl1, fun q o2 e2 => ⟨20 + (C 209 l).toNat, by rw [e2, g0], lv_t hI hR htl, fun o6 e6 => ⟨fun z => jb ?_, fun k7 z x10 e10 => ?_⟩⟩, fun q => ?_⟩
  · rw [leT, g4, h1] at q
    rw [z] at e6
    rw [gt] at e6
    have e3 : C 203 (C 209 l).toNat = -1 := by
      apply Classical.byContradiction
      intro y
      rw [if_neg y] at e6
      cases e6
    rw [it01]
    refine ⟨zb_bz _, ?_⟩
    rw [bz_cong (show _ ↔ hl C l m from ?_)]
    · exact h
    · rw [ltT, g5, h1]
      constructor
      · intro y
        exact ⟨q, fun j hj hj2 => by omega⟩
      · intro y y2
        have := (y.2 (C 213 l + C 214 l - 1).toNat (by omega) (by omega)).1
        exact this e3
  · rw [leT, g4, h1] at q
    rw [z, gt] at e6
    have e3 : C 203 (C 209 l).toNat ≠ -1 := fun y => by rw [if_pos y] at e6; cases e6
    rw [if_neg e3] at e6
    have e7 := Option.some.inj e6
    obtain ⟨u, hu⟩ : ∃ u : Nat, C 203 (C 209 l).toNat = u := ⟨(C 203 (C 209 l).toNat).toNat, by omega⟩
    have huU : u < nU C := by unfold nU; omega
    have hu3 := nU3 hI huU
    rw [hu, Int.toNat_natCast] at e7
    subst e7
    have hlast : x10.toInt = C 213 l + C 214 l - 1 := by rw [e10, g5]
    refine lpw_inv (fun i (x : Int32) => x.toInt = C 213 l + C 214 l - 1 + i ∧ ∀ j : Nat, C 213 l + C 214 l - 1 ≤ j → (j : Int) < C 213 l + C 214 l - 1 + i → gv C u j) (((m : Int) - (C 213 l + C 214 l - 1)).toNat) ⟨by omega, fun j y1 y2 => by omega⟩ ?_
    intro i x rec hi hs hrec
    obtain ⟨s1, s2⟩ := hs
    have yes : (m : Int) ≤ x.toInt → Q 1 σ := fun y => by
      have : hl C l m := ⟨q, fun j hj hj2 => ⟨e3, by rw [hu]; exact s2 j hj2 (by omega)⟩⟩
      rwa [bz_y this] at h
    refine jn0 ⟨fun y => ?_, fun y => ⟨fun y2 => ?_, fun y2 => ⟨lv_u hI hR huU, ⟨inF hR (al_u huU (by decide)), (kd_u2 u hu3).1.2.1⟩, ?_, fun y3 x18 e18 => ?_, fun y3 => ?_⟩⟩⟩
    · rw [leT, h1] at y; exact yes y
    · rw [leT, t_61] at y2; rw [leT, h1] at y; omega
    · rw [leT, h1] at y
      rw [(kd_u2 u hu3).2.2.1]
      exact vin (by omega) (by omega)
    · rw [leT, h1] at y
      have gb := ((hR.un u huU).2 x.toInt.toNat (by omega)).2.1
      rw [cl_T, eqT, gb, t_0, ba_0 hI (by omega), Decidable.not_not] at y3
      refine hrec (by omega) x18 ⟨?_, fun j z1 z2 => ?_⟩
      · rw [e18, ad32 (by rw [t_1]; omega) (by rw [t_1]; omega), t_1]; omega
      · by_cases e : (j : Int) < C 213 l + C 214 l - 1 + i
        · exact s2 j z1 e
        · rw [show j = x.toInt.toNat from by omega]; exact y3
    · rw [leT, h1] at y
      have gb := ((hR.un u huU).2 x.toInt.toNat (by omega)).2.1
      rw [Decidable.not_not, cl_T, eqT, gb, t_0, ba_0 hI (by omega)] at y3
      have : ¬ hl C l m := fun w => y3 (by have := (w.2 x.toInt.toNat (by omega) (by omega)).2; rwa [hu] at this)
      rwa [bz_no this] at h
  · rw [leT, g4, h1] at q
    have : ¬ hl C l m := fun w => q w.1
    rwa [bz_no this] at h
theorem k_leaseThat {L : List Nat} {σ : Mm} {C : Cr} (hI : Inv C) (hR : Rel L σ C) {t m : Nat} (ht : t < nT C) {a2 a3 : Int32} (h0 : 0 ≤ a2.toInt) (h1 : a3.toInt = m) (h2 : (m : Int) ≤ C 200 0) {Q : Option Nat → Mm → Prop} (h : Q ((lo C t a2.toInt.toNat m).map (fun l => 70 + l)) σ) : wp_X6_leaseThatCounts L σ (some (20 + t)) a2 a3 Q := by
  have hs := hI.ns
  have hnS : ((nS C : Nat) : Int) = C 200 11 := by unfold nS; omega
  refine lpw_inv (fun i (s : Mm × Int32) => s.1 = σ ∧ s.2 = iZ (i : Int) ∧ ∀ j, j < i → loB C t a2.toInt.toNat m j = false) (nS C) ⟨rfl, rfl, fun j hj => by omega⟩ ?_
  intro i s rec hi hs0 hrec
  obtain ⟨σ1, x2⟩ := s
  obtain ⟨e1, e2, e3⟩ := hs0
  dsimp only at e1 e2 e3
  subst e1 e2
  have ti1 : (iZ (i : Int)).toInt = i := n_iZ (by omega)
  have ni : (iZ (i : Int)).toNatClampNeg = i := nat_iZ (by omega)
  have none' : i = nS C → Q none σ1 := fun e => by
    subst e
    have : lo C t a2.toInt.toNat m = none := fst_nn e3
    rwa [this] at h
  refine jn0 ⟨fun q => ?_, fun q => ⟨vin (by omega) (by rw [leT, t_16, ti1] at q; omega), fun o7 e7 => ?_⟩⟩
  · rw [leT, t_16, ti1] at q; exact none' (by omega)
  · rw [leT, t_16, ti1] at q
    rw [ni, hR.g3 i (by omega)] at e7
    by_cases hlt : i < nS C
    · rw [if_pos hlt] at e7
      subst e7
      refine ⟨fun z => (by cases z), fun k8 e8 => ?_⟩
      cases e8
      have hrec := hrec hlt
      obtain ⟨g0, g1, -, -, -, -⟩ := hR.le i hlt
      have d9 := (hI.le i hlt).1
      have htl : (C 209 i).toNat < nT C := by unfold nT; omega
      refine ⟨lv_l hI hR hlt, fun o10 e10 => ?_⟩
      rw [g0] at e10
      subst e10
      refine ⟨lo_some (lv_t hI hR htl).1, lo_some (lv_t hI hR ht).1, ?_⟩
      have fin : loB C t a2.toInt.toNat m i = false → ∀ x15 : Int32, x15 = iZ (i : Int) + 1 → rec (σ1, x15) := fun hb x15 e15 => hrec _ ⟨rfl, by rw [e15, iZ_s], fun j hj => by
        by_cases e : j = i
        · rw [e]; exact hb
        · exact e3 j (by omega)⟩
      refine jn1 ⟨fun y => fin ?_, fun y => ⟨fun y2 => fin ?_, fun y2 => k_inForce hI hR hlt h1 h2 ⟨fun y3 => fin ?_, fun y3 => ?_⟩⟩⟩
      · unfold loB
        rw [decide_eq_false_iff_not]
        intro z
        exact y (by congr 1; omega)
      · rw [eqT, g1] at y2
        unfold loB
        rw [decide_eq_false_iff_not]
        intro z
        omega
      · rw [bz_0] at y3
        unfold loB
        rw [decide_eq_false_iff_not]
        exact fun z => y3 z.2.2
      · have y3 := (bz_n _).mp y3
        have y := Option.some.inj (Decidable.not_not.mp y)
        rw [Decidable.not_not, eqT, g1] at y2
        have hb : loB C t a2.toInt.toNat m i = true := by
          unfold loB
          rw [decide_eq_true_eq]
          exact ⟨by omega, by omega, y3⟩
        have : lo C t a2.toInt.toNat m = some i := fst_of hlt hb e3
        rwa [this] at h
    · rw [if_neg hlt] at e7
      subst e7
      exact ⟨fun _ => none' (by omega), fun k8 z => (by cases z)⟩
