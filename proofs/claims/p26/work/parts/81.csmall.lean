/-! PURE: the class's small methods -/
theorem k_owner {L : List Nat} {σ : Mm} {a : Int32} {Q : Int32 → Mm → Prop} (h : Q (bz (dOw a.toInt)) σ) : wp_X6_isOwner L σ a Q := by
  refine jn1 (jn0 ⟨fun q => ?_, fun q => ⟨fun q2 => ?_, fun q2 => ?_⟩⟩)
  · rw [ltT, t_0] at q; rw [bz_no (fun z => by omega)] at h; exact ⟨zb_0, h⟩
  · rw [leT, t_10] at q2; rw [bz_no (fun z => by omega)] at h; exact ⟨zb_0, h⟩
  · rw [ltT, t_0] at q; rw [leT, t_10] at q2; rw [bz_y ⟨by omega, by omega⟩] at h; exact ⟨zb_1, h⟩
theorem k_month {L : List Nat} {σ : Mm} {C : Cr} (hR : Rel L σ C) {a : Int32} {Q : Int32 → Mm → Prop} (h : Q (bz (dMo C a.toInt)) σ) : wp_X6_isMonth L σ a Q := by
  have hn := hR.now
  refine jn1 (jn0 ⟨fun q => ?_, fun q => ⟨fun q2 => ?_, fun q2 => ?_⟩⟩)
  · rw [ltT, t_0] at q; rw [bz_no (fun z => by omega)] at h; exact ⟨zb_0, h⟩
  · rw [ltT, hn] at q2; rw [bz_no (fun z => by omega)] at h; exact ⟨zb_0, h⟩
  · rw [ltT, t_0] at q; rw [ltT, hn] at q2; rw [bz_y ⟨by omega, by omega⟩] at h; exact ⟨zb_1, h⟩
theorem k_tractAt {L : List Nat} {σ : Mm} {C : Cr} (hI : Inv C) (hR : Rel L σ C) {a : Int32} {Q : Option Nat → Mm → Prop} (h : Q (if dTr C a.toInt then some (20 + a.toInt.toNat) else none) σ) : wp_X6_tractAt L σ a Q := by
  have ht := hI.nt
  have no : ¬ dTr C a.toInt → Q none σ := fun z => by rwa [if_neg z] at h
  refine jn1 (jn0 ⟨fun q => ?_, fun q => ⟨fun q2 => ?_, fun q2 => ?_⟩⟩)
  · rw [ltT, t_0] at q; exact no (fun z => by omega)
  · rw [leT, t_8] at q2; exact no (fun z => by omega)
  · rw [ltT, t_0] at q; rw [leT, t_8] at q2
    refine ⟨vin (by omega) (by omega), fun o5 e5 => ?_⟩
    rw [e5, cl_T, hR.g1 _ (by omega)]
    by_cases z : dTr C a.toInt
    · rw [if_pos z] at h; rw [if_pos (by unfold nT; omega)]; exact h
    · rw [if_neg (by unfold nT; omega)]; exact no z
theorem k_unitAt {L : List Nat} {σ : Mm} {C : Cr} (hI : Inv C) (hR : Rel L σ C) {a : Int32} {Q : Option Nat → Mm → Prop} (h : Q (if dUn C a.toInt then some (100 + 8 * a.toInt.toNat) else none) σ) : wp_X6_unitAt L σ a Q := by
  have ht := hI.nu
  have no : ¬ dUn C a.toInt → Q none σ := fun z => by rwa [if_neg z] at h
  refine jn1 (jn0 ⟨fun q => ?_, fun q => ⟨fun q2 => ?_, fun q2 => ?_⟩⟩)
  · rw [ltT, t_0] at q; exact no (fun z => by omega)
  · rw [leT, t_3] at q2; exact no (fun z => by omega)
  · rw [ltT, t_0] at q; rw [leT, t_3] at q2
    refine ⟨vin (by omega) (by omega), fun o5 e5 => ?_⟩
    rw [e5, cl_T, hR.g4 _ (by omega)]
    by_cases z : dUn C a.toInt
    · rw [if_pos z] at h; rw [if_pos (by unfold nU; omega)]; exact h
    · rw [if_neg (by unfold nU; omega)]; exact no z
theorem k_wellAt {L : List Nat} {σ : Mm} {C : Cr} (hI : Inv C) (hR : Rel L σ C) {a : Int32} {Q : Option Nat → Mm → Prop} (h : Q (if 0 ≤ a.toInt ∧ a.toInt < C 200 20 then some (130 + 4 * a.toInt.toNat) else none) σ) : wp_X6_wellAt L σ a Q := by
  have ht := hI.nw
  have no : ¬ (0 ≤ a.toInt ∧ a.toInt < C 200 20) → Q none σ := fun z => by rwa [if_neg z] at h
  refine jn1 (jn0 ⟨fun q => ?_, fun q => ⟨fun q2 => ?_, fun q2 => ?_⟩⟩)
  · rw [ltT, t_0] at q; exact no (fun z => by omega)
  · rw [leT, t_6] at q2; exact no (fun z => by omega)
  · rw [ltT, t_0] at q; rw [leT, t_6] at q2
    refine ⟨vin (by omega) (by omega), fun o5 e5 => ?_⟩
    rw [e5, cl_T, hR.g5 _ (by omega)]
    by_cases z : 0 ≤ a.toInt ∧ a.toInt < C 200 20
    · rw [if_pos z] at h; rw [if_pos (by unfold nW; omega)]; exact h
    · rw [if_neg (by unfold nW; omega)]; exact no z
theorem k_taxIn {L : List Nat} {σ : Mm} {C : Cr} (hR : Rel L σ C) {a : Int32} (h1 : -1 ≤ a.toInt) (h2 : a.toInt < 61) {Q : Int32 → Mm → Prop} (h : Q (iZ (txn C (a.toInt + 1).toNat)) σ) : wp_X6_taxIn L σ a Q := by
  refine lpw_inv (fun i (x : Int32) => x.toInt = a.toInt - i ∧ txn C (a.toInt + 1 - i).toNat = txn C (a.toInt + 1).toNat) ((a.toInt + 1).toNat) ⟨by omega, by rw [show a.toInt + 1 - ((0 : Nat) : Int) = a.toInt + 1 from by omega]⟩ ?_
  intro i x rec hi hs hrec
  obtain ⟨e1, e2⟩ := hs
  refine ⟨fun q => ?_, fun q => ?_⟩
  · rw [ltT, t_0] at q
    rw [← e2, show (a.toInt + 1 - (i : Int)).toNat = 0 from by omega] at h
    exact h
  · rw [ltT, t_0] at q
    have g := hR.tx x.toInt.toNat (by omega)
    have et : txn C (a.toInt + 1 - i).toNat = if C 220 x.toInt.toNat = -1 then txn C x.toInt.toNat else C 220 x.toInt.toNat := by
      rw [show (a.toInt + 1 - (i : Int)).toNat = x.toInt.toNat + 1 from by omega]; rfl
    rw [cl_T]
    refine ⟨vin (by omega) (by omega), fun z x5 e5 => ?_, fun z => ⟨vin (by omega) (by omega), ?_⟩⟩
    · rw [eqT, g, t_m1] at z
      refine hrec (by omega) x5 ⟨?_, ?_⟩
      · rw [e5, ad32 (by rw [t_m1]; omega) (by rw [t_m1]; omega), t_m1]; omega
      · rw [← e2, et, if_pos z, show (a.toInt + 1 - ((i + 1 : Nat) : Int)).toNat = x.toInt.toNat from by omega]
    · rw [eqT, g, t_m1] at z
      rw [← e2, et, if_neg z, ← g, iZ_toInt] at h
      exact h
