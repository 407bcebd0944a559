/-! PURE: the class's titles -/
theorem inF {L : List Nat} {σ : Mm} {C : Cr} (hR : Rel L σ C) {k : Nat} (h : al C k) : k ∈ Fc ++ L := List.mem_append_right _ ((hR.inL k).mpr h)
theorem kd_t : ∀ t : Nat, t < 8 → kd (20 + t) = 3 := by decide
theorem kd_d : ∀ t : Nat, t < 40 → kd (30 + t) = 0 := by decide
theorem kd_l : ∀ t : Nat, t < 16 → kd (70 + t) = 1 := by decide
theorem kd_u : ∀ t : Nat, t < 3 → kd (100 + 8 * t) = 4 := by decide
theorem kd_w : ∀ t : Nat, t < 6 → kd (130 + 4 * t) = 5 := by decide
theorem lv_t {L : List Nat} {σ : Mm} {C : Cr} (hI : Inv C) (hR : Rel L σ C) {t : Nat} (h : t < nT C) : LV (Fc ++ L) (20 + t) 3 := ⟨inF hR (Or.inl ⟨by omega, by omega⟩), kd_t t (by have := hI.nt; unfold nT at h; omega)⟩
theorem lv_d {L : List Nat} {σ : Mm} {C : Cr} (hI : Inv C) (hR : Rel L σ C) {t : Nat} (h : t < nD C) : LV (Fc ++ L) (30 + t) 0 := ⟨inF hR (Or.inr (Or.inl ⟨by omega, by omega⟩)), kd_d t (by have := hI.nd; unfold nD at h; omega)⟩
theorem lv_l {L : List Nat} {σ : Mm} {C : Cr} (hI : Inv C) (hR : Rel L σ C) {t : Nat} (h : t < nS C) : LV (Fc ++ L) (70 + t) 1 := ⟨inF hR (Or.inr (Or.inr (Or.inl ⟨by omega, by omega⟩))), kd_l t (by have := hI.ns; unfold nS at h; omega)⟩
theorem lv_u {L : List Nat} {σ : Mm} {C : Cr} (hI : Inv C) (hR : Rel L σ C) {t : Nat} (h : t < nU C) : LV (Fc ++ L) (100 + 8 * t) 4 := ⟨inF hR (Or.inr (Or.inr (Or.inr (Or.inl ⟨by omega, by omega, by omega⟩)))), kd_u t (by have := hI.nu; unfold nU at h; omega)⟩
theorem lv_w {L : List Nat} {σ : Mm} {C : Cr} (hI : Inv C) (hR : Rel L σ C) {t : Nat} (h : t < nW C) : LV (Fc ++ L) (130 + 4 * t) 5 := ⟨inF hR (Or.inr (Or.inr (Or.inr (Or.inr ⟨by omega, by omega⟩)))), kd_w t (by have := hI.nw; unfold nW at h; omega)⟩
theorem lo_some {F : List Nat} {k : Nat} (h : k ∈ F) : lO F (some k) := fun j e => by cases e; exact h
theorem k_titleOf {L : List Nat} {σ : Mm} {C : Cr} (hI : Inv C) (hR : Rel L σ C) {t : Nat} (ht : t < nT C) {a2 a3 : Int32} {Q : Int32 → Mm → Prop} (h : Q (iZ (ti C t a2.toInt a3.toInt)) σ) : wp_X6_titleOf L σ (some (20 + t)) a2 a3 Q := by
  have hd := hI.nd
  have hnD : ((nD C : Nat) : Int) = C 200 5 := by unfold nD; omega
  have r1 := (hR.tr t ht).2.1
  refine ⟨20 + t, rfl, lv_t hI hR ht, jbn ?_⟩
  refine lpw_f (fun i => (iZ (tiN C t a2.toInt a3.toInt i), iZ (i : Int))) (nD C) ?_ ?_
  · refine Prod.ext ?_ rfl
    show (if gI σ (20 + t) 1 = a2 then (10000 : Int32) else 0) = iZ (tiN C t a2.toInt a3.toInt 0)
    unfold tiN
    rw [sm_0, Int.add_zero]
    by_cases q : gI σ (20 + t) 1 = a2
    · rw [if_pos q, if_pos (by rw [← r1]; exact eqT.mp q)]; rfl
    · rw [if_neg q, if_neg (fun z => q (eqT.mpr (by rw [r1]; exact z)))]; rfl
  · intro i rec hi hrec
    have ti1 : (iZ (i : Int)).toInt = i := n_iZ (by omega)
    have ni : (iZ (i : Int)).toNatClampNeg = i := nat_iZ (by omega)
    have fin : i = nD C → Q (iZ (tiN C t a2.toInt a3.toInt i)) σ := fun e => by rw [e]; exact h
    refine jn0 ⟨fun q => ?_, fun q => ⟨vin (by omega) (by rw [leT, t_40, ti1] at q; omega), fun o12 e12 => ?_⟩⟩
    · rw [leT, t_40, ti1] at q
      exact fin (by omega)
    · rw [leT, t_40, ti1] at q
      rw [ni, hR.g2 i (by omega)] at e12
      by_cases hlt : i < nD C
      · rw [if_pos hlt] at e12
        subst e12
        refine ⟨fun z => (by cases z), fun k13 e13 => ?_⟩
        cases e13
        have hrec := hrec hlt
        obtain ⟨g0, g1, g2, g3, g4⟩ := hR.de i hlt
        have hde := (hI.de i hlt).1
        have g3' : gI σ (30 + i) 3 = iZ (C 207 i) := by rw [← g3, iZ_toInt]
        refine ⟨lv_d hI hR hlt, fun o15 e15 => ?_⟩
        rw [g0] at e15
        subst e15
        refine ⟨lo_some (inF hR (Or.inl ⟨by omega, by have : (C 204 i).toNat < nT C := by unfold nT; omega
                                                      omega⟩)), ?_⟩
        have step : ∀ z : Int, z = tiT C t a2.toInt a3.toInt i → (∀ x11 : Int32, x11 = iZ (i : Int) + 1 → rec (iZ (tiN C t a2.toInt a3.toInt i) + iZ z, x11)) := fun z hz x11 hx => by
          refine hrec _ ?_
          rw [hx, iZ_s, iZ_add, hz, tiN, tiN, sm_s, Int.add_assoc]
        have zero : ∀ x : Int32, x + iZ 0 = x := fun x => by rw [← iZ_toInt x, iZ_add, Int.add_zero]
        refine jn1 ⟨fun q2 => ?_, fun q2 => ⟨fun q3 => ?_, fun q3 => jbn ?_⟩⟩
        · have := step 0 (by unfold tiT; rw [if_neg (fun z => q2 (by congr 1; omega))])
          rwa [zero] at this
        · rw [ltT, g4] at q3
          have := step 0 (by unfold tiT; rw [if_neg (fun z => by omega)])
          rwa [zero] at this
        · have q2 := Option.some.inj (Decidable.not_not.mp q2)
          rw [ltT, g4] at q3
          intro x16 h16
          refine jbn ?_
          intro x20 h20
          have := step (tiT C t a2.toInt a3.toInt i) rfl
          have e2 : x20 = iZ (tiN C t a2.toInt a3.toInt i) + iZ (tiT C t a2.toInt a3.toInt i) := by
            have et : tiT C t a2.toInt a3.toInt i = (if C 206 i = a2.toInt then C 207 i else 0) - (if C 205 i = a2.toInt then C 207 i else 0) := if_pos ⟨by omega, by omega⟩
            rw [h20, h16, et, g3']
            have i1 : (if gI σ (30 + i) 2 = a2 then iZ (C 207 i) else 0) = iZ (if C 206 i = a2.toInt then C 207 i else 0) := by
              by_cases z : C 206 i = a2.toInt
              · rw [if_pos z, if_pos (eqT.mpr (by rw [g2, z]))]
              · rw [if_neg z, if_neg (fun y => z (by rw [← g2]; exact eqT.mp y))]; rfl
            have i2 : (if gI σ (30 + i) 1 = a2 then iZ (C 207 i) else 0) = iZ (if C 205 i = a2.toInt then C 207 i else 0) := by
              by_cases z : C 205 i = a2.toInt
              · rw [if_pos z, if_pos (eqT.mpr (by rw [g1, z]))]
              · rw [if_neg z, if_neg (fun y => z (by rw [← g1]; exact eqT.mp y))]; rfl
            rw [i1, i2, iZ_add, iZ_sub, iZ_add]
            congr 1
            omega
          rw [e2]
          exact this
      · rw [if_neg hlt] at e12
        subst e12
        exact ⟨fun _ => fin (by omega), fun k13 z => (by cases z)⟩
