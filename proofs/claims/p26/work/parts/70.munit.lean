/-! PURE: the model's unit -/
abbrev dUn1 (C : Cr) (a : Int32) : Prop := 1 ≤ a.toInt ∧ a.toInt < (2 ^ nT C : Nat)
abbrev dUn2 (C : Cr) (a : Int32) : Prop := C 200 18 < 3 ∧ ∀ t : Nat, t < nT C → (bt a t = true → C 203 t = -1)
def uT (C : Cr) (a : Int32) (n : Nat) : Cr := fun k j => if k = 203 ∧ j < n ∧ bt a j = true then C 200 18 else C k j
def uUnit (C : Cr) (a : Int32) : Cr := u2 (u2 (uT C a (nT C)) 215 (nU C) (C 200 0)) 200 18 (C 200 18 + 1)
theorem uT_o {C : Cr} {a : Int32} {n k j : Nat} (h : k ≠ 203) : uT C a n k j = C k j := if_neg (fun z => h z.1)
theorem bit_0 {a : Int32} {i : Nat} (h : i < 32) : (((a >>> (iZ (i : Int) &&& 31)) &&& 1) = 0) ↔ ¬ bt a i = true := by
  rw [hb_1 a h]
  by_cases q : bt a i = true
  · rw [if_pos q]; exact ⟨fun z => absurd z (by decide), fun z => absurd q z⟩
  · rw [if_neg q]; exact ⟨fun _ => q, fun _ => rfl⟩
theorem bit_1 {a : Int32} {i : Nat} (h : i < 32) : (((a >>> (iZ (i : Int) &&& 31)) &&& 1) = 1) ↔ bt a i = true := by
  rw [hb_1 a h]
  by_cases q : bt a i = true
  · rw [if_pos q]; exact ⟨fun _ => q, fun _ => rfl⟩
  · rw [if_neg q]; exact ⟨fun z => absurd z (by decide), fun z => absurd z q⟩
theorem M_unit {τ : Mm} {C : Cr} (hc : core τ = C) (hI : Inv C) {a1 : Int32} {Q : Int32 → Mm → Prop}
    (hn : ¬ (dUn1 C a1 ∧ dUn2 C a1 ∧ True) → ∀ τ', core τ' = C → gI τ' 200 39 = rf (dUn1 C a1) (dUn2 C a1) True → Q 0 τ')
    (hy : dUn1 C a1 → dUn2 C a1 → ∀ τ' x, core τ' = uUnit C a1 → gI τ' 200 39 = 0 → x.toInt = C 200 18 → Q x τ') : wp_X7_unit τ a1 Q := by
  have ht := hI.nt
  have hu := hI.nu
  have hw := hI.now
  have g1 : (gI τ 200 1).toInt = C 200 1 := c0 hc (by decide)
  have g18 : (gI τ 200 18).toInt = C 200 18 := c0 hc (by decide)
  have hnT : ((nT C : Nat) : Int) = C 200 1 := by unfold nT; omega
  have e1 : gI τ 200 1 = iZ (nT C : Int) := by rw [← iZ_toInt (gI τ 200 1), g1, hnT]
  have key : ∀ x1 x3 : Int32, x1 = bz (dUn1 C a1) → x3 = bz (dUn1 C a1 ∧ C 200 18 < 3) → (∃ n : Nat, lpw (S := Int32 × Int32) (fun (R7 : Int32 × Int32 → Prop) (s8 : Int32 × Int32) => match s8 with | (x5, x6) => (∃ J9 : Prop, (J9 → wp_X7_goes τ x1 x5 1 (fun (x11 : Int32) (σ10 : Mm) => ((¬ x11 = 0 → (∃ n : Nat, lpw (S := Mm × Int32) (fun (R14 : Mm × Int32 → Prop) (s15 : Mm × Int32) => match s15 with | (σ12, x13) => (((gI σ12 200 1) ≤ x13 → vp_in (gI σ12 200 18) 3 ∧ ∀ σ17 : Mm, σ17 = sI σ12 215 (gI σ12 200 18).toNatClampNeg (gI σ12 200 0) → ∀ σ18 : Mm, σ18 = sI σ17 200 18 ((gI σ17 200 18) + 1) → Q ((gI σ18 200 18) - 1) σ18) ∧ (¬ ((gI σ12 200 1) ≤ x13) → (∃ J20 : Int32 → Prop, (∀ (x19 : Int32), J20 x19 → vp_in x13 8 ∧ ∀ σ22 : Mm, σ22 = sI σ12 203 x13.toNatClampNeg x19 → ∀ x23 : Int32, x23 = x13 + 1 → R14 (σ22, x23)) ∧ ((¬ ((a1 >>> (x13 &&& 31)) &&& 1) = 1 → vp_in x13 8 ∧ J20 (gI σ12 203 x13.toNatClampNeg)) ∧ (¬ (¬ ((a1 >>> (x13 &&& 31)) &&& 1) = 1) → J20 (gI σ12 200 18))))))) n (σ10, 0))) ∧ (¬ (¬ x11 = 0) → Q 0 σ10)))) ∧ (((gI τ 200 1) ≤ x6 → J9) ∧ (¬ ((gI τ 200 1) ≤ x6) → ((x5 = 0 → J9) ∧ (¬ (x5 = 0) → (∃ J26 : Int32 → Prop, (∀ (x25 : Int32), J26 x25 → ∀ x27 : Int32, x27 = x6 + 1 → R7 (x25, x27)) ∧ (∃ J28 : Prop, (J28 → J26 1) ∧ ((((a1 >>> (x6 &&& 31)) &&& 1) = 0 → J28) ∧ (¬ (((a1 >>> (x6 &&& 31)) &&& 1) = 0) → vp_in x6 8 ∧ ((¬ (gI τ 203 x6.toNatClampNeg) = (-1) → J26 0) ∧ (¬ (¬ (gI τ 203 x6.toNatClampNeg) = (-1)) → J28)))))))))))) n (x3, 0)) := by
    intro x1 x3 hx1 hx3
    refine lpw_f (fun i => (bz ((dUn1 C a1 ∧ C 200 18 < 3) ∧ ∀ t : Nat, t < i → (bt a1 t = true → C 203 t = -1)), iZ (i : Int))) (nT C) ?_ ?_
    · have z : ∀ n : Nat, n = 0 → x3 = bz ((dUn1 C a1 ∧ C 200 18 < 3) ∧ ∀ t : Nat, t < n → (bt a1 t = true → C 203 t = -1)) := fun n hn => by
        rw [hx3]
        exact bz_cong ⟨fun k => ⟨k, fun t ht => by omega⟩, fun k => k.1⟩
      exact Prod.ext (z 0 rfl) rfl
    · intro i rec hi hrec
      have ti1 : (iZ (i : Int)).toInt = i := n_iZ (by omega)
      have ni : (iZ (i : Int)).toNatClampNeg = i := nat_iZ (by omega)
      refine jn0 ?_
      have fin : (i = nT C ∨ ¬ ((dUn1 C a1 ∧ C 200 18 < 3) ∧ ∀ t : Nat, t < i → (bt a1 t = true → C 203 t = -1))) → wp_X7_goes τ x1 (bz ((dUn1 C a1 ∧ C 200 18 < 3) ∧ ∀ t : Nat, t < i → (bt a1 t = true → C 203 t = -1))) 1 (fun (x11 : Int32) (σ10 : Mm) => ((¬ x11 = 0 → (∃ n : Nat, lpw (S := Mm × Int32) (fun (R14 : Mm × Int32 → Prop) (s15 : Mm × Int32) => match s15 with | (σ12, x13) => (((gI σ12 200 1) ≤ x13 → vp_in (gI σ12 200 18) 3 ∧ ∀ σ17 : Mm, σ17 = sI σ12 215 (gI σ12 200 18).toNatClampNeg (gI σ12 200 0) → ∀ σ18 : Mm, σ18 = sI σ17 200 18 ((gI σ17 200 18) + 1) → Q ((gI σ18 200 18) - 1) σ18) ∧ (¬ ((gI σ12 200 1) ≤ x13) → (∃ J20 : Int32 → Prop, (∀ (x19 : Int32), J20 x19 → vp_in x13 8 ∧ ∀ σ22 : Mm, σ22 = sI σ12 203 x13.toNatClampNeg x19 → ∀ x23 : Int32, x23 = x13 + 1 → R14 (σ22, x23)) ∧ ((¬ ((a1 >>> (x13 &&& 31)) &&& 1) = 1 → vp_in x13 8 ∧ J20 (gI σ12 203 x13.toNatClampNeg)) ∧ (¬ (¬ ((a1 >>> (x13 &&& 31)) &&& 1) = 1) → J20 (gI σ12 200 18))))))) n (σ10, 0))) ∧ (¬ (¬ x11 = 0) → Q 0 σ10))) := by
        intro hor
        refine m_goesD (d1 := dUn1 C a1) (d2 := dUn2 C a1) (d3 := True) hx1 rfl bz1 (fun k => ⟨fun z => ?_, fun z => ⟨⟨k, z.1⟩, fun t h => z.2 t (by omega)⟩⟩) (fun _ _ => Iff.rfl) (fun q σ' k1 k2 => ?_) (fun q1 q2 _ σ' k1 k2 => ?_)
        · rcases hor with e | e
          · subst e; exact ⟨z.1.2, z.2⟩
          · exact absurd z e
        · exact br_n (fun z => z rfl) (hn q σ' (k1.trans hc) k2)
        · have k1 := k1.trans hc
          refine br_y (by decide) ?_
          refine lpw_inv (fun i (s : Mm × Int32) => core s.1 = uT C a1 i ∧ gI s.1 200 39 = 0 ∧ s.2 = iZ (i : Int)) (nT C) ⟨?_, k2, rfl⟩ ?_
          · show core σ' = uT C a1 0
            rw [k1]
            funext k j
            exact (if_neg (fun z => by have := z.2.1; omega)).symm
          · intro i s rec hi hs hrec
            obtain ⟨σ12, x13⟩ := s
            obtain ⟨d1, d2, d3⟩ := hs
            dsimp only at d1 d2 d3
            subst d3
            have ti1 : (iZ (i : Int)).toInt = i := n_iZ (by omega)
            have ni : (iZ (i : Int)).toNatClampNeg = i := nat_iZ (by omega)
            have b1 : (gI σ12 200 1).toInt = C 200 1 := (c0 d1 (by decide)).trans (uT_o (by decide))
            have b18 : (gI σ12 200 18).toInt = C 200 18 := (c0 d1 (by decide)).trans (uT_o (by decide))
            have b0 : (gI σ12 200 0).toInt = C 200 0 := (c0 d1 (by decide)).trans (uT_o (by decide))
            refine ⟨fun q => ?_, fun q => ?_⟩
            · rw [leT, b1, ti1] at q
              have e : i = nT C := by omega
              subst e
              have h18 : C 200 18 < 3 := q2.1
              have u18 : uT C a1 (nT C) 200 18 = C 200 18 := uT_o (by decide)
              refine stI d1 d2 (k := 215) (c := 18) (by decide) (by decide) (by rw [u18]; exact hu.1) (by rw [u18]; exact h18) (by decide) (fun s1 c1 t1 => ?_) rfl
              rw [u18, b0] at c1
              have v18 : u2 (uT C a1 (nT C)) 215 (C 200 18).toNat (C 200 0) 200 18 = C 200 18 := u18
              refine stC c1 t1 (by decide) (by rw [v18]; exact hu.1) (by rw [v18]; omega) (fun s2 c2 t2 g2 => ?_)
              rw [v18] at c2 g2
              exact hy q1 q2 s2 _ c2 t2 (by rw [m_cnt (C := C) g2 (by omega) (by omega)]; omega)
            · rw [leT, b1, ti1] at q
              have hlt : i < nT C := by omega
              have hrec := hrec hlt
              have v : vp_in (iZ (i : Int)) 8 := vin (by omega) (by omega)
              rw [ni]
              refine jn1 ?_
              rw [bit_1 (by omega)]
              have fin : ∀ x19 : Int32, x19.toInt = uT C a1 (i + 1) 203 i → vp_in (iZ (i : Int)) 8 ∧ ∀ σ22 : Mm, σ22 = sI σ12 203 i x19 → ∀ x23 : Int32, x23 = iZ (i : Int) + 1 → rec (σ22, x23) := fun x19 h19 => ⟨v, fun σ22 h22 x23 h23 => hrec _ ⟨by
                show core σ22 = _
                rw [h22, cs_I d1 (by omega) (by omega) (Or.inl (by omega)), h19]
                funext k j
                unfold u2
                by_cases z : k = 203 ∧ j = i
                · rw [if_pos z, z.1, z.2]
                · rw [if_neg z]
                  unfold uT
                  by_cases y : k = 203 ∧ j < i ∧ bt a1 j = true
                  · rw [if_pos y, if_pos ⟨y.1, by omega, y.2.2⟩]
                  · rw [if_neg y, if_neg (fun w => y ⟨w.1, by omega, w.2.2⟩)], by
                show gI σ22 200 39 = 0
                rw [h22]; exact th_I d2 (Or.inl (by omega)), by
                show x23 = _
                rw [h23, iZ_s]⟩⟩
              refine ⟨fun z => ⟨v, fin _ ?_⟩, fun z => fin _ ?_⟩
              · rw [cK d1 (by decide)]
                unfold uT
                rw [if_neg (fun w => by omega), if_neg (fun w => z w.2.2)]
              · have z := Decidable.not_not.mp z
                rw [b18]
                unfold uT
                rw [if_pos ⟨rfl, by omega, z⟩]
      refine ⟨fun q => ?_, fun q => ⟨fun q2 => ?_, fun q2 => jn1 (jn0 ?_)⟩⟩
      · rw [leT, g1, ti1] at q
        exact fin (Or.inl (by omega))
      · rw [bz_0] at q2
        exact fin (Or.inr q2)
      · have q2 := (bz_n _).mp q2
        rw [leT, g1, ti1] at q
        have hlt : i < nT C := by omega
        have hrec := hrec hlt
        have g203 : (gI τ 203 i).toInt = C 203 i := cK hc (by decide)
        rw [ni, bit_0 (by omega)]
        have fin2 : ∀ x : Int32, x = bz (bt a1 i = true → C 203 i = -1) → ∀ x7 : Int32, x7 = iZ (i : Int) + 1 → rec (x, x7) := fun x hx x7 h7 => hrec _ (by
          rw [h7, iZ_s, hx]
          congr 1
          refine bz_cong ⟨fun z => ⟨q2.1, fun t ht => ?_⟩, fun z => z.2 i (by omega)⟩
          rcases Nat.lt_or_ge t i with y | y
          · exact q2.2 t y
          · have e : t = i := by omega
            subst e; exact z)
        refine ⟨fun z => ?_, fun z => ⟨vin (by omega) (by omega), fun y => ?_, fun y => ?_⟩⟩
        · exact fin2 1 (bz_y (fun w => absurd w z)).symm
        · have z := Decidable.not_not.mp z
          rw [eqT, g203, t_m1] at y
          exact fin2 0 (bz_no (fun w => y (w z))).symm
        · rw [eqT, g203, t_m1, Decidable.not_not] at y
          exact fin2 1 (bz_y (fun _ => y)).symm
  have key2 : ∀ x1 : Int32, x1 = bz (dUn1 C a1) → ∃ J4 : Int32 → Prop, (∀ (x3 : Int32), J4 x3 → x3 = bz (dUn1 C a1 ∧ C 200 18 < 3)) ∧ (∃ J30 : Prop, (J30 → J4 0) ∧ ((x1 = 0 → J30) ∧ (¬ (x1 = 0) → ((3 ≤ (gI τ 200 18) → J30) ∧ (¬ (3 ≤ (gI τ 200 18)) → J4 1))))) := by
    intro x1 hx1
    subst hx1
    refine jn1 (jn0 ⟨fun q => ?_, fun q => ⟨fun q2 => ?_, fun q2 => ?_⟩⟩)
    · rw [bz_0] at q; exact (bz_no (fun z => q z.1)).symm
    · rw [leT, g18, t_3] at q2; exact (bz_no (fun z => by have := z.2; omega)).symm
    · rw [leT, g18, t_3] at q2; exact (bz_y ⟨(bz_n _).mp q, by omega⟩).symm
  unfold wp_X7_unit
  refine ⟨fun x1 => x1 = bz (dUn1 C a1), fun x1 hx1 => ?_, ?_⟩
  · obtain ⟨J4, hJ, h30⟩ := key2 x1 hx1
    exact ⟨J4, fun x3 h3 => key x1 x3 hx1 (hJ x3 h3), h30⟩
  · have sh := sh_T a1 (t := nT C) (by omega)
    rw [e1]
    have hp : 0 < (2 ^ nT C : Nat) := Nat.two_pow_pos _
    have iff : 1 ≤ a1.toInt → ((a1 >>> (iZ (nT C : Int) &&& 31)) = 0 ↔ a1.toInt < (2 ^ nT C : Nat)) := fun h => by
      rw [eqT, sh, t_0]
      constructor
      · intro z
        have := Int.lt_ediv_add_one_mul_self a1.toInt (b := ((2 ^ nT C : Nat) : Int)) (by omega)
        rw [z] at this
        omega
      · intro z
        exact Int.ediv_eq_zero_of_lt (by omega) z
    refine jn0 ⟨fun q => ?_, fun q => ⟨fun q2 => ?_, fun q2 => ?_⟩⟩
    · rw [ltT, t_1] at q; exact (bz_no (fun z => by omega)).symm
    · rw [ltT, t_1] at q
      rw [iff (by omega)] at q2
      exact (bz_no (fun z => q2 z.2)).symm
    · rw [ltT, t_1] at q
      rw [iff (by omega), Decidable.not_not] at q2
      exact (bz_y ⟨by omega, q2⟩).symm
