/-! PURE: what the class owes, once all is settled -/
theorem k_settledOwed {L : List Nat} {σ : Mm} {C : Cr} (hI : Inv C) (hR : Rel L σ C) (hset : (gI σ 0 16).toInt = C 200 0 + 1) {o : Nat} (ho : o < 10) {a1 : Int32} (h1 : a1.toInt = o) {Q : Int64 → Mm → Prop} (h : Q (lZ (ow C o)) σ) : wp_X6_settledOwed L σ a1 Q := by
  have hn := hI.now
  have hu := hI.nu
  have hnU : ((nU C : Nat) : Int) = C 200 18 := by unfold nU; omega
  have hnN : ((nN C : Nat) : Int) = C 200 0 := by unfold nN; omega
  have na : a1.toNatClampNeg = o := by rw [cl_T, h1]; exact Int.toNat_natCast _
  refine ⟨vin (by omega) (by omega), fun y2 e2 => ?_⟩
  rw [na, hR.pd o ho, lZ_neg] at e2
  subst e2
  have last : sm (fun u => if u < nU C then sm (fun j => du C u (um C u + j) o) (nN C + 1 - um C u) else 0) 3 = sm (fun u => sm (fun j => du C u (um C u + j) o) (nN C + 1 - um C u)) (nU C) := by
    have s := sm_split (f := fun u => if u < nU C then sm (fun j => du C u (um C u + j) o) (nN C + 1 - um C u) else 0) (nU C) (3 - nU C)
    rw [show nU C + (3 - nU C) = 3 from by omega] at s
    rw [s, sm_zero (f := fun i => if nU C + i < nU C then sm (fun j => du C (nU C + i) (um C (nU C + i) + j) o) (nN C + 1 - um C (nU C + i)) else 0) (fun i _ => if_neg (by omega)), Int.add_zero]
    exact sm_cong (fun u hu => if_pos hu)
  refine lpw_f (fun i => (lZ (-C 223 o + sm (fun u => if u < nU C then sm (fun j => du C u (um C u + j) o) (nN C + 1 - um C u) else 0) i), iZ (i : Int))) 3 (by rw [sm_0, Int.add_zero]; rfl) ?_
  intro u rec hi hrec
  have ti1 : (iZ (u : Int)).toInt = u := n_iZ (by omega)
  have ni : (iZ (u : Int)).toNatClampNeg = u := nat_iZ (by omega)
  refine ⟨fun q => ?_, fun q => ⟨vin (by omega) (by rw [leT, t_3, ti1] at q; omega), fun o8 e8 => ?_⟩⟩
  · rw [leT, t_3, ti1] at q
    have e : u = 3 := by omega
    subst e
    show Q (lZ (-C 223 o + sm (fun u => if u < nU C then sm (fun j => du C u (um C u + j) o) (nN C + 1 - um C u) else 0) 3)) σ
    rw [last]
    exact h
  · rw [leT, t_3, ti1] at q
    have hrec := hrec (by omega)
    rw [ni, hR.g4 u (by omega)] at e8
    by_cases hlt : u < nU C
    · rw [if_pos hlt] at e8
      subst e8
      have hum := um_eq hI hlt
      have hun := hI.un u hlt
      have k := kd_u2 u (nU3 hI hlt)
      refine jn1 ⟨fun z => (by cases z), fun k9 e9 => ?_⟩
      cases e9
      refine ⟨lv_u hI hR hlt, fun x14 e14 => ?_⟩
      have e14 : x14 = iZ ((um C u + 0 : Nat) : Int) := by
        rw [e14, ← iZ_toInt (gI σ (100 + 8 * u) 0), (hR.un u hlt).1, ← hum]; rfl
      subst e14
      refine lpw_f (fun j => (lZ (-C 223 o + sm (fun u => if u < nU C then sm (fun j => du C u (um C u + j) o) (nN C + 1 - um C u) else 0) u + sm (fun j => du C u (um C u + j) o) j), iZ ((um C u + j : Nat) : Int))) (nN C + 1 - um C u) (by rw [sm_0, Int.add_zero]) ?_
      intro j rec2 hj hrec2
      have tj : (iZ ((um C u + j : Nat) : Int)).toInt = (um C u + j : Nat) := n_iZ (by omega)
      refine ⟨fun q2 => ?_, fun q2 => ?_⟩
      · rw [ltT, hR.now, tj] at q2
        have e : j = nN C + 1 - um C u := by omega
        subst e
        exact fun x12 h12 => hrec _ (by rw [h12, iZ_s, sm_s, if_pos hlt, Int.add_assoc])
      · rw [ltT, hR.now, tj] at q2
        have hrec2 := hrec2 (by omega)
        have ex : (iZ ((um C u + j : Nat) : Int) * 10 + a1).toInt = ((10 * (um C u + j) + o : Nat) : Int) := by
          have := row_ix (m := um C u + j) (i := o) tj (by omega) ho
          rw [← iZ_toInt a1, h1]
          exact this
        have nx : (iZ ((um C u + j : Nat) : Int) * 10 + a1).toNatClampNeg = 10 * (um C u + j) + o := by rw [cl_T, ex]; exact Int.toNat_natCast _
        have mo := (hR.mo u (um C u + j) hlt (by omega) (by omega) o ho).1
        rw [k.2.2.2.2.2.1, nx, mo]
        refine ⟨⟨inF hR (al_u hlt (by decide)), k.1.2.2.2.2.1⟩, vin (by omega) (by omega), fun y21 h21 x22 h22 => hrec2 _ ?_⟩
        rw [h21, h22, iZ_s, lZ_add, sm_s, Int.add_assoc]
        rfl
    · rw [if_neg hlt] at e8
      subst e8
      exact jn1 ⟨fun _ x12 h12 => hrec _ (by rw [h12, iZ_s, sm_s, if_neg hlt, Int.add_zero]), fun k9 z => (by cases z)⟩
