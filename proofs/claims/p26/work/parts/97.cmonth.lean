/-! PURE: the class settles a month of a unit -/
theorem pt_z {w : Nat → Int} {n : Nat} (hn : 1 ≤ n) (h0 : ∀ i : Nat, i < n → 0 ≤ w i) (hs : 0 < sm w n) {i : Nat} (hi : i < n) : pt 0 w n i = 0 := by
  have h := sm_part (f := pt 0 w n) (fun k hk => pt_nn (by omega) h0 hs hk) hi
  rw [pt_all hn hs] at h
  have := pt_nn (a := 0) (by omega) h0 hs hi
  omega
theorem mo_0 {C : Cr} (hI : Inv C) {u m : Nat} (hu : u < nU C) (hg : gs C u m = 0) (hc : co C u m = 0) {b : Nat → Int} (hb : ∀ o : Nat, o < 10 → 0 ≤ b o) {o : Nat} (ho : o < 10) : ds C u m b o = 0 ∧ b2 C u m b o = b o := by
  have W1 := w1_rg hI hu m
  have W2 := w2_rg hI hu m b
  have DK := dk_all hI hu m
  have er : rv C u m = 0 := by unfold rv; rw [hg, Int.zero_mul]; rfl
  have e3 : ∀ j, j < 20 → p3 C u m j = 0 := fun j hj => by unfold p3; rw [er]; exact pt_z (by decide) (fun i _ => dk_nn hI u m i) DK.1 hj
  have eb : ∀ o, o < 10 → b1 C u m b o = b o := fun o ho => by
    unfold b1
    rw [hc, pt_z (by decide) (fun i _ => W1.1 i) W1.2.1 ho, Int.zero_mul]
    split <;> omega
  have eo : ∀ o, o < 10 → of C u m b o = 0 := fun o ho => by
    unfold of
    rw [e3 (10 + o) (by omega), eb o ho]
    have := hb o ho
    split
    · split <;> omega
    · rfl
  have es : sm (of C u m b) 10 = 0 := sm_zero eo
  constructor
  · unfold ds
    rw [hc, es, pt_z (by decide) (fun i _ => W2.1 i) W2.2.1 ho, e3 o (by omega), e3 (10 + o) (by omega), eo o ho]
    rfl
  · unfold b2
    rw [eb o ho, eo o ho, Int.sub_zero]
theorem k_settleMonth {L : List Nat} {σ : Mm} {C : Cr} (hI : Inv C) (hR : Rel L σ C) {u m : Nat} (hu : u < nU C) {a2 : Int32} (h1 : a2.toInt = m) (h2 : (m : Int) ≤ C 200 0) (hm : um C u ≤ m) (hs : (gI σ 0 16).toInt ≤ m) (hb : um C u < m → ∀ o : Nat, o < 10 → gJ σ (100 + 8 * u + 6) (10 * m + o - 10) = lZ (bl C u (m - um C u) o)) {Q : Mm → Prop}
    (h : ∀ σ', kr u m σ σ' → (∀ o : Nat, o < 10 → gJ σ' (100 + 8 * u + 5) (10 * m + o) = lZ (du C u m o) ∧ gJ σ' (100 + 8 * u + 6) (10 * m + o) = lZ (bl C u (m - um C u + 1) o)) → Q σ') : wp_X6_settleMonth L σ (some (100 + 8 * u)) a2 Q := by
  have hn := hI.now
  have h61 : m < 61 := by omega
  have hu3 := nU3 hI hu
  have k := kd_u2 u hu3
  have l3 : LV (Fc ++ L) (100 + 8 * u + 3) 8 := ⟨inF hR (al_u hu (by decide)), k.1.2.2.1⟩
  have l4 : LV (Fc ++ L) (100 + 8 * u + 4) 8 := ⟨inF hR (al_u hu (by decide)), k.1.2.2.2.1⟩
  have nm : a2.toNatClampNeg = m := by rw [cl_T, h1]; exact Int.toNat_natCast _
  have v3 : vp_in a2 (ln (100 + 8 * u + 3)) := by rw [k.2.2.2.1]; exact vin (by omega) (by omega)
  have v4 : vp_in a2 (ln (100 + 8 * u + 4)) := by rw [k.2.2.2.2.1]; exact vin (by omega) (by omega)
  have hbr : ∀ o : Nat, o < 10 → 0 ≤ bl C u (m - um C u) o ∧ bl C u (m - um C u) o ≤ 1000000000000000 := fun o ho => by
    have := bl_rg hI hu (m - um C u) (by omega) o ho
    omega
  have eD : ∀ o, du C u m o = ds C u m (bl C u (m - um C u)) o := fun o => rfl
  have eB : ∀ o, bl C u (m - um C u + 1) o = b2 C u m (bl C u (m - um C u)) o := fun o => by
    show b2 C u (um C u + (m - um C u)) (bl C u (m - um C u)) o = _
    rw [show um C u + (m - um C u) = m from by omega]
  refine ⟨100 + 8 * u, rfl, lv_u hI hR hu, k_openMonth hI hR hu h1 h61 (fun σ4 k4 U4 B4 => ?_)⟩
  have r4 : kr u m σ σ4 := by
    refine ⟨fun k hk hn => kqI k4 (nm2 (fun z => hn (Or.inl z)) (fun z => hn (Or.inr z))), k4.2, fun k j hk hj => ?_⟩
    by_cases e5 : k = 100 + 8 * u + 5
    · rw [e5, U4, if_neg (fun z => hj ⟨Or.inl e5, by omega, by omega⟩)]
    · by_cases e6 : k = 100 + 8 * u + 6
      · rw [e6, B4, if_neg (fun z => hj ⟨Or.inr e6, by omega, by omega⟩)]
      · rw [kqJ k4 (nm2 e5 e6)]
  have R4 := Rel_kr hI hu r4 hs hR
  have set4 : (gI σ4 0 16).toInt ≤ m := by rw [r4.1 0 (sk_lo (by omega)) (fun z => by omega)]; exact hs
  have U4 : ∀ o : Nat, o < 10 → gJ σ4 (100 + 8 * u + 5) (10 * m + o) = lZ 0 := fun o ho => by rw [U4, if_pos ⟨by omega, by omega⟩]
  have B4 : ∀ o : Nat, o < 10 → gJ σ4 (100 + 8 * u + 6) (10 * m + o) = lZ (bl C u (m - um C u) o) := fun o ho => by
    rw [B4, if_pos ⟨by omega, by omega⟩]
    by_cases z : m ≤ um C u
    · rw [if_pos z, show m - um C u = 0 from by omega]; rfl
    · rw [if_neg z]; exact hb (by omega) o ho
  have g3 := ((R4.un u hu).2 m h61).2.2.1
  have g4 := ((R4.un u hu).2 m h61).2.2.2
  have all : wp_X6_layDeck L σ4 (some (100 + 8 * u)) a2 (fun (σ8 : Mm) => wp_X6_carriedOwners L σ8 (some (100 + 8 * u)) a2 (fun (x10 : Int32) (σ9 : Mm) => wp_X6_bookCosts L σ9 (some (100 + 8 * u)) a2 x10 (fun (σ11 : Mm) => wp_X6_bookRevenue L σ11 (some (100 + 8 * u)) a2 x10 (fun (σ12 : Mm) => Q σ12)))) := by
    refine k_layDeck hI R4 hu h1 h2 (fun σ8 k8 D8 => ?_)
    have r8 : kr u m σ4 σ8 := kr_kq k8 (by decide)
    have R8 := Rel_kr hI hu r8 set4 R4
    have set8 : (gI σ8 0 16).toInt ≤ m := by rw [r8.1 0 (sk_lo (by omega)) (fun z => by omega)]; exact set4
    have B8 : ∀ o : Nat, o < 10 → gJ σ8 (100 + 8 * u + 6) (10 * m + o) = lZ (bl C u (m - um C u) o) := fun o ho => by rw [kqJ k8 (nk (by omega) (by decide))]; exact B4 o ho
    have U8 : ∀ o : Nat, o < 10 → gJ σ8 (100 + 8 * u + 5) (10 * m + o) = lZ 0 := fun o ho => by rw [kqJ k8 (nk (by omega) (by decide))]; exact U4 o ho
    have DT := dk_top hI u m
    refine k_carried (N := 10) hI R8 rfl hu h1 h61 D8 (fun j hj => ⟨dk_nn hI u m j, ?_⟩) B8 (fun o ho => by have := hbr o ho; omega) (fun x10 hx => ?_)
    · have := sm_part (f := dk C u m) (n := 20) (fun k _ => dk_nn hI u m k) hj
      omega
    refine k_bookCosts hI R8 hu h1 h61 set8 D8 hx B8 U8 (fun σ11 r11 D11 B11 U11 => ?_)
    have R11 := Rel_kr hI hu r11 set8 R8
    have set11 : (gI σ11 0 16).toInt ≤ m := by rw [r11.1 0 (sk_lo (by omega)) (fun z => by omega)]; exact set8
    refine k_bookRevenue hI R11 hu h1 h61 set11 hbr D11 hx B11 U11 (fun σ12 r12 B12 U12 => ?_)
    exact h σ12 (kr_tr r4 (kr_tr r8 (kr_tr r11 r12))) (fun o ho => ⟨by rw [eD]; exact U12 o ho, by rw [eB]; exact B12 o ho⟩)
  refine ⟨l3, v3, jn0 ⟨fun _ => all, fun z => ⟨l4, v4, fun _ => all, fun z2 => ?_⟩⟩⟩
  rw [Decidable.not_not, nm, eqT, g3, t_0] at z
  rw [Decidable.not_not, nm, eqT, g4, t_0] at z2
  refine h σ4 r4 (fun o ho => ?_)
  have e0 := mo_0 hI hu z z2 (b := bl C u (m - um C u)) (fun o ho => (hbr o ho).1) ho
  rw [eD, eB, e0.1, e0.2]
  exact ⟨U4 o ho, B4 o ho⟩
