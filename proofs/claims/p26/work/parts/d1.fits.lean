/-! PURE: the law's numbers; fits -/
theorem l_T {x : Int32} {v : Int} (h : x.toInt64 = lZ v) (h1 : -2147483648 ≤ v) (h2 : v < 2147483648) : x.toInt = v := by
  rw [i2l] at h
  have := rg32 x
  exact (lZ_inj (by omega) (by omega) (by omega) (by omega)).mp h
theorem l_E {x y : Int32} (h : x.toInt64 = lZ y.toInt) : x = y := by
  have r := rg32 y
  exact Int32.toInt_inj.mp (l_T h (by omega) (by omega))
theorem jr_rg {x y : Int32} (hx : 0 ≤ x.toInt) (hy : 0 < y.toInt) : 0 ≤ (jr x y).toInt ∧ (jr x y).toInt < y.toInt := by
  obtain ⟨a, ha, ea⟩ := nI_of (x := x) (by rw [ltT, t_0]; omega)
  obtain ⟨d, hd, ed⟩ := nI_of (x := y) (by rw [ltT, t_0]; omega)
  subst ea
  subst ed
  rw [nI_toInt hd] at hy ⊢
  have e : jr (nI a) (nI d) = nI (a % d) := pk_rem ha (by omega) hd
  have := Nat.mod_lt a (show 0 < d by omega)
  rw [e, nI_toInt (by omega)]
  omega
theorem jr_n {x y : Int32} {n : Int} (hx : 0 ≤ x.toInt) (hy : y.toInt = n) (hn : 0 < n) : 0 ≤ (jr x y).toInt ∧ (jr x y).toInt < n := by
  rw [← hy]
  exact jr_rg hx (by omega)
theorem dv_nn {x y : Int32} (hx : 0 ≤ x.toInt) (hy : 0 < y.toInt) : 0 ≤ (x / y).toInt := by
  obtain ⟨a, ha, ea⟩ := nI_of (x := x) (by rw [ltT, t_0]; omega)
  obtain ⟨d, hd, ed⟩ := nI_of (x := y) (by rw [ltT, t_0]; omega)
  subst ea
  subst ed
  rw [nI_toInt hd] at hy
  have := Nat.div_le_self a d
  rw [pk_div ha (by omega) hd, nI_toInt (by omega)]
  generalize a / d = q
  omega
theorem one_p {c x : Int32} {k n : Int} (hc : c.toInt = k) (hk : 0 ≤ k ∧ k ≤ 1000) (h : 0 ≤ x.toInt ∧ x.toInt < n) (hn : n ≤ 1000000) : k ≤ (c + x).toInt ∧ (c + x).toInt < k + n := by
  rw [ad32 (by omega) (by omega), hc]
  omega
theorem ow_n {x y : Int32} (hx : 0 ≤ x.toInt) (hy : y.toInt = 10) : dOw (jr x y).toInt := by
  have := jr_n hx hy (by decide)
  exact ⟨this.1, by omega⟩
theorem okn {J : Rh → Int32 → Prop} {ρ : Rh} {c : Prop} (hK : J ρ 1) (hc : ¬ c) : ∃ J9 : Rh → Int32 → Prop, (∀ (s : Rh) (v : Int32), J9 s v → J s v) ∧ ((c → J9 ρ 0) ∧ (¬ c → J9 ρ 1)) := ⟨J, fun _ _ h => h, fun z => absurd z hc, fun _ => hK⟩
theorem fits_ok {L : List Nat} {σ : Mm} {C : Cr} (hI : Inv C) (hR : Rel L σ C) {a1 a2 : Int32} (hu : isUM C a1.toInt a2.toInt) {Q : Int32 → Mm → List Nat → Prop} (hy : ∀ σ' L', Rel L' σ' C → Q 1 σ' L') : wp_L_fits L σ a1 a2 Q := by
  intro ρ hρ
  subst hρ
  obtain ⟨u1, u2, u3, u4⟩ := um_le hI hu
  have hnw := hI.now
  have hrv := rv_rg hI a1.toInt (m := a2.toInt.toNat) (by omega)
  have hto : ∀ k : Nat, k < 10 → (iZ (k : Int)).toInt = k := fun k hk => n_iZ (by omega)
  have hD : ∀ k : Nat, k < 10 → dUMO C a1.toInt a2.toInt (iZ (k : Int)).toInt := fun k hk => ⟨hu, by rw [hto k hk]; exact ⟨by omega, by omega⟩⟩
  have e1 : ((a1.toInt.toNat : Nat) : Int) = a1.toInt := by omega
  refine ⟨(show 0 + 1 ≤ 30 by decide), K_agrees hI hR (fun z => absurd hu z) (fun _ σ2 L2 x1 R2 o1 ρ5 h5 => ?_)⟩
  subst h5
  have ex1 : x1 = 1 := by
    rw [o1, du_sum hI u1, e1]
    exact bz_y rfl
  refine ⟨fun s v => Rel s.2.1 s.1 C ∧ s.2.2 = 2 ∧ v = 1, fun σ6 x7 h6 => ?_, fun _ => False, fun _ z => z.elim, fun z => absurd ex1 z, fun _ => ⟨(show 0 + 1 + 1 ≤ 30 by decide), K_revenue hI R2 (fun z => absurd hu z) (fun _ σ3 L3 x3 R3 o3 ρ7 h7 => ?_)⟩⟩
  rotate_left
  · subst h7
    have t3 : 0 ≤ x3.toInt := by
      have := l_E o3
      rw [this, toInt_iZ (by omega) (by omega)]
      omega
    exact ⟨fun z => absurd z (by rw [ltT, t_0]; omega), fun _ => ⟨R3, rfl, rfl⟩⟩
  obtain ⟨R6, w6, e6⟩ := h6
  subst e6
  refine lpw_inv (fun k (s : Rh × Int32 × Int32 × Int32) => Rel s.1.2.1 s.1.1 C ∧ s.1.2.2 ≤ 2 + 2 * k + (k + 3) / 4 ∧ s.2.1 = iZ (sm (fun o => dkp C a1.toInt.toNat a2.toInt.toNat o + dkp C a1.toInt.toNat a2.toInt.toNat (10 + o)) k) ∧ s.2.2.1 = 1 ∧ s.2.2.2 = iZ (k : Int)) 10 ⟨R6, by rw [w6]; omega, rfl, rfl, rfl⟩ ?_
  intro k s rec hk hs hrec
  obtain ⟨σ9, x10, x11, x12⟩ := s
  obtain ⟨R9, w9, e10, e11, e12⟩ := hs
  dsimp only at R9 w9 e10 e11 e12
  subst e10 e11 e12
  have ti1 : (iZ (k : Int)).toInt = k := n_iZ (by omega)
  refine ⟨fun s => Rel s.2.1 s.1 C ∧ s.2.2 ≤ 30 ∧ k = 10, fun σ15 h15 => ?_, fun q => ?_, fun q => ⟨fun z => absurd z (by decide), fun _ => ?_⟩⟩
  · obtain ⟨R15, w15, e15⟩ := h15
    subst e15
    refine ⟨fun s v => s = σ15 ∧ v = 1, fun s v h => ?_, fun _ => False, fun _ z => z.elim, fun z => absurd z (by decide), fun _ => ⟨fun z => absurd ?_ z, fun _ => ⟨rfl, rfl⟩⟩⟩
    · obtain ⟨rfl, rfl⟩ := h
      exact ⟨zb_1, w15, hy _ _ R15⟩
    · rw [dkp_two hI u1]
      rfl
  · rw [leT, ti1, t_10] at q
    exact ⟨R9, by omega, by omega⟩
  · rw [leT, ti1, t_10] at q
    have hrec := hrec (by omega)
    have rg1 := dkp_rg hI u1 a2.toInt.toNat (i := k) (by omega)
    have rg2 := dkp_rg hI u1 a2.toInt.toNat (i := 10 + k) (by omega)
    have tn : (iZ (k : Int)).toInt.toNat = k := by rw [ti1]; exact Int.toNat_natCast k
    refine ⟨by omega, K_interest hI R9 (fun z => absurd (hD k (by omega)) z) (fun _ σ2 L2 x22 R2 o2 ρ26 h26 => ?_)⟩
    subst h26
    have e22 := l_E o2
    rw [tn, if_neg (by decide)] at e22
    refine ⟨(show σ9.2.2 + 1 + 1 ≤ 30 by omega), K_interest hI R2 (fun z => absurd (hD k (by omega)) z) (fun _ σ3 L3 x27 R3 o3 ρ31 h31 => ?_)⟩
    subst h31
    have e27 := l_E o3
    rw [tn, if_pos rfl] at e27
    intro x32 h32
    have fin : ∀ s : Rh, Rel s.2.1 s.1 C → s.2.2 ≤ 2 + 2 * (k + 1) + (k + 1 + 3) / 4 → ∀ x36 : Int32, x36 = iZ (k : Int) + 1 → rec (s, x32, 1, x36) := fun s Rs ws x36 h36 => hrec _ ⟨Rs, ws, by
      show x32 = _
      rw [h32, e22, e27, iZ_add, iZ_add, sm_s], rfl, by rw [h36, iZ_s]⟩
    refine ⟨fun s v => Rel s.2.1 s.1 C ∧ s.2.2 ≤ 2 + 2 * (k + 1) + (k + 1 + 3) / 4 ∧ v = 1, fun s v h x36 h36 => ?_, fun _ => False, fun _ z => z.elim, fun z => ?_, fun _ => ⟨fun z => ?_, fun _ => ⟨fun s => Rel s.2.1 s.1 C ∧ s.2.2 ≤ 2 + 2 * (k + 1) + (k + 1 + 3) / 4, fun s h => ⟨h.1, h.2, rfl⟩, fun q4 => ?_, fun q4 => ⟨(show σ9.2.2 + 1 + 1 + 1 ≤ 30 by omega), K_balance hI R3 (fun z => absurd (hD k (by omega)) z) (fun _ σ4 L4 y41 R4 o4 ρ45 h45 => ?_)⟩⟩⟩⟩
    · obtain ⟨Rs, ws, e⟩ := h
      subst e
      exact fin s Rs ws x36 h36
    · rw [e22, ltT, t_0, toInt_iZ (by omega) (by omega)] at z
      omega
    · rw [e27, ltT, t_0, toInt_iZ (by omega) (by omega)] at z
      omega
    · exact ⟨R3, (show σ9.2.2 + 1 + 1 ≤ _ by omega)⟩
    · subst h45
      have b := bl_rg hI u1 (a2.toInt.toNat - um C a1.toInt.toNat + 1) (by omega) k (by omega)
      rw [tn] at o4
      refine ⟨fun z => ?_, fun _ => ⟨R4, ?_⟩⟩
      · rw [o4, Int64.lt_iff_toInt_lt, toInt_lZ (by omega) (by omega)] at z
        have : (0 : Int64).toInt = 0 := rfl
        omega
      · have m4 := Decidable.not_not.mp q4
        have k4 : k % 4 = 0 := by
          have e : jr (iZ (k : Int)) 4 = nI (k % 4) := by
            rw [show iZ (k : Int) = nI k from Int32.ofInt_eq_ofNat]
            exact pk_rem (d := 4) (by omega) (by decide) (by decide)
          rw [e] at m4
          have := congrArg Int32.toInt m4
          rw [nI_toInt (by omega), t_0] at this
          omega
        show σ9.2.2 + 1 + 1 + 1 ≤ _
        omega
