/-! PURE: the class tells a deed, on -/
theorem K_deed {L : List Nat} {σ : Mm} {C : Cr} (hI : Inv C) (hR : Rel L σ C) {a1 a2 a3 a4 a5 : Int32} {Q : Int32 → Mm → List Nat → Prop}
    (h1 : ¬ dDe1 C a1.toInt a2.toInt a3.toInt a5.toInt → ∀ σ' L', Rel L' σ' C → Q (-101) σ' L')
    (h2 : dDe1 C a1.toInt a2.toInt a3.toInt a5.toInt → ¬ dDe2 a2.toInt a3.toInt a4.toInt → ∀ σ' L', Rel L' σ' C → Q (-102) σ' L')
    (h3 : dDe1 C a1.toInt a2.toInt a3.toInt a5.toInt → dDe2 a2.toInt a3.toInt a4.toInt → ¬ dDe3 C a1.toInt a2.toInt a4.toInt a5.toInt → ∀ σ' L', Rel L' σ' C → Q (-103) σ' L')
    (hy : dDe1 C a1.toInt a2.toInt a3.toInt a5.toInt → dDe2 a2.toInt a3.toInt a4.toInt → dDe3 C a1.toInt a2.toInt a4.toInt a5.toInt → ∀ σ' L' {x9 : Int32}, Rel L' σ' (uDeed C a1.toInt a2.toInt a3.toInt a4.toInt a5.toInt) → x9.toInt64 = lZ (iZ (ti (uDeed C a1.toInt a2.toInt a3.toInt a4.toInt a5.toInt) a1.toInt.toNat a2.toInt (C 200 0))).toInt → Q x9 σ' L') : wp_L_deed L σ a1 a2 a3 a4 a5 Q := by
  unfold wp_L_deed wp_X6_deed
  have hd := hI.nd
  have hnw := hI.now
  have hnN : ((nN C : Nat) : Int) = C 200 0 := by unfold nN; omega
  have no1 : ¬ dDe1 C a1.toInt a2.toInt a3.toInt a5.toInt → Q (-101) σ L := fun z => h1 z σ L hR
  have no2 : dDe1 C a1.toInt a2.toInt a3.toInt a5.toInt → ¬ dDe2 a2.toInt a3.toInt a4.toInt → Q (-102) σ L := fun y z => h2 y z σ L hR
  have no3 : dDe1 C a1.toInt a2.toInt a3.toInt a5.toInt → dDe2 a2.toInt a3.toInt a4.toInt → ¬ dDe3 C a1.toInt a2.toInt a4.toInt a5.toInt → Q (-103) σ L := fun y y2 z => h3 y y2 z σ L hR
  refine k_tractAt hI hR (jn1 ⟨fun q => Or.inl ⟨rfl, no1 (fun z => ?_)⟩, fun k3 q => k_owner ⟨fun q2 => Or.inl ⟨rfl, no1 (fun z => ?_)⟩, fun q2 => k_owner ⟨fun q3 => Or.inl ⟨rfl, no1 (fun z => ?_)⟩, fun q3 => k_month hR ⟨fun q4 => ?_, fun q4 => Or.inl ⟨rfl, no1 (fun z => ?_)⟩⟩⟩⟩⟩)
  · rw [if_pos z.1] at q; cases q
  · rw [bz_0] at q2; exact q2 z.2.1
  · rw [bz_0] at q3; exact q3 z.2.2.1
  rotate_left
  · rw [Decidable.not_not, bz_0] at q4; exact q4 z.2.2.2
  have q2 := (bz_n _).mp q2
  have q3 := (bz_n _).mp q3
  have q4 := (bz_n _).mp q4
  have q1 : dTr C a1.toInt := Classical.byContradiction (fun z => by rw [if_neg z] at q; cases q)
  rw [if_pos q1] at q
  cases q
  have D1 : dDe1 C a1.toInt a2.toInt a3.toInt a5.toInt := ⟨q1, q2, q3, q4⟩
  have ht : a1.toInt.toNat < nT C := by unfold nT; omega
  obtain ⟨m, m61, mn, ea, ta, na⟩ := mo_iZ hI q4
  refine jn0 ⟨fun q5 => Or.inr (Or.inl ⟨rfl, no2 D1 ?_⟩), fun q5 => ⟨fun q6 => Or.inr (Or.inl ⟨rfl, no2 D1 ?_⟩), fun q6 => ⟨fun q7 => ?_, fun q7 => Or.inr (Or.inl ⟨rfl, no2 D1 ?_⟩)⟩⟩⟩
  · rw [eqT] at q5; exact fun z => z.1 q5
  · rw [ltT, t_1] at q6; omega
  rotate_left
  · rw [leT, t_1e4] at q7; omega
  rw [eqT] at q5
  rw [ltT, t_1] at q6
  rw [leT, t_1e4] at q7
  have D2 : dDe2 a2.toInt a3.toInt a4.toInt := ⟨q5, by omega, by omega⟩
  have g4 := hR.dc
  refine k_leastTitle hI hR ht ta mn (fun x14 P => ?_)
  have P4 := P a4.toInt (by omega)
  refine jn0 ⟨fun q8 => Or.inr (Or.inr ⟨rfl, no3 D1 D2 (fun z => ?_)⟩), fun q8 => ⟨fun q9 => ?_, fun q9 => Or.inr (Or.inr ⟨rfl, no3 D1 D2 (fun z => ?_)⟩)⟩⟩
  · rw [ltT] at q8
    have := P4.mpr (fun m' h1 h2 => z.2 m' h2 (by omega))
    omega
  rotate_left
  · rw [ltT, g4, t_40] at q9; exact q9 z.1
  rw [ltT] at q8
  rw [ltT, g4, t_40] at q9
  have D3 : dDe3 C a1.toInt a2.toInt a4.toInt a5.toInt := ⟨q9, fun m' h1 h2 => P4.mp (by omega) m' (by omega) h1⟩
  have hnD : ((nD C : Nat) : Int) = C 200 5 := by unfold nD; omega
  have n4 : (gI σ 0 4).toNatClampNeg = nD C := by rw [cl_T, g4]; rfl
  have nal : ¬ al C (30 + nD C) := by
    have hd := hI.nt
    unfold al
    unfold nT
    omega
  have fr := fresh1 hI hR nal (by omega) (by omega)
  have kd0 : kd (30 + nD C) = 0 := kd_d _ (by omega)
  refine ⟨lv_t hI hR ht, 30 + nD C, ⟨fr.1, kd0, fr.2⟩, fun σ20 h20 => ⟨lv_new kd0, fun s2 h2 s3 h3 s4 h4 s5 h5 s6 h6 => ⟨vin (by omega) (by rw [g4]; omega), fun σ23 h23 σ24 h24 σ25 h25 => ?_⟩⟩⟩
  rw [n4] at h23
  have k23 : ∀ k, k ≠ 30 + nD C → gI σ23 k = gI σ k := fun k hk => by
    rw [h23, gI_sR, h6, gI_ne hk, h5, gI_ne hk, h4, gI_ne hk, h3, gI_ne hk, h2, gI_sR, h20]
    unfold z_0
    rw [gI_ne hk, gI_ne hk, gI_ne hk, gI_ne hk, gI_sR]
  have t2 : (gI σ 0 4 + 1).toInt = C 200 5 + 1 := by rw [ad32 (by rw [g4, t_1]; omega) (by rw [g4, t_1]; omega), g4, t_1]
  rw [k23 0 (by omega)] at h24
  have g24 : gI σ24 0 16 = gI σ 0 16 := by rw [h24, gI_sI, if_neg (by decide), k23 0 (by omega)]
  rw [g24] at h25
  have hs := set_min hR (a := a5) (by omega) (x := if a5 < gI σ 0 16 then a5 else gI σ 0 16) rfl
  have R25 : Rel (L ++ [30 + nD C]) σ25 (uDeed C a1.toInt a2.toInt a3.toInt a4.toInt a5.toInt) := by
    refine Rel_deed (vf := a2) (vr := a3) (vp := a4) (vm := a5) hI hR q9 q1 (fun k hk => ?_) (fun i hi => ?_) ?_ (fun j => ?_) (fun j => ?_) (fun j => ?_) (fun j => ?_) (fun j => ?_) rfl rfl rfl rfl (fun t' o m' hm' => ?_) (fun i hi hi2 => ?_) ?_ (fun k a b => ?_) ?_ ?_ ?_ ?_ (fun j i => ?_) ?_ ?_
    · unfold uDeed
      rw [u2_row (by omega), u2_row (by omega), u2_row (by omega), u2_row (by omega), u2_row (by omega), u2_row (by omega)]
    · unfold uDeed
      rw [u2_o (Or.inr hi), u2_o (Or.inl (by decide)), u2_o (Or.inl (by decide)), u2_o (Or.inl (by decide)), u2_o (Or.inl (by decide)), u2_o (Or.inl (by decide))]
    · unfold uDeed
      rw [u2_y]
    · unfold uDeed
      rw [u2_o (Or.inl (by decide)), u2_o (Or.inl (by decide)), u2_o (Or.inl (by decide)), u2_o (Or.inl (by decide)), u2_o (Or.inl (by decide))]
      by_cases e : j = nD C
      · rw [e, u2_y, if_pos rfl]
      · rw [u2_o (Or.inr e), if_neg e]
    · unfold uDeed
      rw [u2_o (Or.inl (by decide)), u2_o (Or.inl (by decide)), u2_o (Or.inl (by decide)), u2_o (Or.inl (by decide))]
      by_cases e : j = nD C
      · rw [e, u2_y, if_pos rfl]
      · rw [u2_o (Or.inr e), if_neg e, u2_o (Or.inl (by decide))]
    · unfold uDeed
      rw [u2_o (Or.inl (by decide)), u2_o (Or.inl (by decide)), u2_o (Or.inl (by decide))]
      by_cases e : j = nD C
      · rw [e, u2_y, if_pos rfl]
      · rw [u2_o (Or.inr e), if_neg e, u2_o (Or.inl (by decide)), u2_o (Or.inl (by decide))]
    · unfold uDeed
      rw [u2_o (Or.inl (by decide)), u2_o (Or.inl (by decide))]
      by_cases e : j = nD C
      · rw [e, u2_y, if_pos rfl]
      · rw [u2_o (Or.inr e), if_neg e, u2_o (Or.inl (by decide)), u2_o (Or.inl (by decide)), u2_o (Or.inl (by decide))]
    · unfold uDeed
      rw [u2_o (Or.inl (by decide))]
      by_cases e : j = nD C
      · rw [e, u2_y, if_pos rfl]
      · rw [u2_o (Or.inr e), if_neg e, u2_o (Or.inl (by decide)), u2_o (Or.inl (by decide)), u2_o (Or.inl (by decide)), u2_o (Or.inl (by decide))]
    · rw [uDeed_ti hd.1, if_neg (fun z => by omega), Int.add_zero]
    · rw [h25, gI_sI, if_neg (fun z => hi2 z.2), h24, gI_sI, if_neg (fun z => hi z.2), k23 0 (by omega)]
    · rw [h25, gI_sI, if_neg (by decide), h24, gI_sI, if_pos ⟨rfl, rfl⟩, t2]
    · rw [h25, gI_ne a, h24, gI_ne a, k23 k b]
    · rw [h25, gI_ne (by omega), h24, gI_ne (by omega), h23, gI_sR, h6, gI_sI, if_neg (fun z => by omega), h5, gI_sI, if_neg (fun z => by omega), h4, gI_sI, if_neg (fun z => by omega), h3, gI_sI, if_pos ⟨rfl, rfl⟩]
    · rw [h25, gI_ne (by omega), h24, gI_ne (by omega), h23, gI_sR, h6, gI_sI, if_neg (fun z => by omega), h5, gI_sI, if_neg (fun z => by omega), h4, gI_sI, if_pos ⟨rfl, rfl⟩]
    · rw [h25, gI_ne (by omega), h24, gI_ne (by omega), h23, gI_sR, h6, gI_sI, if_neg (fun z => by omega), h5, gI_sI, if_pos ⟨rfl, rfl⟩]
    · rw [h25, gI_ne (by omega), h24, gI_ne (by omega), h23, gI_sR, h6, gI_sI, if_pos ⟨rfl, rfl⟩]
    · rw [h25, gR_sI, h24, gR_sI, h23, gR_sR]
      by_cases e : j = 2 ∧ i = nD C
      · rw [if_pos e, if_pos e]
      · rw [if_neg e, if_neg e, h6, gR_sI, h5, gR_sI, h4, gR_sI, h3, gR_sI, h2, gR_sR]
        by_cases e2 : j = 30 + nD C ∧ i = 0
        · rw [if_pos e2, if_pos e2]
        · rw [if_neg e2, if_neg e2, h20]
          unfold z_0
          rw [gR_sI, gR_sI, gR_sI, gR_sI, gR_sR, if_neg e2]
    · rw [h25, h24, h23, h6, h5, h4, h3, h2, h20]; rfl
    · rw [h25, gI_sI, if_pos ⟨rfl, rfl⟩]
      rw [ta] at hs ⊢
      exact hs
  have I' := Inv_deed hI D1 D2 D3
  have e0 : (gI σ25 0 0).toInt = C 200 0 := R25.now
  have ht' : a1.toInt.toNat < nT (uDeed C a1.toInt a2.toInt a3.toInt a4.toInt a5.toInt) := ht
  refine k_titleOf I' R25 ht' ?_
  rw [e0]
  exact k_out R25 (i2l _) (fun R' O' => hy D1 D2 D3 _ _ R' O')
