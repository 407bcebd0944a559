/-! PURE: the class's calls that change no month -/
theorem rf_1 {c1 c2 c3 : Prop} [Decidable c1] [Decidable c2] [Decidable c3] (h : ¬ c1) : rf c1 c2 c3 = 1 := if_neg h
theorem rf_2 {c1 c2 c3 : Prop} [Decidable c1] [Decidable c2] [Decidable c3] (h1 : c1) (h : ¬ c2) : rf c1 c2 c3 = 2 := by unfold rf; rw [if_pos h1, if_neg h]
theorem rf_3 {c1 c2 c3 : Prop} [Decidable c1] [Decidable c2] [Decidable c3] (h1 : c1) (h2 : c2) (h : ¬ c3) : rf c1 c2 c3 = 3 := by unfold rf; rw [if_pos h1, if_pos h2, if_neg h]
theorem k_out {L : List Nat} {σ : Mm} {C : Cr} (hR : Rel L σ C) {y : Int32} {v : Int} (hv : y.toInt64 = lZ v) {G : Prop} (h : Rel L σ C → y.toInt64 = lZ v → G) : G := h hR hv
theorem k_outl {L : List Nat} {σ : Mm} {C : Cr} (hR : Rel L σ C) {y : Int64} {v : Int} (hv : y = lZ v) {G : Prop} (h : Rel L σ C → y = lZ v → G) : G := h hR hv
theorem k_outb {L : List Nat} {σ : Mm} {C : Cr} (hR : Rel L σ C) {x : Int32} {d : Prop} [Decidable d] (hx : x = bz d) {G : Int32 → Prop} (h : Rel L σ C → ∀ y : Int32, y = bz d → G y) : ∃ J9 : Int32 → Prop, (∀ (x8 : Int32), J9 x8 → G x8) ∧ ((x = 0 → J9 0) ∧ (¬ (x = 0) → J9 1)) := by
  refine jn1 ⟨fun q => h hR 0 ?_, fun q => h hR 1 ?_⟩
  · rw [hx, bz_0] at q; exact (bz_no q).symm
  · rw [hx, bz_0, Decidable.not_not] at q; exact (bz_y q).symm
theorem ow_iZ {a : Int32} (h : dOw a.toInt) : ∃ o : Nat, o < 10 ∧ a = iZ (o : Int) := ⟨a.toInt.toNat, by omega, by rw [Int.toNat_of_nonneg h.1, iZ_toInt]⟩
theorem K_pass {L : List Nat} {σ : Mm} {C : Cr} (hI : Inv C) (hR : Rel L σ C) {a1 : Int32} {Q : Int32 → Mm → List Nat → Prop}
    (h1 : ¬ d1pass a1.toInt → ∀ σ' L', Rel L' σ' C → Q (-102) σ' L')
    (h2 : d1pass a1.toInt → ¬ d2pass C a1.toInt → ∀ σ' L', Rel L' σ' C → Q (-103) σ' L')
    (hy : d1pass a1.toInt → d2pass C a1.toInt → ∀ σ' L' {x9 : Int32}, Rel L' σ' (u2 C 200 0 (C 200 0 + a1.toInt)) → x9.toInt64 = lZ (C 200 0 + a1.toInt) → Q x9 σ' L') : wp_L_pass L σ a1 Q := by
  unfold wp_L_pass wp_X6_pass
  have h0 := hI.now
  have g0 := hR.now
  have no1 : ¬ d1pass a1.toInt → Q (-102) σ L := fun z => h1 z σ L hR
  have no2 : d1pass a1.toInt → ¬ d2pass C a1.toInt → Q (-103) σ L := fun y z => h2 y z σ L hR
  refine jn0 ⟨fun q => Or.inl ⟨rfl, no1 ?_⟩, fun q => ⟨fun q2 => ⟨fun q3 σ2 h2 => ?_, fun q3 => Or.inr ⟨rfl, no2 ?_ ?_⟩⟩, fun q2 => Or.inl ⟨rfl, no1 ?_⟩⟩⟩
  · rw [ltT, t_1] at q; omega
  · rw [ltT, t_1] at q; rw [leT, t_12] at q2
    have e : (gI σ 0 0 + a1).toInt = C 200 0 + a1.toInt := by rw [ad32 (by omega) (by omega), g0]
    rw [leT, e, t_60] at q3
    have R2 : Rel L σ2 (u2 C 200 0 (C 200 0 + a1.toInt)) := by rw [h2]; exact Rel_now hI hR e (by omega)
    refine k_out R2 ?_ (fun R' O' => hy ⟨by omega, by omega⟩ (by omega) _ _ R' O')
    rw [h2, gI_sI, if_pos ⟨rfl, rfl⟩]
    exact i2lT e
  · rw [ltT, t_1] at q; rw [leT, t_12] at q2; exact ⟨by omega, by omega⟩
  · rw [ltT, t_1] at q; rw [leT, t_12] at q2
    have e : (gI σ 0 0 + a1).toInt = C 200 0 + a1.toInt := by rw [ad32 (by omega) (by omega), g0]
    rw [leT, e, t_60] at q3
    omega
  · rw [leT, t_12] at q2; omega
theorem K_least {L : List Nat} {σ : Mm} {C : Cr} (hI : Inv C) (hR : Rel L σ C) {a1 : Int32} {Q : Int32 → Mm → List Nat → Prop}
    (hn : ¬ (1 ≤ a1.toInt ∧ a1.toInt ≤ 100000) → ∀ σ' L', Rel L' σ' C → Q (-102) σ' L')
    (hy : (1 ≤ a1.toInt ∧ a1.toInt ≤ 100000) → ∀ σ' L' {x9 : Int32}, Rel L' σ' (u2 C 200 28 a1.toInt) → x9.toInt64 = lZ (C 200 28) → Q x9 σ' L') : wp_L_least L σ a1 Q := by
  unfold wp_L_least wp_X6_least
  refine jn0 ⟨fun q => ⟨rfl, hn ?_ σ L hR⟩, fun q => ⟨fun q2 x2 h2 σ3 h3 => ?_, fun q2 => ⟨rfl, hn ?_ σ L hR⟩⟩⟩
  · rw [ltT, t_1] at q; omega
  · rw [ltT, t_1] at q; rw [leT, t_1e5] at q2
    have R3 : Rel L σ3 (u2 C 200 28 a1.toInt) := by rw [h3]; exact Rel_lst hI hR rfl
    exact k_out R3 (by rw [h2]; exact i2lT hR.lst) (fun R' O' => hy ⟨by omega, by omega⟩ _ _ R' O')
  · rw [leT, t_1e5] at q2; omega
theorem K_paid {L : List Nat} {σ : Mm} {C : Cr} (hR : Rel L σ C) {a1 : Int32} {Q : Int64 → Mm → List Nat → Prop}
    (hn : ¬ dOw a1.toInt → ∀ σ' L', Rel L' σ' C → Q (-101) σ' L')
    (hy : dOw a1.toInt → ∀ σ' L' {x9 : Int64}, Rel L' σ' C → x9 = lZ (C 223 a1.toInt.toNat) → Q x9 σ' L') : wp_L_paid L σ a1 Q := by
  unfold wp_L_paid wp_X6_paid
  refine k_owner ⟨fun q => ?_, fun q => ⟨rfl, hn ?_ σ L hR⟩⟩
  · have q := (bz_n _).mp q
    refine ⟨vin q.1 (by omega), k_outl hR (v := C 223 a1.toInt.toNat) ?_ (fun R' O' => hy q _ _ R' O')⟩
    rw [cl_T]
    exact hR.pd _ (by omega)
  · rwa [Decidable.not_not, bz_0] at q
theorem K_suspend {L : List Nat} {σ : Mm} {C : Cr} (hI : Inv C) (hR : Rel L σ C) {a1 a2 : Int32} (hz : a2 = 0 ∨ a2 = 1) {Q : Int32 → Mm → List Nat → Prop}
    (hn : ¬ dOw a1.toInt → ∀ σ' L', Rel L' σ' C → Q (-101) σ' L')
    (hy : dOw a1.toInt → ∀ σ' L' {x9 : Int32}, Rel L' σ' (u2 C 222 a1.toInt.toNat a2.toInt) → x9 = bz (C 222 a1.toInt.toNat = 1) → Q x9 σ' L') : wp_L_suspend L σ a1 a2 Q := by
  unfold wp_L_suspend wp_X6_suspend
  refine k_owner ⟨fun q => ?_, fun q => ⟨rfl, hn ?_ σ L hR⟩⟩
  · have q := (bz_n _).mp q
    obtain ⟨o, ho, rfl⟩ := ow_iZ q
    have to : (iZ (o : Int)).toInt = o := n_iZ (by omega)
    rw [to, Int.toNat_natCast] at hy
    have hs := hR.sus o ho
    refine k_hasBit (by omega) (k_withBit (by omega) (fun x6 h6 σ7 h7 => ⟨zb_bz _, ?_⟩))
    have R7 : Rel L σ7 (u2 C 222 o a2.toInt) := by
      rw [h7]
      refine Rel_sus hI hR (fun j hj => (h6 j (by omega)).trans ?_)
      by_cases e : j = o
      · rw [if_pos e, if_pos e]
        rcases hz with z | z <;> rw [z] <;> decide
      · rw [if_neg e, if_neg e]
    exact k_outb R7 (d := C 222 o = 1) (bz_cong hs) (fun R' x9 O' => hy (by rw [to] at q; exact q) _ _ R' O')
  · rwa [Decidable.not_not, bz_0] at q
theorem uns_T {a s : Int32} : (if a < s then a else s).toInt = if a.toInt < s.toInt then a.toInt else s.toInt := by
  by_cases h : a < s
  · rw [if_pos h, if_pos (ltT.mp h)]
  · rw [if_neg h, if_neg (fun z => h (ltT.mpr z))]
theorem K_penalty {L : List Nat} {σ : Mm} {C : Cr} (hI : Inv C) (hR : Rel L σ C) {a1 : Int32} {Q : Int32 → Mm → List Nat → Prop}
    (hn : ¬ (100 ≤ a1.toInt ∧ a1.toInt ≤ 500) → ∀ σ' L', Rel L' σ' C → Q (-102) σ' L')
    (hy : (100 ≤ a1.toInt ∧ a1.toInt ≤ 500) → ∀ σ' L' {x9 : Int32}, Rel L' σ' (u2 C 200 27 a1.toInt) → x9.toInt64 = lZ (C 200 27) → Q x9 σ' L') : wp_L_penalty L σ a1 Q := by
  unfold wp_L_penalty wp_X6_penalty
  refine jn0 ⟨fun q => ⟨rfl, hn ?_ σ L hR⟩, fun q => ⟨fun q2 x2 h2 σ3 h3 σ4 h4 => ?_, fun q2 => ⟨rfl, hn ?_ σ L hR⟩⟩⟩
  · rw [ltT, t_100] at q; omega
  · rw [ltT, t_100] at q; rw [leT, t_500] at q2
    have R3 : Rel L σ4 (u2 C 200 27 a1.toInt) := by
      rw [h4, h3]
      refine Rel_pen hI hR rfl ?_
      rw [gI_sI, if_neg (show ¬ (0 = 0 ∧ 16 = 12) by decide), uns_T, t_0]
      have := hR.set.1
      split <;> omega
    exact k_out R3 (by rw [h2]; exact i2lT hR.pen) (fun R' O' => hy ⟨by omega, by omega⟩ _ _ R' O')
  · rw [leT, t_500] at q2; omega
