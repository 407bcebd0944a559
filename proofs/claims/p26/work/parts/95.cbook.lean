/-! PURE: what a month's settling changes in the class; its costs -/
def kr (u m : Nat) (σ σ' : Mm) : Prop := (∀ k, k ∉ sk → ¬ (k = 100 + 8 * u + 5 ∨ k = 100 + 8 * u + 6) → gI σ' k = gI σ k) ∧ gR σ' = gR σ ∧ ∀ k j, k ∉ sk → ¬ ((k = 100 + 8 * u + 5 ∨ k = 100 + 8 * u + 6) ∧ 10 * m ≤ j ∧ j < 10 * m + 10) → gJ σ' k j = gJ σ k j
theorem kr_rf {u m : Nat} {σ : Mm} : kr u m σ σ := ⟨fun _ _ _ => rfl, rfl, fun _ _ _ _ => rfl⟩
theorem kr_tr {u m : Nat} {a b c : Mm} (h : kr u m a b) (h2 : kr u m b c) : kr u m a c := ⟨fun k hk hn => (h2.1 k hk hn).trans (h.1 k hk hn), h2.2.1.trans h.2.1, fun k j hk hj => (h2.2.2 k j hk hj).trans (h.2.2 k j hk hj)⟩
theorem kr_kq {u m : Nat} {ks : List Nat} {σ σ' : Mm} (h : kq ks σ σ') (hs : ∀ k ∈ ks, k ∈ sk) : kr u m σ σ' := ⟨fun k hk _ => (h.1 k (fun z => hk (hs k z))).1, h.2, fun k j hk _ => by rw [(h.1 k (fun z => hk (hs k z))).2]⟩
theorem kr_5 {u m i : Nat} {σ : Mm} {v : Int64} (hi : i < 10) : kr u m σ (sJ σ (100 + 8 * u + 5) (10 * m + i) v) := ⟨fun _ _ _ => rfl, rfl, fun k j _ hj => by
  rw [gJ_sJ, if_neg (fun z => hj ⟨Or.inl z.1, by omega, by omega⟩)]⟩
theorem kr_6 {u m i : Nat} {σ : Mm} {v : Int64} (hi : i < 10) : kr u m σ (sJ σ (100 + 8 * u + 6) (10 * m + i) v) := ⟨fun _ _ _ => rfl, rfl, fun k j _ hj => by
  rw [gJ_sJ, if_neg (fun z => hj ⟨Or.inr z.1, by omega, by omega⟩)]⟩
theorem nm1 {k a : Nat} (h : k ≠ a) : k ∉ [a] := fun z => h (List.mem_singleton.mp z)
theorem nm2 {k a b : Nat} (h : k ≠ a) (h2 : k ≠ b) : k ∉ [a, b] := fun z => by
  rcases List.mem_cons.mp z with e | e
  · exact h e
  · exact h2 (List.mem_singleton.mp e)
theorem sk_lo {k : Nat} (h : k < 8) : k ∉ sk := fun z => by
  simp [sk] at z
  omega
theorem sk_hi {k : Nat} (h : 18 ≤ k) : k ∉ sk := fun z => by
  simp [sk] at z
  omega
theorem nk {k : Nat} {ks : List Nat} (h : 18 ≤ k) (hs : ∀ j ∈ ks, j ∈ sk) : k ∉ ks := fun z => sk_hi h (hs k z)
theorem Rel_kr {L : List Nat} {σ σ' : Mm} {C : Cr} (hI : Inv C) {u m : Nat} (hu : u < nU C) (hk : kr u m σ σ') (hs : (gI σ 0 16).toInt ≤ m) (h : Rel L σ C) : Rel L σ' C := by
  have hu3 := nU3 hI hu
  have xt := hI.nt
  have xd := hI.nd
  have xl := hI.ns
  have xu := hI.nu
  have hT : nT C ≤ 8 := by unfold nT; omega
  have hD : nD C ≤ 40 := by unfold nD; omega
  have hS : nS C ≤ 16 := by unfold nS; omega
  have lo : ∀ k, k < 8 → gI σ' k = gI σ k := fun k h8 => hk.1 k (sk_lo h8) (fun z => by omega)
  have hi : ∀ k, 18 ≤ k → ¬ (k = 100 + 8 * u + 5 ∨ k = 100 + 8 * u + 6) → gI σ' k = gI σ k := fun k h8 hn => hk.1 k (sk_hi h8) hn
  have i0 := lo 0 (by omega)
  have r := hk.2.1
  refine ⟨h.inL, by rw [i0]; exact h.now, by rw [i0]; exact h.tc, by rw [i0]; exact h.dc, by rw [i0]; exact h.lc, by rw [i0]; exact h.uc, by rw [i0]; exact h.wc, by rw [i0]; exact h.pen, by rw [i0]; exact h.lst, by rw [i0]; exact h.sus, by rw [i0]; exact h.set, by rw [r]; exact h.g1, by rw [r]; exact h.g2, by rw [r]; exact h.g3, by rw [r]; exact h.g4, by rw [r]; exact h.g5, by rw [r]; exact h.rr, fun t ht => ?_, fun t ht => ?_, fun t ht => ?_, fun t ht => ?_, fun t ht => ?_, fun m hm => ?_, fun o ho => ?_, fun u' m' hu hm1 hm2 o ho => ?_⟩
  · rw [hi (20 + t) (by omega) (fun z => by omega), r]; exact h.tr t ht
  · rw [hi (30 + t) (by omega) (fun z => by omega), r]; exact h.de t ht
  · rw [hi (70 + t) (by omega) (fun z => by omega), r]; exact h.le t ht
  · rw [hi (100 + 8 * t) (by omega) (fun z => by omega), hi (100 + 8 * t + 1) (by omega) (fun z => by omega), hi (100 + 8 * t + 2) (by omega) (fun z => by omega), hi (100 + 8 * t + 3) (by omega) (fun z => by omega), hi (100 + 8 * t + 4) (by omega) (fun z => by omega)]; exact h.un t ht
  · rw [r, hi (130 + 4 * t + 1) (by omega) (fun z => by omega), hi (130 + 4 * t + 2) (by omega) (fun z => by omega), hi (130 + 4 * t + 3) (by omega) (fun z => by omega)]; exact h.we t ht
  · rw [lo 6 (by omega)]; exact h.tx m hm
  · rw [hk.2.2 7 o (sk_lo (by omega)) (fun z => by omega)]; exact h.pd o ho
  · rw [i0] at hm2
    rw [hk.2.2 (100 + 8 * u' + 5) (10 * m' + o) (sk_hi (by omega)) (fun z => by omega), hk.2.2 (100 + 8 * u' + 6) (10 * m' + o) (sk_hi (by omega)) (fun z => by omega)]
    exact h.mo u' m' hu hm1 hm2 o ho
theorem k_bookCosts {L : List Nat} {σ : Mm} {C : Cr} (hI : Inv C) (hR : Rel L σ C) {u m : Nat} (hu : u < nU C) {a2 a3 : Int32} (h1 : a2.toInt = m) (h2 : m < 61) (hs : (gI σ 0 16).toInt ≤ m) {b : Nat → Int} (hd : ∀ j : Nat, j < 20 → gJ σ 10 j = lZ (dk C u m j)) (hcr : ∀ o : Nat, o < 10 → (bt a3 o = true ↔ ca C u m b o)) (hb : ∀ o : Nat, o < 10 → gJ σ (100 + 8 * u + 6) (10 * m + o) = lZ (b o)) (h5 : ∀ o : Nat, o < 10 → gJ σ (100 + 8 * u + 5) (10 * m + o) = lZ 0) {Q : Mm → Prop}
    (h : ∀ σ', kr u m σ σ' → (∀ j : Nat, j < 20 → gJ σ' 10 j = lZ (dk C u m j)) → (∀ o : Nat, o < 10 → gJ σ' (100 + 8 * u + 6) (10 * m + o) = lZ (b1 C u m b o)) → (∀ o : Nat, o < 10 → gJ σ' (100 + 8 * u + 5) (10 * m + o) = lZ (-pt (co C u m) (w2 C u m b) 10 o)) → Q σ') : wp_X6_bookCosts L σ (some (100 + 8 * u)) a2 a3 Q := by
  have hu3 := nU3 hI hu
  have k := kd_u2 u hu3
  have W1 := w1_rg hI hu m
  have W2 := w2_rg hI hu m b
  have CO := co_rg hI u h2
  have g4 := ((hR.un u hu).2 m h2).2.2.2
  have nm : a2.toNatClampNeg = m := by rw [cl_T, h1]; exact Int.toNat_natCast _
  have va2 : vp_in a2 (ln (100 + 8 * u + 4)) := by rw [k.2.2.2.2.1]; exact vin (by omega) (by omega)
  have l4 : LV (Fc ++ L) (100 + 8 * u + 4) 8 := ⟨inF hR (al_u hu (by decide)), k.1.2.2.2.1⟩
  have l5 : LV (Fc ++ L) (100 + 8 * u + 5) 9 := ⟨inF hR (al_u hu (by decide)), k.1.2.2.2.2.1⟩
  have l6 : LV (Fc ++ L) (100 + 8 * u + 6) 9 := ⟨inF hR (al_u hu (by decide)), k.1.2.2.2.2.2⟩
  intro x1 e1
  subst e1
  refine ⟨100 + 8 * u, rfl, lv_u hI hR hu, l4, va2, ?_⟩
  rw [nm, i2lT g4]
  refine k_partBy (d := dk C u m) (cr := fun _ => False) hd (fun o ho => by rw [bt_z]; simp) (fun o _ => W1.1 o) W1.2.1 W1.2.2 CO.1 CO.2 (fun σ7 k7 P7 => ?_)
  have P7 : ∀ o : Nat, o < 10 → gJ σ7 15 o = lZ (pt (co C u m) (w1 C u m) 10 o) := P7
  have k7u : kr u m σ σ7 := kr_kq k7 (by decide)
  refine lpw_inv (fun i (s : Mm × Int32) => kq [100 + 8 * u + 6] σ7 s.1 ∧ kr u m σ s.1 ∧ s.2 = iZ (i : Int) ∧ ∀ o : Nat, o < 10 → gJ s.1 (100 + 8 * u + 6) (10 * m + o) = lZ (if o < i then b1 C u m b o else b o)) 10 ⟨kq_rf, k7u, rfl, fun o ho => by rw [if_neg (by omega), kqJ k7 (nk (by omega) (by decide))]; exact hb o ho⟩ ?_
  intro i s rec hi hs0 hrec
  obtain ⟨σ8, x9⟩ := s
  obtain ⟨k8, r8, e9, B8⟩ := hs0
  dsimp only at k8 r8 e9 B8
  subst e9
  have ti1 : (iZ (i : Int)).toInt = i := n_iZ (by omega)
  have ni : (iZ (i : Int)).toNatClampNeg = i := nat_iZ (by omega)
  have R8 := Rel_kr hI hu r8 hs hR
  have D8 : ∀ j : Nat, j < 20 → gJ σ8 10 j = lZ (dk C u m j) := fun j hj => by rw [kqJ k8 (nm1 (by omega)), kqJ k7 (by decide)]; exact hd j hj
  refine ⟨fun q => ?_, fun q => ?_⟩
  rotate_left
  · rw [leT, ti1, t_10] at q
    have hrec := hrec (by omega)
    have hi10 : i < 10 := by omega
    have ex := row_ix (i := i) h1 h2 hi10
    have nx : (a2 * 10 + iZ (i : Int)).toNatClampNeg = 10 * m + i := by rw [cl_T, ex]; exact Int.toNat_natCast _
    have v := vin (a := iZ (i : Int)) (n := 10) (by omega) (by omega)
    have vx : vp_in (a2 * 10 + iZ (i : Int)) (ln (100 + 8 * u + 6)) := by rw [k.2.2.2.2.2.2]; exact vin (by omega) (by omega)
    refine k_hasBit (by omega) (jn1 ⟨fun z x28 h28 => hrec _ ⟨k8, r8, by rw [h28, iZ_s], fun o ho => ?_⟩, fun z => ⟨l6, vx, v, vx, fun σ33 h33 x28 h28 => hrec _ ?_⟩⟩)
    · show gJ σ8 (100 + 8 * u + 6) (10 * m + o) = _
      rw [bz_0, hcr i hi10] at z
      rw [B8 o ho]
      by_cases e : o = i
      · rw [e, if_neg (by omega), if_pos (by omega)]; unfold b1; rw [if_neg z, Int.add_zero]
      · by_cases z2 : o < i
        · rw [if_pos z2, if_pos (by omega)]
        · rw [if_neg z2, if_neg (by omega)]
    · have z := (hcr i hi10).mp ((bz_n _).mp z)
      rw [ni, nx] at h33
      have P8 : gJ σ8 15 i = lZ (pt (co C u m) (w1 C u m) 10 i) := by rw [kqJ k8 (nm1 (by omega))]; exact P7 i hi10
      have Bi : gJ σ8 (100 + 8 * u + 6) (10 * m + i) = lZ (b i) := by rw [B8 i hi10, if_neg (by omega)]
      have g12 : (gI σ8 0 12).toInt = C 200 27 := R8.pen
      have hp := hI.pen
      have pr := p1_rg hI hu h2 hi10
      have p0 := Int.mul_nonneg pr.1 (show 0 ≤ C 200 27 by omega)
      have p2 := Int.mul_le_mul pr.2 hp.2 (by omega) (show (0 : Int) ≤ 60000000 by omega)
      rw [Bi, P8, i2lT g12, lZ_mul, show (100 : Int64) = lZ 100 from rfl, lZ_div p0 (by omega) (by omega) (by omega), lZ_add] at h33
      refine ⟨?_, ?_, by rw [h28, iZ_s], fun o ho => ?_⟩
      · show kq _ σ7 σ33
        rw [h33]; exact kq_tr k8 (kq_J (by simp))
      · show kr u m σ σ33
        rw [h33]; exact kr_tr r8 (kr_6 hi10)
      · show gJ σ33 (100 + 8 * u + 6) (10 * m + o) = _
        rw [h33, gJ_sJ]
        by_cases e : o = i
        · rw [e, if_pos ⟨rfl, rfl⟩, if_pos (Nat.lt_succ_self i)]; unfold b1; rw [if_pos z]
        · rw [if_neg (fun y => e (by have := y.2; omega)), B8 o ho]
          by_cases z2 : o < i
          · rw [if_pos z2, if_pos (by omega)]
          · rw [if_neg z2, if_neg (by omega)]
  rw [leT, ti1, t_10] at q
  have e : i = 10 := by omega
  subst e
  clear hrec q
  have B8 : ∀ o : Nat, o < 10 → gJ σ8 (100 + 8 * u + 6) (10 * m + o) = lZ (b1 C u m b o) := fun o ho => by rw [B8 o ho, if_pos ho]
  have g48 : (gI σ8 (100 + 8 * u + 4) m).toInt = co C u m := ((R8.un u hu).2 m h2).2.2.2
  refine ⟨va2, ?_⟩
  rw [i2lT g48]
  refine k_partBy (d := dk C u m) (cr := ca C u m b) D8 hcr (fun o _ => W2.1 o) W2.2.1 W2.2.2 CO.1 CO.2 (fun σ13 k13 P13 => ?_)
  have P13 : ∀ o : Nat, o < 10 → gJ σ13 15 o = lZ (pt (co C u m) (w2 C u m b) 10 o) := P13
  have r13 : kr u m σ σ13 := kr_tr r8 (kr_kq k13 (by decide))
  have U13 : ∀ o : Nat, o < 10 → gJ σ13 (100 + 8 * u + 5) (10 * m + o) = lZ 0 := fun o ho => by rw [kqJ k13 (nk (by omega) (by decide)), kqJ k8 (nm1 (by omega)), kqJ k7 (nk (by omega) (by decide))]; exact h5 o ho
  have B13 : ∀ o : Nat, o < 10 → gJ σ13 (100 + 8 * u + 6) (10 * m + o) = lZ (b1 C u m b o) := fun o ho => by rw [kqJ k13 (nk (by omega) (by decide))]; exact B8 o ho
  have D13 : ∀ j : Nat, j < 20 → gJ σ13 10 j = lZ (dk C u m j) := fun j hj => by rw [kqJ k13 (by decide)]; exact D8 j hj
  refine lpw_inv (fun i (s : Mm × Int32) => kq [100 + 8 * u + 5] σ13 s.1 ∧ kr u m σ s.1 ∧ s.2 = iZ (i : Int) ∧ ∀ o : Nat, o < 10 → gJ s.1 (100 + 8 * u + 5) (10 * m + o) = lZ (if o < i then -pt (co C u m) (w2 C u m b) 10 o else 0)) 10 ⟨kq_rf, r13, rfl, fun o ho => by rw [if_neg (by omega)]; exact U13 o ho⟩ ?_
  intro i s rec hi hs0 hrec
  obtain ⟨σ14, x15⟩ := s
  obtain ⟨k14, r14, e15, U14⟩ := hs0
  dsimp only at k14 r14 e15 U14
  subst e15
  have ti1 : (iZ (i : Int)).toInt = i := n_iZ (by omega)
  have ni : (iZ (i : Int)).toNatClampNeg = i := nat_iZ (by omega)
  refine ⟨fun q => ?_, fun q => ?_⟩
  · rw [leT, ti1, t_10] at q
    have e : i = 10 := by omega
    subst e
    exact h σ14 r14 (fun j hj => by rw [kqJ k14 (nm1 (by omega))]; exact D13 j hj) (fun o ho => by rw [kqJ k14 (nm1 (by omega))]; exact B13 o ho) (fun o ho => by rw [U14 o ho, if_pos ho])
  · rw [leT, ti1, t_10] at q
    have hrec := hrec (by omega)
    have hi10 : i < 10 := by omega
    have ex := row_ix (i := i) h1 h2 hi10
    have nx : (a2 * 10 + iZ (i : Int)).toNatClampNeg = 10 * m + i := by rw [cl_T, ex]; exact Int.toNat_natCast _
    have v := vin (a := iZ (i : Int)) (n := 10) (by omega) (by omega)
    have vx : vp_in (a2 * 10 + iZ (i : Int)) (ln (100 + 8 * u + 5)) := by rw [k.2.2.2.2.2.1]; exact vin (by omega) (by omega)
    refine ⟨l5, vx, v, vx, fun σ22 h22 x23 h23 => hrec _ ?_⟩
    have P14 : gJ σ14 15 i = lZ (pt (co C u m) (w2 C u m b) 10 i) := by rw [kqJ k14 (nm1 (by omega))]; exact P13 i hi10
    have Ui : gJ σ14 (100 + 8 * u + 5) (10 * m + i) = lZ 0 := by rw [U14 i hi10, if_neg (by omega)]
    rw [ni, nx, Ui, P14, lZ_sub, Int.zero_sub] at h22
    refine ⟨?_, ?_, by rw [h23, iZ_s], fun o ho => ?_⟩
    · show kq _ σ13 σ22
      rw [h22]; exact kq_tr k14 (kq_J (by simp))
    · show kr u m σ σ22
      rw [h22]; exact kr_tr r14 (kr_5 hi10)
    · show gJ σ22 (100 + 8 * u + 5) (10 * m + o) = _
      rw [h22, gJ_sJ]
      by_cases e : o = i
      · rw [e, if_pos ⟨rfl, rfl⟩, if_pos (Nat.lt_succ_self i)]
      · rw [if_neg (fun y => e (by have := y.2; omega)), U14 o ho]
        by_cases z2 : o < i
        · rw [if_pos z2, if_pos (by omega)]
        · rw [if_neg z2, if_neg (by omega)]
