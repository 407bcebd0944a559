/-! PURE: the model's decks -/
def kp (ks : List Nat) (τ τ' : Mm) : Prop := ∀ k, k ∉ ks → gI τ' k = gI τ k ∧ gJ τ' k = gJ τ k
theorem kp_rf {ks : List Nat} {τ : Mm} : kp ks τ τ := fun _ _ => ⟨rfl, rfl⟩
theorem kp_tr {ks : List Nat} {a b c : Mm} (h : kp ks a b) (h2 : kp ks b c) : kp ks a c := fun k hk => ⟨(h2 k hk).1.trans (h k hk).1, (h2 k hk).2.trans (h k hk).2⟩
theorem kp_up {ks js : List Nat} {a b : Mm} (h : kp ks a b) (hs : ∀ k ∈ ks, k ∈ js) : kp js a b := fun k hk => h k (fun z => hk (hs k z))
theorem kp_J {ks : List Nat} {τ : Mm} {k i : Nat} {v : Int64} (h : k ∈ ks) : kp ks τ (sJ τ k i v) := fun j hj => ⟨rfl, gJ_ne (fun e => hj (e ▸ h))⟩
theorem kp_I {ks : List Nat} {τ : Mm} {k i : Nat} {v : Int32} (h : k ∈ ks) : kp ks τ (sI τ k i v) := fun j hj => ⟨gI_ne (fun e => hj (e ▸ h)), rfl⟩
theorem kp_core {ks : List Nat} {τ τ' : Mm} {C : Cr} (h : kp ks τ τ') (hs : ∀ k ∈ ks, 224 ≤ k) (hc : core τ = C) : core τ' = C := by
  subst hc
  funext k i
  unfold core
  by_cases q : k < 224
  · have := h k (fun z => by have := hs k z; omega)
    rw [this.1, this.2]
  · rw [if_neg (by omega), if_neg (by omega), if_neg (by omega), if_neg (by omega), if_neg (by omega), if_neg (by omega)]
theorem kp_t {ks : List Nat} {τ τ' : Mm} (h : kp ks τ τ') (hs : ∀ k ∈ ks, 224 ≤ k) : gI τ' 200 39 = gI τ 200 39 := by
  rw [(h 200 (fun z => by have := hs 200 z; omega)).1]
theorem i2lT {x : Int32} {z : Int} (h : x.toInt = z) : x.toInt64 = lZ z := by rw [i2l, h]
theorem cb_no {C : Cr} {u : Int} {m t o i : Nat} (h : C 203 t ≠ u) : cb C u m t o i = 0 := if_neg h
theorem m_decks {τ : Mm} {C : Cr} (hc : core τ = C) (hI : Inv C) {a1 a2 : Int32} (h3 : 0 ≤ a2.toInt) (h4 : a2.toInt ≤ C 200 0) {Q : Mm → Prop}
    (h : ∀ τ', kp [224] τ τ' → (∀ i : Nat, i < 20 → gJ τ' 224 i = lZ (dk C a1.toInt a2.toInt.toNat i)) → Q τ') : wp_X7_decks τ a1 a2 Q := by
  have ht := hI.nt
  have hw := hI.now
  have hs := hI.ns
  have hnT : ((nT C : Nat) : Int) = C 200 1 := by unfold nT; omega
  have k224 : ∀ k ∈ [224], 224 ≤ k := by decide
  obtain ⟨m, hm⟩ : ∃ m : Nat, a2.toInt.toNat = m := ⟨_, rfl⟩
  have hm2 : a2.toInt = m := by omega
  rw [hm] at h
  -- all to nothing
  refine lpw_inv (fun i (s : Mm × Int32) => kp [224] τ s.1 ∧ s.2 = iZ (i : Int) ∧ ∀ j : Nat, j < i → gJ s.1 224 j = lZ 0) 20 ⟨kp_rf, rfl, fun j hj => by omega⟩ ?_
  intro i s rec hi hs0 hrec
  obtain ⟨σ1, x2⟩ := s
  obtain ⟨d1, d2, d3⟩ := hs0
  dsimp only at d1 d2 d3
  subst d2
  have ti1 : (iZ (i : Int)).toInt = i := n_iZ (by omega)
  have ni : (iZ (i : Int)).toNatClampNeg = i := nat_iZ (by omega)
  refine ⟨fun q => ?_, fun q => ?_⟩
  · rw [leT, ti1, t_20] at q
    have e : i = 20 := by omega
    subst e
    -- the tracts
    refine lpw_inv (fun t (s : Mm × Int32) => kp [224] τ s.1 ∧ s.2 = iZ (t : Int) ∧ ∀ j : Nat, j < 20 → gJ s.1 224 j = lZ (sm (fun t => sm (fun o => cb C a1.toInt m t o j) 10) t)) (nT C) ⟨d1, rfl, d3⟩ ?_
    intro t s rec ht2 hs1 hrec
    obtain ⟨σ5, x6⟩ := s
    obtain ⟨d1, d2, d3⟩ := hs1
    dsimp only at d1 d2 d3
    subst d2
    have tt1 : (iZ (t : Int)).toInt = t := n_iZ (by omega)
    have nt1 : (iZ (t : Int)).toNatClampNeg = t := nat_iZ (by omega)
    have c5 := kp_core d1 k224 hc
    have g1 : (gI σ5 200 1).toInt = C 200 1 := c0 c5 (by decide)
    refine ⟨fun q => ?_, fun q => ?_⟩
    · rw [leT, g1, tt1] at q
      have e : t = nT C := by omega
      subst e
      exact h σ5 d1 d3
    · rw [leT, g1, tt1] at q
      have hlt : t < nT C := by omega
      have hrec := hrec hlt
      obtain ⟨⟨r1, r2⟩, -, -⟩ := hI.tr t hlt
      -- the owners
      refine lpw_inv (fun o (s : Mm × Int32) => kp [224] τ s.1 ∧ s.2 = iZ (o : Int) ∧ ∀ j : Nat, j < 20 → gJ s.1 224 j = lZ (sm (fun t => sm (fun o => cb C a1.toInt m t o j) 10) t + sm (fun o => cb C a1.toInt m t o j) o)) 10 ⟨d1, rfl, fun j hj => by rw [sm_0, Int.add_zero]; exact d3 j hj⟩ ?_
      intro o s rec2 ho hs2 hrec2
      obtain ⟨σ9, x10⟩ := s
      obtain ⟨d1, d2, d3⟩ := hs2
      dsimp only at d1 d2 d3
      subst d2
      have to1 : (iZ (o : Int)).toInt = o := n_iZ (by omega)
      have no1 : (iZ (o : Int)).toNatClampNeg = o := nat_iZ (by omega)
      have c9 := kp_core d1 k224 hc
      have g203 : (gI σ9 203 t).toInt = C 203 t := cK c9 (by decide)
      have g201 : (gI σ9 201 t).toInt = C 201 t := cK c9 (by decide)
      have next : (∀ j : Nat, j < 20 → gJ σ9 224 j = lZ (sm (fun t => sm (fun o => cb C a1.toInt m t o j) 10) t + sm (fun o => cb C a1.toInt m t o j) 10)) → ∀ x14 : Int32, x14 = iZ (t : Int) + 1 → rec (σ9, x14) := fun k x14 e14 => hrec _ ⟨d1, by rw [e14, iZ_s], fun j hj => (k j hj).trans rfl⟩
      refine jn0 ⟨fun q => ?_, fun q => ?_⟩
      · rw [leT, to1, t_10] at q
        have e : o = 10 := by omega
        subst e
        exact next d3
      · rw [leT, to1, t_10] at q
        have hrec2 := hrec2 (by omega)
        rw [nt1]
        refine ⟨vin (by omega) (by omega), fun q2 => ?_, fun q2 => ?_⟩
        · rw [eqT, g203] at q2
          refine next (fun j hj => ?_)
          rw [d3 j hj, sm_zero (fun k _ => cb_no q2), sm_zero (fun k _ => cb_no q2)]
        · rw [Decidable.not_not, eqT, g203] at q2
          refine ⟨vin (by omega) (by omega), m_titleOf c9 hI.nd (vin (by omega) (by omega)) ?_⟩
          rw [tt1, to1, hm2, show ((t : Nat) : Int).toNat = t from by omega]
          intro y19 e19
          have rti := ti_rg hI t o m
          have nti := hI.tn t hlt o (by omega) m
          have e19 : y19 = lZ (C 201 t * ti C t o m) := by
            rw [e19, i2lT g201, i2lT (toInt_iZ (by omega) (by omega)), lZ_mul]
          obtain ⟨w, hwd⟩ : ∃ w : Int, w = C 201 t * ti C t o m := ⟨_, rfl⟩
          rw [← hwd] at e19
          have hw0 : 0 ≤ w := by rw [hwd]; exact Int.mul_nonneg (by omega) nti
          have hw1 : w ≤ 1000 * 1000000 := by
            rw [hwd]
            exact Int.mul_le_mul r2 rti.2 nti (by omega)
          have ty : y19.toInt = w := by rw [e19]; exact toInt_lZ (by omega) (by omega)
          have ecb : ∀ j, cb C a1.toInt m t o j = cbL C t o w j (lo C t o m) := fun j => by unfold cb; rw [if_pos q2, ← hwd]
          -- what follows once the lease is known
          have step : ∀ x21 : Int32, (x21 = iZ (oi (lo C t o m)) ∨ (x21 = -1 ∧ w = 0)) → (∃ J24 : Mm → Prop, (∀ (σ23 : Mm), J24 σ23 → ∀ x25 : Int32, x25 = iZ (o : Int) + 1 → rec2 (σ23, x25)) ∧ ((¬ x21 = (-1) → vp_in (iZ (o : Int)) 20 ∧ vp_in x21 16 ∧ vp_in (iZ (o : Int)) 20 ∧ ∀ σ29 : Mm, σ29 = sJ σ9 224 o ((gJ σ9 224 o) + (((gI σ9 212 x21.toNatClampNeg).toInt64) * y19)) → vp_in x21 16 ∧ vp_in (10 + (gI σ29 211 x21.toNatClampNeg)) 20 ∧ vp_in x21 16 ∧ vp_in (10 + (gI σ29 211 x21.toNatClampNeg)) 20 ∧ ∀ σ34 : Mm, σ34 = sJ σ29 224 (10 + (gI σ29 211 x21.toNatClampNeg)).toNatClampNeg ((gJ σ29 224 (10 + (gI σ29 211 x21.toNatClampNeg)).toNatClampNeg) + (((1000 - (gI σ29 212 x21.toNatClampNeg)).toInt64) * y19)) → J24 σ34) ∧ (¬ (¬ x21 = (-1)) → vp_in (10 + iZ (o : Int)) 20 ∧ vp_in (10 + iZ (o : Int)) 20 ∧ ∀ σ37 : Mm, σ37 = sJ σ9 224 (10 + iZ (o : Int)).toNatClampNeg ((gJ σ9 224 (10 + iZ (o : Int)).toNatClampNeg) + (1000 * y19)) → J24 σ37))) := by
            intro x21 hor
            have e10 : (10 + iZ (o : Int)) = iZ ((10 + o : Nat) : Int) := by
              have : (10 : Int32) = iZ 10 := rfl
              rw [this, iZ_add]; rfl
            have fin : ∀ σ' : Mm, kp [224] σ9 σ' → (∀ j : Nat, j < 20 → gJ σ' 224 j = lZ (sm (fun t => sm (fun o => cb C a1.toInt m t o j) 10) t + sm (fun o => cb C a1.toInt m t o j) o + cbL C t o w j (lo C t o m))) → ∀ x25 : Int32, x25 = iZ (o : Int) + 1 → rec2 (σ', x25) := fun σ' k1 k2 x25 e25 => hrec2 _ ⟨kp_tr d1 k1, by rw [e25, iZ_s], fun j hj => by rw [k2 j hj, sm_s, ecb, Int.add_assoc]⟩
            refine jn1 ⟨fun z => ?_, fun z => ?_⟩
            · rcases hor with hx | hx
              · cases hl : lo C t o m with
                | none => rw [hl] at hx; exact absurd hx z
                | some k =>
                  rw [hl] at hx fin
                  have hk := (fst_lt hl).1
                  have hnS : ((nS C : Nat) : Int) = C 200 11 := by unfold nS; omega
                  obtain ⟨-, -, l11, l12, -, -⟩ := hI.le k hk
                  have hx : x21 = iZ (k : Int) := hx
                  have tk : (iZ (k : Int)).toInt = k := n_iZ (by omega)
                  have nk : (iZ (k : Int)).toNatClampNeg = k := nat_iZ (by omega)
                  subst hx
                  rw [nk]
                  have v16 : vp_in (iZ (k : Int)) 16 := vin (by omega) (by omega)
                  have v20 : vp_in (iZ (o : Int)) 20 := vin (by omega) (by omega)
                  refine ⟨v20, v16, v20, fun σ29 h29 => ?_⟩
                  have k29 : kp [224] σ9 σ29 := by rw [h29]; exact kp_J (by decide)
                  have c29 := kp_core k29 k224 c9
                  have g211 : (gI σ29 211 k).toInt = C 211 k := cK c29 (by decide)
                  have g212 : (gI σ29 212 k).toInt = C 212 k := cK c29 (by decide)
                  have f212 : (gI σ9 212 k).toInt = C 212 k := cK c9 (by decide)
                  have t10' : (10 + gI σ29 211 k).toInt = 10 + C 211 k := by rw [ad32 (by rw [t_10]; omega) (by rw [t_10]; omega), t_10, g211]
                  obtain ⟨ll, hll⟩ : ∃ l : Nat, C 211 k = l := ⟨(C 211 k).toNat, by omega⟩
                  have n10' : (10 + gI σ29 211 k).toNatClampNeg = 10 + ll := by rw [cl_T, t10']; omega
                  have v20' : vp_in (10 + gI σ29 211 k) 20 := vin (by omega) (by omega)
                  rw [n10']
                  refine ⟨v16, v20', v16, v20', fun σ34 h34 => fin σ34 ?_ (fun j hj => ?_)⟩
                  · rw [h34]; exact kp_tr k29 (kp_J (by decide))
                  · have r1 : (gI σ9 212 k).toInt64 * y19 = lZ (C 212 k * w) := by rw [i2lT f212, e19, lZ_mul]
                    have r2 : (1000 - gI σ29 212 k).toInt64 * y19 = lZ ((1000 - C 212 k) * w) := by
                      rw [i2lT (z := 1000 - C 212 k) (by rw [sb32 (by rw [t_1000]; omega) (by rw [t_1000]; omega), t_1000, g212]), e19, lZ_mul]
                    rw [h34, gJ_sJ, h29, gJ_sJ, gJ_sJ, ← h29, r1, r2, d3 j hj, d3 o (by omega), d3 (10 + ll) (by omega)]
                    unfold cbL
                    dsimp only
                    by_cases q1 : j = o
                    · rw [if_neg (by omega), if_pos ⟨rfl, q1⟩, if_pos q1, if_neg (by omega), lZ_add, q1]
                      congr 1
                      omega
                    · by_cases q3 : j = 10 + ll
                      · rw [if_pos ⟨rfl, q3⟩, if_neg (by omega), if_neg q1, if_pos (by omega), lZ_add, q3]
                        congr 1
                        omega
                      · rw [if_neg (by omega), if_neg (by omega), if_neg q1, if_neg (by omega)]
                        congr 1
                        omega
              · exact absurd hx.1 z
            · have z := Decidable.not_not.mp z
              have v20' : vp_in (10 + iZ (o : Int)) 20 := by rw [e10]; exact vin (by rw [n_iZ (by omega)]; omega) (by rw [n_iZ (by omega)]; omega)
              refine ⟨v20', v20', fun σ37 h37 => fin σ37 ?_ (fun j hj => ?_)⟩
              · rw [h37]; exact kp_J (by decide)
              · have r1 : (1000 : Int64) * y19 = lZ (1000 * w) := by rw [show (1000 : Int64) = lZ 1000 from rfl, e19, lZ_mul]
                have n10 : (10 + iZ (o : Int)).toNatClampNeg = 10 + o := by rw [e10]; exact nat_iZ (by omega)
                have ecl : cbL C t o w j (lo C t o m) = if j = 10 + o then 1000 * w else 0 := by
                  rcases hor with hx | hx
                  · cases hl : lo C t o m with
                    | none => rfl
                    | some k =>
                      rw [hl] at hx
                      have hk := (fst_lt hl).1
                      have hnS : ((nS C : Nat) : Int) = C 200 11 := by unfold nS; omega
                      rw [hx] at z
                      have := congrArg Int32.toInt z
                      rw [t_m1, show oi (some k) = (k : Int) from rfl, n_iZ (by omega)] at this
                      omega
                  · rw [hx.2]
                    cases lo C t o m with
                    | none => rfl
                    | some k => unfold cbL; dsimp only; rw [Int.mul_zero, Int.mul_zero, Int.mul_zero]; simp
                rw [h37, gJ_sJ, n10, r1, ecl, d3 j hj, d3 (10 + o) (by omega)]
                by_cases q1 : j = 10 + o
                · rw [if_pos ⟨rfl, q1⟩, if_pos q1, lZ_add, q1]
                · rw [if_neg (fun w => q1 w.2), if_neg q1]
                  congr 1
                  omega
          rw [no1]
          refine jn2 ⟨fun z => step (-1) (Or.inr ⟨rfl, ?_⟩), fun z => m_leaseOf c9 hI (by omega) (by omega) h3 h4 ?_⟩
          · have z : y19.toInt ≤ 0 := Int64.le_iff_toInt_le.mp z
            omega
          · rw [tt1, to1, hm, show ((t : Nat) : Int).toNat = t from by omega, show ((o : Nat) : Int).toNat = o from by omega]
            exact step _ (Or.inl rfl)
  · rw [leT, ti1, t_20] at q
    have hrec := hrec (by omega)
    rw [ni]
    refine ⟨vin (by omega) (by omega), fun σ41 h41 x42 h42 => hrec _ ⟨?_, by rw [h42, iZ_s], fun j hj => ?_⟩⟩
    · show kp [224] τ σ41
      rw [h41]; exact kp_tr d1 (kp_J (by decide))
    · show gJ σ41 224 j = lZ 0
      rw [h41, gJ_sJ]
      by_cases q1 : j = i
      · rw [if_pos ⟨rfl, q1⟩]; rfl
      · rw [if_neg (fun z => q1 z.2)]; exact d3 j (by omega)
