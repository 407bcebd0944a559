/-! PURE: the class's parting, on -/
theorem brL {c A B V : Prop} (hc : ¬ c) (hV : V) (h : B) : (c → A) ∧ (¬ c → V ∧ B) := ⟨fun q => absurd q hc, fun _ => ⟨hV, h⟩⟩
theorem k_partOut {L : List Nat} {σ : Mm} {k0 n : Nat} (hP : PT L k0 n) (hn : 1 ≤ n) (hn2 : n ≤ 20) {a : Int} {w : Nat → Int} (hw : ∀ i : Nat, i < n → gJ σ (k0 + 1) i = lZ (w i)) (h0 : ∀ i : Nat, i < n → 0 ≤ w i) (hs : 0 < sm w n) (hs2 : sm w n < 9223372036854775808) (ha : 0 ≤ a) (ha2 : a < 9223372036854775808) (hb : a * sm w n < 9223372036854775808) {Q : Mm → Prop}
    (h : ∀ σ', kq [k0 + 2, k0 + 3] σ σ' → (∀ i : Nat, i < n → gJ σ' (k0 + 2) i = lZ (pt a w n i)) → Q σ') : wp_X2_partOut L σ k0 (lZ a) Q := by
  have hP' := hP
  obtain ⟨l0, l1, l2, l3, n1, n2, n3⟩ := hP
  have tn := on_T hn2
  refine ⟨l0, l1, fun x3 e3 => ?_⟩
  rw [n1] at e3
  subst e3
  refine lpw_f (fun i => (lZ (sm w i), iZ (i : Int))) n rfl ?_
  intro i rec hi hrec
  have ti1 : (iZ (i : Int)).toInt = i := n_iZ (by omega)
  have ni : (iZ (i : Int)).toNatClampNeg = i := nat_iZ (by omega)
  refine ⟨fun q => ?_, fun q => ?_⟩
  · rw [leT, tn, ti1] at q
    have e : i = n := by omega
    subst e
    have tS : (lZ (sm w i)).toInt = sm w i := toInt_lZ (by omega) hs2
    rw [n1]
    refine lpw_inv (fun k (s : Mm × Int64 × Int32) => kq [k0 + 2, k0 + 3] σ s.1 ∧ s.2.1 = lZ (a - sm (fun j => a * w j / sm w i) k) ∧ s.2.2 = iZ (k : Int) ∧ ∀ j : Nat, j < k → gJ s.1 (k0 + 2) j = lZ (a * w j / sm w i) ∧ gJ s.1 (k0 + 3) j = lZ (a * w j % sm w i)) i ⟨kq_rf, by show lZ a = _; rw [sm_0, Int.sub_zero], rfl, fun j hj => by omega⟩ ?_
    intro k s rec hk hs0 hrec
    obtain ⟨σ5, y6, x7⟩ := s
    obtain ⟨d1, d2, d3, d4⟩ := hs0
    dsimp only at d1 d2 d3 d4
    subst d2 d3
    have tk : (iZ (k : Int)).toInt = k := n_iZ (by omega)
    have nk : (iZ (k : Int)).toNatClampNeg = k := nat_iZ (by omega)
    refine ⟨fun q => ?_, fun q => ?_⟩
    · rw [leT, tn, tk] at q
      have e : k = i := by omega
      subst e
      obtain ⟨p1, p2⟩ := ptL_rg (a := a) hn hs
      have tl : (lZ (a - sm (fun j => a * w j / sm w k) k)).toInt = a - sm (fun j => a * w j / sm w k) k := toInt_lZ (by omega) (by omega)
      have hL : ((ptL a w k : Nat) : Int) = a - sm (fun j => a * w j / sm w k) k := by unfold ptL; omega
      refine lpw_inv (fun g (s : Mm × Int32) => kq [k0 + 2, k0 + 3] σ s.1 ∧ s.2 = iZ (g : Int) ∧ ∀ j : Nat, j < k → gJ s.1 (k0 + 2) j = lZ ((rdn k (ptA a w k) g).1 j) ∧ gJ s.1 (k0 + 3) j = lZ ((rdn k (ptA a w k) g).2 j)) (ptL a w k) ⟨d1, rfl, d4⟩ ?_
      intro g s rec hg hs1 hrec
      obtain ⟨σ10, x11⟩ := s
      obtain ⟨d1, d2, d3⟩ := hs1
      dsimp only at d1 d2 d3
      subst d2
      have tg : (iZ (g : Int)).toInt = g := n_iZ (by omega)
      have tg2 : (iZ (g : Int)).toInt64.toInt = g := by rw [i2l, tg]; exact toInt_lZ (by omega) (by omega)
      refine jn0 ⟨fun q => ?_, fun q => ⟨fun q2 => ?_, fun q2 => ?_⟩⟩
      · rw [Int64.le_iff_toInt_le, tl, tg2] at q
        have e : g = ptL a w k := by omega
        subst e
        exact h σ10 d1 (fun j hj => (d3 j hj).1)
      · rw [Int64.le_iff_toInt_le, tl, tg2] at q
        rw [leT, tn, tg] at q2
        omega
      · rw [Int64.le_iff_toInt_le, tl, tg2] at q
        have hrec := hrec (by omega)
        have rr : ∀ j, j < k → -1 ≤ (rdn k (ptA a w k) g).2 j ∧ (rdn k (ptA a w k) g).2 j < 9223372036854775808 := fun j hj => by
          have r1 : (ptA a w k).2 j = a * w j % sm w k := rfl
          have r2 := Int.emod_nonneg (a * w j) (show sm w k ≠ 0 by omega)
          have r3 := Int.emod_lt_of_pos (a * w j) hs
          rcases rdn_2 (n := k) (s := ptA a w k) g j with e | e <;> omega
        refine k_giveOne hP' hn hn2 (r := (rdn k (ptA a w k) g).2) (fun j hj => (d3 j hj).2) rr (fun σ18 k18 G2 G3 x19 h19 => hrec _ ⟨kq_tr d1 k18, by rw [h19, iZ_s], fun j hj => ?_⟩)
        show gJ σ18 (k0 + 2) j = _ ∧ gJ σ18 (k0 + 3) j = _
        have e1 : (rdn k (ptA a w k) (g + 1)).1 j = if j = bx (rdn k (ptA a w k) g).2 k then (rdn k (ptA a w k) g).1 j + 1 else (rdn k (ptA a w k) g).1 j := rfl
        have e2 : (rdn k (ptA a w k) (g + 1)).2 j = if j = bx (rdn k (ptA a w k) g).2 k then -1 else (rdn k (ptA a w k) g).2 j := rfl
        obtain ⟨f1, f2⟩ := d3 j hj
        rw [e1, e2, G2, G3, f1, f2]
        by_cases q3 : j = bx (rdn k (ptA a w k) g).2 k
        · rw [if_pos q3, if_pos q3, if_pos q3, if_pos q3]
          refine ⟨?_, rfl⟩
          rw [show (1 : Int64) = lZ 1 from rfl, lZ_add]
        · rw [if_neg q3, if_neg q3, if_neg q3, if_neg q3]
          exact ⟨rfl, rfl⟩
    · rw [leT, tn, tk] at q
      have hrec := hrec (by omega)
      have v20 : vp_in (iZ (k : Int)) i := vin (by omega) (by omega)
      have y0 : ¬ lZ (sm w i) = 0 := fun z => by
        have := congrArg Int64.toInt z
        rw [tS, show (0 : Int64).toInt = 0 from rfl] at this
        omega
      have yp : ¬ lZ (sm w i) ≤ 0 := fun z => by
        rw [Int64.le_iff_toInt_le, tS, show (0 : Int64).toInt = 0 from rfl] at z
        omega
      rw [nk, n2, n3]
      have wk : gJ σ5 (k0 + 1) k = lZ (w k) := by rw [(d1.1 (k0 + 1) (by simp)).2, hw k (by omega)]
      have w0 := h0 k (by omega)
      have w1 := sm_part h0 (i := k) (by omega)
      have p0 : 0 ≤ a * w k := Int.mul_nonneg ha w0
      have p1 : a * w k ≤ a * sm w i := Int.mul_le_mul_of_nonneg_left w1 ha
      have eD : lZ (a * w k) / lZ (sm w i) = lZ (a * w k / sm w i) := lZ_div p0 (by omega) hs hs2
      have eR : lZ (a * w k) - lZ (a * w k) / lZ (sm w i) * lZ (sm w i) = lZ (a * w k % sm w i) := lZ_rem p0 (by omega) hs hs2
      rw [wk]
      refine ⟨v20, fun y21 e21 => ?_⟩
      rw [lZ_mul] at e21
      subst e21
      rw [eR, eD]
      refine jn1 (brL yp y0 ⟨l2, v20, fun σ26 h26 => jn1 (brL yp y0 ⟨l3, v20, fun σ31 h31 => ⟨v20, fun y33 h33 x34 h34 => hrec _ ?_⟩⟩)⟩)
      have k31 : kq [k0 + 2, k0 + 3] σ5 σ31 := by rw [h31, h26]; exact kq_tr (kq_J (by simp)) (kq_J (by simp))
      have g36 : ∀ j, gJ σ31 (k0 + 2) j = if j = k then lZ (a * w k / sm w i) else gJ σ5 (k0 + 2) j := fun j => by
        rw [h31, gJ_sJ, if_neg (by omega), h26, gJ_sJ]
        by_cases z : j = k
        · rw [if_pos ⟨rfl, z⟩, if_pos z]
        · rw [if_neg (fun y => z y.2), if_neg z]
      have g37 : ∀ j, gJ σ31 (k0 + 3) j = if j = k then lZ (a * w k % sm w i) else gJ σ5 (k0 + 3) j := fun j => by
        rw [h31, gJ_sJ]
        by_cases z : j = k
        · rw [if_pos ⟨rfl, z⟩, if_pos z]
        · rw [if_neg (fun y => z y.2), if_neg z, h26, gJ_sJ, if_neg (by omega)]
      refine ⟨kq_tr d1 k31, ?_, by rw [h34, iZ_s], fun j hj => ?_⟩
      · show y33 = _
        rw [h33, g36, if_pos rfl, lZ_sub, sm_s]
        congr 1
        omega
      · show gJ σ31 (k0 + 2) j = _ ∧ gJ σ31 (k0 + 3) j = _
        rw [g36, g37]
        by_cases z : j = k
        · subst z; rw [if_pos rfl, if_pos rfl]; exact ⟨rfl, rfl⟩
        · rw [if_neg z, if_neg z]; exact d4 j (by omega)
  · rw [leT, tn, ti1] at q
    have hrec := hrec (by omega)
    rw [n1, ni]
    refine ⟨vin (by omega) (by omega), fun y38 h38 y39 h39 x40 h40 => hrec _ ?_⟩
    rw [h39, h38, h40, iZ_s, hw i (by omega), lZ_add, sm_s]
