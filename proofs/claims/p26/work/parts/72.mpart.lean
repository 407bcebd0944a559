/-! PURE: the model's parting -/
theorem bx_le (r : Nat → Int) : ∀ n, bx r (n + 1) ≤ n
  | 0 => by unfold bx bx; split <;> omega
  | n + 1 => by
    have := bx_le r n
    rw [bx]
    split
    · exact Nat.le_refl _
    · omega
theorem bx_1 (r : Nat → Int) : bx r 1 = 0 := Nat.le_zero.mp (bx_le r 0)
theorem rdn_2 {n : Nat} {s : (Nat → Int) × (Nat → Int)} : ∀ (g j : Nat), (rdn n s g).2 j = s.2 j ∨ (rdn n s g).2 j = -1
  | 0, j => Or.inl rfl
  | g + 1, j => by
    show (if j = bx (rdn n s g).2 n then -1 else (rdn n s g).2 j) = s.2 j ∨ (if j = bx (rdn n s g).2 n then -1 else (rdn n s g).2 j) = -1
    split
    · exact Or.inr rfl
    · exact rdn_2 g j
theorem pt_sum {a : Int} {w : Nat → Int} {S : Int} (hS : 0 < S) (n : Nat) : sm (fun j => a * w j / S) n * S + sm (fun j => a * w j % S) n = a * sm w n := by
  induction n with
  | zero => simp [sm]
  | succ n ih =>
    rw [sm_s, sm_s, sm_s, Int.add_mul, Int.mul_add, ← ih]
    have := Int.emod_add_mul_ediv (a * w n) S
    have e : a * w n / S * S = S * (a * w n / S) := Int.mul_comm _ _
    omega
theorem ptL_rg {a : Int} {w : Nat → Int} {n : Nat} (hn : 1 ≤ n) (hs : 0 < sm w n) : 0 ≤ a - sm (fun j => a * w j / sm w n) n ∧ a - sm (fun j => a * w j / sm w n) n ≤ n := by
  have h := pt_sum (a := a) (w := w) hs n
  have h1 : 0 ≤ sm (fun j => a * w j % sm w n) n := sm_nn (fun k _ => Int.emod_nonneg _ (by omega))
  have h2 : sm (fun j => a * w j % sm w n) n ≤ n * sm w n := by
    have := sm_le (f := fun j => a * w j % sm w n) (g := fun _ => sm w n) (n := n) (fun k _ => Int.le_of_lt (Int.emod_lt_of_pos _ hs))
    rwa [sm_const] at this
  generalize sm (fun j => a * w j / sm w n) n = q at *
  generalize sm (fun j => a * w j % sm w n) n = r at *
  generalize sm w n = S at *
  have e : (a - q) * S = r := by rw [Int.sub_mul]; omega
  constructor
  · apply Classical.byContradiction
    intro z
    have z : a - q ≤ -1 := by omega
    have := Int.mul_le_mul_of_nonneg_right z (Int.le_of_lt hs)
    rw [e] at this
    omega
  · apply Classical.byContradiction
    intro z
    have z : (n : Int) + 1 ≤ a - q := by omega
    have := Int.mul_le_mul_of_nonneg_right z (Int.le_of_lt hs)
    rw [e, Int.add_mul] at this
    omega
theorem m_parted {τ : Mm} {a : Int} {n : Nat} {w : Nat → Int} (hn : 1 ≤ n) (hn2 : n ≤ 20) (hw : ∀ i : Nat, i < n → gJ τ 225 i = lZ (w i)) (h0 : ∀ i : Nat, i < n → 0 ≤ w i) (hs : 0 < sm w n) (hs2 : sm w n < 9223372036854775808) (ha : 0 ≤ a) (ha2 : a < 9223372036854775808) (hb : a * sm w n < 9223372036854775808) {Q : Mm → Prop}
    (h : ∀ τ', kp [226, 227] τ τ' → (∀ i : Nat, i < n → gJ τ' 226 i = lZ (pt a w n i)) → Q τ') : wp_X7_parted τ (lZ a) (iZ (n : Int)) Q := by
  have tn : (iZ (n : Int)).toInt = n := n_iZ (by omega)
  obtain ⟨S, hS⟩ : ∃ S : Int, S = sm w n := ⟨_, rfl⟩
  -- the sum
  refine lpw_f (fun i => (lZ (sm w i), iZ (i : Int))) n rfl ?_
  intro i rec hi hrec
  have ti1 : (iZ (i : Int)).toInt = i := n_iZ (by omega)
  have ni : (iZ (i : Int)).toNatClampNeg = i := nat_iZ (by omega)
  refine ⟨fun q => ?_, fun q => ?_⟩
  · rw [leT, tn, ti1] at q
    have e : i = n := by omega
    subst e
    have tS : (lZ (sm w i)).toInt = sm w i := toInt_lZ (by omega) hs2
    -- the parts
    refine lpw_inv (fun k (s : Mm × Int64 × Int32) => kp [226, 227] τ s.1 ∧ s.2.1 = lZ (a - sm (fun j => a * w j / sm w i) k) ∧ s.2.2 = iZ (k : Int) ∧ ∀ j : Nat, j < k → gJ s.1 226 j = lZ (a * w j / sm w i) ∧ gJ s.1 227 j = lZ (a * w j % sm w i)) i ⟨kp_rf, by show lZ a = _; rw [sm_0, Int.sub_zero], rfl, fun j hj => by omega⟩ ?_
    intro k s rec hk hs0 hrec
    obtain ⟨σ5, y6, x7⟩ := s
    obtain ⟨d1, d2, d3, d4⟩ := hs0
    dsimp only at d1 d2 d3 d4
    subst d2 d3
    have tk : (iZ (k : Int)).toInt = k := n_iZ (by omega)
    have nk : (iZ (k : Int)).toNatClampNeg = k := nat_iZ (by omega)
    refine ⟨fun q => ?_, fun q => ?_⟩
    · rw [leT, tn, tk] at q
      have e : k = i := by omega
      subst e
      obtain ⟨l1, l2⟩ := ptL_rg (a := a) hn hs
      have tl : (lZ (a - sm (fun j => a * w j / sm w k) k)).toInt = a - sm (fun j => a * w j / sm w k) k := toInt_lZ (by omega) (by omega)
      have hL : ((ptL a w k : Nat) : Int) = a - sm (fun j => a * w j / sm w k) k := by unfold ptL; omega
      -- the rounds
      refine lpw_inv (fun g (s : Mm × Int32) => kp [226, 227] τ s.1 ∧ s.2 = iZ (g : Int) ∧ ∀ j : Nat, j < k → gJ s.1 226 j = lZ ((rdn k (ptA a w k) g).1 j) ∧ gJ s.1 227 j = lZ ((rdn k (ptA a w k) g).2 j)) (ptL a w k) ⟨d1, rfl, d4⟩ ?_
      intro g s rec hg hs1 hrec
      obtain ⟨σ10, x11⟩ := s
      obtain ⟨d1, d2, d3⟩ := hs1
      dsimp only at d1 d2 d3
      subst d2
      have tg : (iZ (g : Int)).toInt = g := n_iZ (by omega)
      have tg2 : (iZ (g : Int)).toInt64.toInt = g := by rw [i2l, tg]; exact toInt_lZ (by omega) (by omega)
      refine ⟨fun q => ?_, fun q => ?_⟩
      · rw [Int64.le_iff_toInt_le, tl, tg2] at q
        have e : g = ptL a w k := by omega
        subst e
        exact h σ10 d1 (fun j hj => (d3 j hj).1)
      · rw [Int64.le_iff_toInt_le, tl, tg2] at q
        have hrec := hrec (by omega)
        have rr : ∀ j, j < k → -1 ≤ (rdn k (ptA a w k) g).2 j ∧ (rdn k (ptA a w k) g).2 j < 9223372036854775808 := fun j hj => by
          have r1 : (ptA a w k).2 j = a * w j % sm w k := rfl
          have r2 := Int.emod_nonneg (a * w j) (show sm w k ≠ 0 by omega)
          have r3 := Int.emod_lt_of_pos (a * w j) hs
          rcases rdn_2 (n := k) (s := ptA a w k) g j with e | e <;> omega
        refine lpw_f (fun c => (iZ ((bx (rdn k (ptA a w k) g).2 (c + 1) : Nat) : Int), iZ ((c + 1 : Nat) : Int))) (k - 1) (by rw [bx_1]; rfl) ?_
        intro c rec2 hc hrec2
        have tc : (iZ ((c + 1 : Nat) : Int)).toInt = (c + 1 : Nat) := n_iZ (by omega)
        have nc : (iZ ((c + 1 : Nat) : Int)).toNatClampNeg = c + 1 := nat_iZ (by omega)
        have hb1 := bx_le (rdn k (ptA a w k) g).2 c
        have nb : (iZ ((bx (rdn k (ptA a w k) g).2 (c + 1) : Nat) : Int)).toNatClampNeg = bx (rdn k (ptA a w k) g).2 (c + 1) := nat_iZ (by omega)
        have tb : (iZ ((bx (rdn k (ptA a w k) g).2 (c + 1) : Nat) : Int)).toInt = bx (rdn k (ptA a w k) g).2 (c + 1) := n_iZ (by omega)
        have vb : vp_in (iZ ((bx (rdn k (ptA a w k) g).2 (c + 1) : Nat) : Int)) 20 := vin (by omega) (by omega)
        refine ⟨fun q2 => ?_, fun q2 => ?_⟩
        · rw [leT, tn, tc] at q2
          have e : c + 1 = k := by omega
          rw [nb]
          refine ⟨vb, vb, fun σ20 h20 => ⟨vb, fun σ22 h22 x23 h23 => hrec _ ⟨?_, by rw [h23, iZ_s], fun j hj => ?_⟩⟩⟩
          · show kp [226, 227] τ σ22
            rw [h22, h20]; exact kp_tr (kp_tr d1 (kp_J (by decide))) (kp_J (by decide))
          · show gJ σ22 226 j = _ ∧ gJ σ22 227 j = _
            have e1 : (rdn k (ptA a w k) (g + 1)).1 j = if j = bx (rdn k (ptA a w k) g).2 k then (rdn k (ptA a w k) g).1 j + 1 else (rdn k (ptA a w k) g).1 j := rfl
            have e2 : (rdn k (ptA a w k) (g + 1)).2 j = if j = bx (rdn k (ptA a w k) g).2 k then -1 else (rdn k (ptA a w k) g).2 j := rfl
            rw [e1, e2, h22, h20, gJ_sJ, gJ_sJ, gJ_sJ, gJ_sJ, e]
            obtain ⟨f1, f2⟩ := d3 j hj
            by_cases q3 : j = bx (rdn k (ptA a w k) g).2 k
            · rw [if_neg (by omega), if_pos ⟨rfl, q3⟩, if_pos q3, if_pos ⟨rfl, q3⟩, if_pos q3, ← q3, f1]
              refine ⟨?_, rfl⟩
              rw [show (1 : Int64) = lZ 1 from rfl, lZ_add]
            · rw [if_neg (by omega), if_neg (fun z => q3 z.2), if_neg q3, if_neg (fun z => q3 z.2), if_neg (by omega), if_neg q3]
              exact ⟨f1, f2⟩
        · rw [leT, tn, tc] at q2
          have hrec2 := hrec2 (by omega)
          rw [nc, nb]
          refine ⟨vin (by omega) (by omega), vb, ?_⟩
          have f1 := (d3 (c + 1) (by omega)).2
          have f2 := (d3 (bx (rdn k (ptA a w k) g).2 (c + 1)) (by omega)).2
          have r1 := rr (c + 1) (by omega)
          have r2 := rr (bx (rdn k (ptA a w k) g).2 (c + 1)) (by omega)
          rw [f1, f2]
          have eb : bx (rdn k (ptA a w k) g).2 (c + 1 + 1) = if (rdn k (ptA a w k) g).2 (bx (rdn k (ptA a w k) g).2 (c + 1)) < (rdn k (ptA a w k) g).2 (c + 1) then c + 1 else bx (rdn k (ptA a w k) g).2 (c + 1) := rfl
          refine jn1 ⟨fun z x28 h28 => hrec2 _ ?_, fun z x28 h28 => hrec2 _ ?_⟩
          · rw [lZ_le (by omega) (by omega) (by omega) (by omega)] at z
            rw [h28, iZ_s, eb, if_neg (by omega)]
          · rw [lZ_le (by omega) (by omega) (by omega) (by omega)] at z
            rw [h28, iZ_s, eb, if_pos (by omega)]
    · rw [leT, tn, tk] at q
      have hrec := hrec (by omega)
      have v20 : vp_in (iZ (k : Int)) 20 := vin (by omega) (by omega)
      have y0 : ¬ lZ (sm w i) = 0 := fun z => by
        have := congrArg Int64.toInt z
        rw [tS, show (0 : Int64).toInt = 0 from rfl] at this
        omega
      rw [nk]
      have wk : gJ σ5 225 k = lZ (w k) := by rw [(d1 225 (by decide)).2, hw k (by omega)]
      have w0 := h0 k (by omega)
      have w1 := sm_part h0 (i := k) (by omega)
      have p0 : 0 ≤ a * w k := Int.mul_nonneg ha w0
      have p1 : a * w k ≤ a * sm w i := Int.mul_le_mul_of_nonneg_left w1 ha
      have eD : lZ a * lZ (w k) / lZ (sm w i) = lZ (a * w k / sm w i) := by rw [lZ_mul]; exact lZ_div p0 (by omega) hs hs2
      have eR : lZ a * lZ (w k) - lZ a * lZ (w k) / lZ (sm w i) * lZ (sm w i) = lZ (a * w k % sm w i) := by rw [lZ_mul]; exact lZ_rem p0 (by omega) hs hs2
      refine ⟨v20, y0, v20, fun σ32 h32 => ⟨v20, y0, v20, fun σ36 h36 => ⟨v20, fun y38 h38 x39 h39 => hrec _ ?_⟩⟩⟩
      have wk2 : gJ σ32 225 k = lZ (w k) := by rw [h32, gJ_sJ, if_neg (by omega), wk]
      rw [wk, eD] at h32
      rw [wk2, eR] at h36
      have k36 : kp [226, 227] σ5 σ36 := by rw [h36, h32]; exact kp_tr (kp_J (by decide)) (kp_J (by decide))
      have g36 : ∀ j, gJ σ36 226 j = if j = k then lZ (a * w k / sm w i) else gJ σ5 226 j := fun j => by
        rw [h36, gJ_sJ, if_neg (by omega), h32, gJ_sJ]
        by_cases z : j = k
        · rw [if_pos ⟨rfl, z⟩, if_pos z]
        · rw [if_neg (fun y => z y.2), if_neg z]
      have g37 : ∀ j, gJ σ36 227 j = if j = k then lZ (a * w k % sm w i) else gJ σ5 227 j := fun j => by
        rw [h36, gJ_sJ]
        by_cases z : j = k
        · rw [if_pos ⟨rfl, z⟩, if_pos z]
        · rw [if_neg (fun y => z y.2), if_neg z, h32, gJ_sJ, if_neg (by omega)]
      refine ⟨kp_tr d1 k36, ?_, by rw [h39, iZ_s], fun j hj => ?_⟩
      · show y38 = _
        rw [h38, g36, if_pos rfl, lZ_sub, sm_s]
        congr 1
        omega
      · show gJ σ36 226 j = _ ∧ gJ σ36 227 j = _
        rw [g36, g37]
        by_cases z : j = k
        · subst z; rw [if_pos rfl, if_pos rfl]; exact ⟨rfl, rfl⟩
        · rw [if_neg z, if_neg z]; exact d4 j (by omega)
  · rw [leT, tn, ti1] at q
    have hrec := hrec (by omega)
    rw [ni]
    refine ⟨vin (by omega) (by omega), fun y41 h41 x42 h42 => hrec _ ?_⟩
    rw [h41, h42, iZ_s, hw i (by omega), lZ_add, sm_s]
