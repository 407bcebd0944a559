/-! PURE: the class's parting -/
/-- a parting: its slots and their length -/
def PT (L : List Nat) (k0 n : Nat) : Prop := LV (Fc ++ L) k0 2 ∧ LV (Fc ++ L) (k0 + 1) 9 ∧ LV (Fc ++ L) (k0 + 2) 9 ∧ LV (Fc ++ L) (k0 + 3) 9 ∧ ln (k0 + 1) = n ∧ ln (k0 + 2) = n ∧ ln (k0 + 3) = n
theorem pt_9 {L : List Nat} : PT L 9 20 := ⟨⟨fx_9, rfl⟩, ⟨fx_10, rfl⟩, ⟨fx_11, rfl⟩, ⟨fx_12, rfl⟩, rfl, rfl, rfl⟩
theorem pt_13 {L : List Nat} : PT L 13 10 := ⟨⟨fx_13, rfl⟩, ⟨fx_14, rfl⟩, ⟨fx_15, rfl⟩, ⟨fx_16, rfl⟩, rfl, rfl, rfl⟩
theorem on_T {n : Nat} (h : n ≤ 20) : (Int32.ofNat n).toInt = n := by
  have e : Int32.ofNat n = iZ (n : Int) := (Int32.ofInt_eq_ofNat).symm
  rw [e, n_iZ (by omega)]
theorem k_clear {L : List Nat} {σ : Mm} {k0 n : Nat} (hP : PT L k0 n) (hn : n ≤ 20) {Q : Mm → Prop} (h : ∀ σ', kq [k0 + 1] σ σ' → (∀ j : Nat, j < n → gJ σ' (k0 + 1) j = lZ 0) → Q σ') : wp_X2_clear L σ k0 Q := by
  obtain ⟨l0, l1, l2, l3, n1, n2, n3⟩ := hP
  refine lpw_inv (fun i (s : Mm × Int32) => kq [k0 + 1] σ s.1 ∧ s.2 = iZ (i : Int) ∧ ∀ j : Nat, j < i → gJ s.1 (k0 + 1) j = lZ 0) n ⟨kq_rf, rfl, fun j hj => by omega⟩ ?_
  intro i s rec hi hs0 hrec
  obtain ⟨σ1, x2⟩ := s
  obtain ⟨k1, e1, B1⟩ := hs0
  dsimp only at k1 e1 B1
  subst e1
  have ti1 : (iZ (i : Int)).toInt = i := n_iZ (by omega)
  have ni : (iZ (i : Int)).toNatClampNeg = i := nat_iZ (by omega)
  refine ⟨l0, l1, fun q => ?_, fun q => ?_⟩
  · rw [n1, leT, on_T hn, ti1] at q
    have e : i = n := by omega
    subst e
    exact h σ1 k1 B1
  · rw [n1, leT, on_T hn, ti1] at q
    have hrec := hrec (by omega)
    rw [n1, ni]
    refine ⟨vin (by omega) (by omega), fun σ8 h8 x9 h9 => hrec _ ⟨?_, by rw [h9, iZ_s], fun o ho => ?_⟩⟩
    · show kq [k0 + 1] σ σ8
      rw [h8]; exact kq_tr k1 (kq_J (by simp))
    · show gJ σ8 (k0 + 1) o = _
      rw [h8, gJ_sJ]
      by_cases z : o = i
      · rw [if_pos ⟨rfl, z⟩]; rfl
      · rw [if_neg (fun y => z y.2)]; exact B1 o (by omega)
theorem k_giveOne {L : List Nat} {σ : Mm} {k0 n : Nat} (hP : PT L k0 n) (hn1 : 1 ≤ n) (hn : n ≤ 20) {r : Nat → Int} (hr : ∀ j : Nat, j < n → gJ σ (k0 + 3) j = lZ (r j)) (rr : ∀ j : Nat, j < n → -1 ≤ r j ∧ r j < 9223372036854775808) {Q : Mm → Prop}
    (h : ∀ σ', kq [k0 + 2, k0 + 3] σ σ' → (∀ j : Nat, gJ σ' (k0 + 2) j = if j = bx r n then gJ σ (k0 + 2) j + 1 else gJ σ (k0 + 2) j) → (∀ j : Nat, gJ σ' (k0 + 3) j = if j = bx r n then lZ (-1) else gJ σ (k0 + 3) j) → Q σ') : wp_X2_giveOne L σ k0 Q := by
  obtain ⟨l0, l1, l2, l3, n1, n2, n3⟩ := hP
  refine lpw_f (fun c => (iZ ((bx r (c + 1) : Nat) : Int), iZ ((c + 1 : Nat) : Int))) (n - 1) (by rw [bx_1]; rfl) ?_
  intro c rec2 hc hrec2
  have tc : (iZ ((c + 1 : Nat) : Int)).toInt = (c + 1 : Nat) := n_iZ (by omega)
  have nc : (iZ ((c + 1 : Nat) : Int)).toNatClampNeg = c + 1 := nat_iZ (by omega)
  have hb1 := bx_le r c
  have nb : (iZ ((bx r (c + 1) : Nat) : Int)).toNatClampNeg = bx r (c + 1) := nat_iZ (by omega)
  have tb : (iZ ((bx r (c + 1) : Nat) : Int)).toInt = bx r (c + 1) := n_iZ (by omega)
  have vb : vp_in (iZ ((bx r (c + 1) : Nat) : Int)) n := vin (by omega) (by omega)
  refine ⟨l0, l3, ?_⟩
  rw [n3, n2]
  refine ⟨fun q2 => ?_, fun q2 => ?_⟩
  · rw [leT, on_T hn, tc] at q2
    have e : c + 1 = n := by omega
    rw [nb]
    refine ⟨l2, vb, vb, fun σ20 h20 => ⟨vb, fun σ22 h22 => h σ22 ?_ (fun j => ?_) (fun j => ?_)⟩⟩
    · rw [h22, h20]; exact kq_tr (kq_J (by simp)) (kq_J (by simp))
    · rw [h22, h20, gJ_sJ, gJ_sJ, e]
      by_cases z : j = bx r n
      · rw [if_neg (by omega), if_pos ⟨rfl, z⟩, if_pos z, z]
      · rw [if_neg (by omega), if_neg (fun y => z y.2), if_neg z]
    · rw [h22, h20, gJ_sJ, gJ_sJ, e]
      by_cases z : j = bx r n
      · rw [if_pos ⟨rfl, z⟩, if_pos z]; rfl
      · rw [if_neg (fun y => z y.2), if_neg (by omega), if_neg z]
  · rw [leT, on_T hn, tc] at q2
    have hrec2 := hrec2 (by omega)
    rw [nc, nb]
    refine ⟨vin (by omega) (by omega), vb, ?_⟩
    have r1 := rr (c + 1) (by omega)
    have r2 := rr (bx r (c + 1)) (by omega)
    rw [hr (c + 1) (by omega), hr (bx r (c + 1)) (by omega)]
    have eb : bx r (c + 1 + 1) = if r (bx r (c + 1)) < r (c + 1) then c + 1 else bx r (c + 1) := rfl
    refine jn1 ⟨fun z x28 h28 => hrec2 _ ?_, fun z x28 h28 => hrec2 _ ?_⟩
    · rw [lZ_le (by omega) (by omega) (by omega) (by omega)] at z
      rw [h28, iZ_s, eb, if_neg (by omega)]
    · rw [lZ_le (by omega) (by omega) (by omega) (by omega)] at z
      rw [h28, iZ_s, eb, if_pos (by omega)]
