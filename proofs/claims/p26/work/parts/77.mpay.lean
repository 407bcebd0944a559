/-! PURE: what the model owes, and its pay day -/
theorem m_owes {τ : Mm} {C : Cr} (hc : core τ = C) (hI : Inv C) {Q : Mm → Prop}
    (h : ∀ τ', kp [224, 225, 226, 227, 228, 229, 230, 231] τ τ' → (∀ o : Nat, o < 10 → gJ τ' 231 o = lZ (ow C o)) → Q τ') : wp_X7_owes τ Q := by
  have hu := hI.nu
  have hn := hI.now
  have hnU : ((nU C : Nat) : Int) = C 200 18 := by unfold nU; omega
  have hnN : ((nN C : Nat) : Int) = C 200 0 := by unfold nN; omega
  refine lpw_inv (fun i (s : Mm × Int32) => kp [231] τ s.1 ∧ s.2 = iZ (i : Int) ∧ ∀ o : Nat, o < i → gJ s.1 231 o = lZ (-C 223 o)) 10 ⟨kp_rf, rfl, fun o ho => by omega⟩ ?_
  intro i s rec hi hs0 hrec
  obtain ⟨σ1, x2⟩ := s
  obtain ⟨k1, e1, O1⟩ := hs0
  dsimp only at k1 e1 O1
  subst e1
  have ti1 : (iZ (i : Int)).toInt = i := n_iZ (by omega)
  have ni : (iZ (i : Int)).toNatClampNeg = i := nat_iZ (by omega)
  have c1 := kp_core k1 (by decide) hc
  refine ⟨fun q => ?_, fun q => ?_⟩
  rotate_left
  · rw [leT, ti1, t_10] at q
    have hrec := hrec (by omega)
    have e : gJ σ1 223 i = lZ (C 223 i) := by rw [core_J, c1]
    rw [ni, e, lZ_neg]
    refine ⟨vin (by omega) (by omega), vin (by omega) (by omega), fun σ14 h14 x15 h15 => hrec _ ⟨?_, by rw [h15, iZ_s], fun o ho => ?_⟩⟩
    · show kp [231] τ σ14
      rw [h14]; exact kp_tr k1 (kp_J (by decide))
    · show gJ σ14 231 o = _
      rw [h14, gJ_sJ]
      by_cases z : o = i
      · rw [if_pos ⟨rfl, z⟩, z]
      · rw [if_neg (fun y => z y.2)]; exact O1 o (by omega)
  rw [leT, ti1, t_10] at q
  have e : i = 10 := by omega
  subst e
  clear hrec q
  -- the units
  refine lpw_inv (fun u (s : Mm × Int32) => kp [224, 225, 226, 227, 228, 229, 230, 231] τ s.1 ∧ s.2 = iZ (u : Int) ∧ ∀ o : Nat, o < 10 → gJ s.1 231 o = lZ (-C 223 o + sm (fun u => sm (fun j => du C u (um C u + j) o) (nN C + 1 - um C u)) u)) (nU C) ⟨kp_up k1 (by decide), rfl, fun o ho => by rw [sm_0, Int.add_zero]; exact O1 o ho⟩ ?_
  intro u s rec hu2 hs0 hrec
  obtain ⟨σ5, x6⟩ := s
  obtain ⟨k5, e5, O5⟩ := hs0
  dsimp only at k5 e5 O5
  subst e5
  have tu : (iZ (u : Int)).toInt = u := n_iZ (by omega)
  have nu : (iZ (u : Int)).toNatClampNeg = u := nat_iZ (by omega)
  have c5 := kp_core k5 (by decide) hc
  have g18 : (gI σ5 200 18).toInt = C 200 18 := c0 c5 (by decide)
  refine ⟨fun q => ?_, fun q => ?_⟩
  · rw [leT, g18, tu] at q
    have e : u = nU C := by omega
    subst e
    exact h σ5 k5 O5
  rw [leT, g18, tu] at q
  have hlt : u < nU C := by omega
  have hrec := hrec hlt
  have hum := um_eq hI hlt
  have hun := hI.un u hlt
  clear q
  -- nothing is balanced
  refine lpw_inv (fun i (s : Mm × Int32) => kp [229] σ5 s.1 ∧ s.2 = iZ (i : Int) ∧ ∀ o : Nat, o < i → gJ s.1 229 o = lZ 0) 10 ⟨kp_rf, rfl, fun o ho => by omega⟩ ?_
  intro i s rec2 hi hs0 hrec2
  obtain ⟨σ9, x10⟩ := s
  obtain ⟨k9, e9, B9⟩ := hs0
  dsimp only at k9 e9 B9
  subst e9
  have ti1 : (iZ (i : Int)).toInt = i := n_iZ (by omega)
  have ni : (iZ (i : Int)).toNatClampNeg = i := nat_iZ (by omega)
  refine ⟨fun q => ?_, fun q => ?_⟩
  rotate_left
  · rw [leT, ti1, t_10] at q
    have hrec2 := hrec2 (by omega)
    rw [ni]
    refine ⟨vin (by omega) (by omega), fun σ14 h14 x15 h15 => hrec2 _ ⟨?_, by rw [h15, iZ_s], fun o ho => ?_⟩⟩
    · show kp [229] σ5 σ14
      rw [h14]; exact kp_tr k9 (kp_J (by decide))
    · show gJ σ14 229 o = _
      rw [h14, gJ_sJ]
      by_cases z : o = i
      · rw [if_pos ⟨rfl, z⟩]; rfl
      · rw [if_neg (fun y => z y.2)]; exact B9 o (by omega)
  rw [leT, ti1, t_10] at q
  have e : i = 10 := by omega
  subst e
  clear hrec2 q
  have c9 := kp_core k9 (by decide) c5
  rw [nu]
  refine ⟨vin (by omega) (by omega), fun x14 e14 => ?_⟩
  have g215 : (gI σ9 215 u).toInt = C 215 u := cK c9 (by decide)
  have e14 : x14 = iZ ((um C u + 0 : Nat) : Int) := by
    rw [e14, ← iZ_toInt (gI σ9 215 u), g215, ← hum]; rfl
  subst e14
  -- its months
  refine lpw_inv (fun j (s : Mm × Int32) => kp [224, 225, 226, 227, 228, 229, 230, 231] τ s.1 ∧ s.2 = iZ ((um C u + j : Nat) : Int) ∧ (∀ o : Nat, o < 10 → gJ s.1 229 o = lZ (bl C u j o)) ∧ ∀ o : Nat, o < 10 → gJ s.1 231 o = lZ (-C 223 o + sm (fun u => sm (fun j => du C u (um C u + j) o) (nN C + 1 - um C u)) u + sm (fun j => du C u (um C u + j) o) j)) (nN C + 1 - um C u) ⟨kp_tr k5 (kp_up k9 (by decide)), rfl, B9, fun o ho => by rw [sm_0, Int.add_zero]; exact kJ k9 (by decide) (O5 o ho)⟩ ?_
  intro j s rec3 hj hs0 hrec3
  obtain ⟨σ15, x16⟩ := s
  obtain ⟨k15, e15, B15, O15⟩ := hs0
  dsimp only at k15 e15 B15 O15
  subst e15
  have tj : (iZ ((um C u + j : Nat) : Int)).toInt = (um C u + j : Nat) := n_iZ (by omega)
  have c15 := kp_core k15 (by decide) hc
  have g0 : (gI σ15 200 0).toInt = C 200 0 := c0 c15 (by decide)
  refine ⟨fun q => ?_, fun q => ?_⟩
  · rw [ltT, tj, g0] at q
    have e : j = nN C + 1 - um C u := by omega
    subst e
    exact fun x19 h19 => hrec _ ⟨k15, by rw [h19, iZ_s], fun o ho => by rw [sm_s, ← Int.add_assoc]; exact O15 o ho⟩
  rw [ltT, tj, g0] at q
  have hrec3 := hrec3 (by omega)
  refine m_settles (u := u) (m := um C u + j) (b := bl C u j) c15 hI tu hlt tj (by omega) B15 (fun o ho => by have := bl_rg hI hlt j (by omega) o ho; omega) (fun σ20 k20 B20 U20 => ?_)
  have O20 : ∀ o : Nat, o < 10 → gJ σ20 231 o = lZ (-C 223 o + sm (fun u => sm (fun j => du C u (um C u + j) o) (nN C + 1 - um C u)) u + sm (fun j => du C u (um C u + j) o) j) := fun o ho => kJ k20 (by decide) (O15 o ho)
  have U20 : ∀ o : Nat, o < 10 → gJ σ20 230 o = lZ (du C u (um C u + j) o) := fun o ho => by
    rw [U20 o ho]
    unfold du
    rw [show um C u + j - um C u = j from by omega]
  -- onto what is owed
  refine lpw_inv (fun i (s : Mm × Int32) => kp [231] σ20 s.1 ∧ s.2 = iZ (i : Int) ∧ ∀ o : Nat, o < 10 → gJ s.1 231 o = lZ (-C 223 o + sm (fun u => sm (fun j => du C u (um C u + j) o) (nN C + 1 - um C u)) u + sm (fun j => du C u (um C u + j) o) (if o < i then j + 1 else j))) 10 ⟨kp_rf, rfl, fun o ho => by rw [if_neg (by omega)]; exact O20 o ho⟩ ?_
  intro i s rec4 hi hs0 hrec4
  obtain ⟨σ21, x22⟩ := s
  obtain ⟨k21, e21, O21⟩ := hs0
  dsimp only at k21 e21 O21
  subst e21
  have ti1 : (iZ (i : Int)).toInt = i := n_iZ (by omega)
  have ni : (iZ (i : Int)).toNatClampNeg = i := nat_iZ (by omega)
  refine ⟨fun q => ?_, fun q => ?_⟩
  · rw [leT, ti1, t_10] at q
    have e : i = 10 := by omega
    subst e
    refine fun x25 h25 => hrec3 _ ⟨kp_tr k15 (kp_tr (kp_up k20 (by decide)) (kp_up k21 (by decide))), ?_, fun o ho => kJ k21 (by decide) (B20 o ho), fun o ho => ?_⟩
    · show x25 = _
      rw [h25, iZ_s]; rfl
    · show gJ σ21 231 o = _
      rw [O21 o ho, if_pos ho]
  · rw [leT, ti1, t_10] at q
    have hrec4 := hrec4 (by omega)
    have hi10 : i < 10 := by omega
    have v := vin (a := iZ (i : Int)) (n := 10) (by omega) (by omega)
    have Oi : gJ σ21 231 i = lZ (-C 223 i + sm (fun u => sm (fun j => du C u (um C u + j) i) (nN C + 1 - um C u)) u + sm (fun j => du C u (um C u + j) i) j) := by rw [O21 i hi10, if_neg (Nat.lt_irrefl i)]
    have Ui : gJ σ21 230 i = lZ (du C u (um C u + j) i) := kJ k21 (by decide) (U20 i hi10)
    rw [ni, Oi, Ui, lZ_add]
    refine ⟨v, v, v, fun σ29 h29 x30 h30 => hrec4 _ ⟨?_, by rw [h30, iZ_s], fun o ho => ?_⟩⟩
    · show kp [231] σ20 σ29
      rw [h29]; exact kp_tr k21 (kp_J (by decide))
    · show gJ σ29 231 o = _
      rw [h29, gJ_sJ]
      by_cases z : o = i
      · subst z
        rw [if_pos ⟨rfl, rfl⟩, if_pos (Nat.lt_succ_self o), sm_s, Int.add_assoc]
      · rw [if_neg (fun y => z y.2), O21 o ho]
        by_cases z2 : o < i
        · rw [if_pos z2, if_pos (by omega)]
        · rw [if_neg z2, if_neg (by omega)]
theorem M_owed {τ : Mm} {C : Cr} (hc : core τ = C) (hI : Inv C) {a1 : Int32} {Q : Int64 → Mm → Prop}
    (hn : ¬ dOw a1.toInt → ∀ τ', core τ' = C → gI τ' 200 39 = 1 → Q 0 τ')
    (hy : dOw a1.toInt → ∀ τ', core τ' = C → gI τ' 200 39 = 0 → Q (lZ (ow C a1.toInt.toNat)) τ') : wp_X7_owed τ a1 Q := by
  refine m_owner (m_goesD (d1 := dOw a1.toInt) (d2 := True) (d3 := True) rfl bz1 bz1 (fun _ => Iff.rfl) (fun _ _ => Iff.rfl) (fun q σ' k1 k2 => ?_) (fun q1 _ _ σ' k1 k2 => ?_))
  · have q : ¬ dOw a1.toInt := fun z => q ⟨z, trivial, trivial⟩
    exact br_n (fun z => z rfl) (hn q σ' (k1.trans hc) (k2.trans (if_neg q)))
  · have k1 := k1.trans hc
    refine br_y (by decide) (m_owes k1 hI (fun s ks O => ⟨vin q1.1 (by omega), ?_⟩))
    have := hy q1 s (kp_core ks (by decide) k1) ((kp_t ks (by decide)).trans k2)
    rw [cl_T, O _ (by omega)]
    exact this
abbrev py (C : Cr) (o : Nat) : Prop := C 222 o = 0 ∧ C 200 28 ≤ (lZ (ow C o)).toInt
def uPay (C : Cr) (n : Nat) : Cr := fun k i => if k = 223 ∧ i < n ∧ py C i then (lZ (C 223 i + ow C i)).toInt else C k i
theorem uPay_o {C : Cr} {n k i : Nat} (h : k ≠ 223) : uPay C n k i = C k i := if_neg (fun z => h z.1)
theorem M_payDay {τ : Mm} {C : Cr} (hc : core τ = C) (hI : Inv C) {Q : Int64 → Mm → Prop}
    (hy : ∀ τ', core τ' = uPay C 10 → gI τ' 200 39 = 0 → Q (lZ (sm (fun o => if py C o then ow C o else 0) 10)) τ') : wp_X7_payDay τ Q := by
  intro σ1 h1
  obtain ⟨k1, k2⟩ := core_thr h1
  have k1 := k1.trans hc
  refine m_owes k1 hI (fun σ2 ks O2 => ?_)
  have c2 := kp_core ks (by decide) k1
  have t2 : gI σ2 200 39 = 0 := (kp_t ks (by decide)).trans k2
  refine lpw_inv (fun i (s : Mm × Int64 × Int32) => core s.1 = uPay C i ∧ gI s.1 200 39 = 0 ∧ (∀ o : Nat, o < 10 → gJ s.1 231 o = lZ (ow C o)) ∧ s.2.1 = lZ (sm (fun o => if py C o then ow C o else 0) i) ∧ s.2.2 = iZ (i : Int)) 10 ⟨?_, t2, O2, rfl, rfl⟩ ?_
  · show core σ2 = uPay C 0
    rw [c2]
    funext k i
    exact (if_neg (fun z => by have := z.2.1; omega)).symm
  intro i s rec hi hs0 hrec
  obtain ⟨σ3, y4, x5⟩ := s
  obtain ⟨c3, t3, O3, e4, e5⟩ := hs0
  dsimp only at c3 t3 O3 e4 e5
  subst e4 e5
  have ti1 : (iZ (i : Int)).toInt = i := n_iZ (by omega)
  have ni : (iZ (i : Int)).toNatClampNeg = i := nat_iZ (by omega)
  refine ⟨fun q => ?_, fun q => ?_⟩
  · rw [leT, ti1, t_10] at q
    have e : i = 10 := by omega
    subst e
    exact hy σ3 c3 t3
  · rw [leT, ti1, t_10] at q
    have hrec := hrec (by omega)
    have v := vin (a := iZ (i : Int)) (n := 10) (by omega) (by omega)
    rw [ni, O3 i (by omega)]
    refine ⟨v, fun y9 h9 => ⟨v, ?_⟩⟩
    subst h9
    have g222 : (gI σ3 222 i).toInt = C 222 i := (cK c3 (by decide)).trans (uPay_o (by decide))
    have g28 : (gI σ3 200 28).toInt = C 200 28 := (c0 c3 (by decide)).trans (uPay_o (by decide))
    have l28 : (gI σ3 200 28).toInt64.toInt = C 200 28 := by
      have := hI.lst
      rw [i2lT g28]; exact toInt_lZ (by omega) (by omega)
    have no : ¬ py C i → ∀ x14 : Int32, x14 = iZ (i : Int) + 1 → rec (σ3, lZ (sm (fun o => if py C o then ow C o else 0) i), x14) := fun hp x14 h14 => hrec _ ⟨by
      show core σ3 = _
      rw [c3]
      funext k j
      unfold uPay
      by_cases z : k = 223 ∧ j < i ∧ py C j
      · rw [if_pos z, if_pos ⟨z.1, by omega, z.2.2⟩]
      · rw [if_neg z, if_neg (fun y => z ⟨y.1, by
          have := y.2.1
          by_cases e : j = i
          · subst e; exact absurd y.2.2 hp
          · omega, y.2.2⟩)], t3, O3, by
      show lZ _ = lZ _
      rw [sm_s, if_neg hp, Int.add_zero], by rw [h14, iZ_s]⟩
    refine jn2 ⟨fun z => no (fun y => ?_), fun z => ⟨fun z2 => no (fun y => ?_), fun z2 => ⟨v, v, fun σ17 h17 y18 h18 x14 h14 => hrec _ ?_⟩⟩⟩
    · rw [eqT, g222, t_0] at z
      exact z y.1
    · rw [Int64.lt_iff_toInt_lt, l28] at z2
      have := y.2
      omega
    · rw [Decidable.not_not, eqT, g222, t_0] at z
      rw [Int64.lt_iff_toInt_lt, l28] at z2
      have hp : py C i := ⟨z, by omega⟩
      have e223 : gJ σ3 223 i = lZ (C 223 i) := by
        rw [core_J, c3]
        unfold uPay
        rw [if_neg (fun y => by have := y.2.1; omega)]
      rw [e223, lZ_add] at h17
      refine ⟨?_, ?_, fun o ho => ?_, ?_, by rw [h14, iZ_s]⟩
      · show core σ17 = _
        rw [h17, core_sJ, c3]
        funext k j
        unfold u2 uPay
        by_cases w : k = 223 ∧ j = i
        · rw [if_pos w, if_pos ⟨w.1, by omega, by rw [w.2]; exact hp⟩, w.2]
        · rw [if_neg w]
          by_cases w2 : k = 223 ∧ j < i ∧ py C j
          · rw [if_pos w2, if_pos ⟨w2.1, by omega, w2.2.2⟩]
          · rw [if_neg w2, if_neg (fun y => w2 ⟨y.1, by have := y.2.1; omega, y.2.2⟩)]
      · show gI σ17 200 39 = 0
        rw [h17]; exact t3
      · show gJ σ17 231 o = _
        rw [h17, gJ_sJ, if_neg (by omega)]; exact O3 o ho
      · show y18 = _
        rw [h18, lZ_add, sm_s, if_pos hp]
