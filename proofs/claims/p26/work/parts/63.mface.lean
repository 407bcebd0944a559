/-! PURE: the model's questions and tellings without money -/
theorem jb {X : Type} {c : Prop} [Decidable c] {r : X → Prop} {a b : X} (h : r (if c then a else b)) : ∃ J : X → Prop, (∀ x, J x → r x) ∧ ((c → J a) ∧ (¬ c → J b)) := ⟨r, fun _ h => h, br_if h⟩
theorem jbn {X : Type} {c : Prop} [Decidable c] {r : X → Prop} {a b : X} (h : r (if c then a else b)) : ∃ J : X → Prop, (∀ x, J x → r x) ∧ ((¬ c → J b) ∧ (¬ ¬ c → J a)) := ⟨r, fun _ h => h, br_ifn h⟩
theorem ct_I {τ : Mm} {C : Cr} (hc : core τ = C) {k i : Nat} (h : 200 ≤ k) (h2 : k ≤ 222) (h3 : k ≠ 200 ∨ i ≠ 39) : (gI τ k i).toInt = C k i := by
  subst hc
  unfold core
  rw [if_neg (by omega), if_pos ⟨h, h2⟩]
theorem ad32 {x y : Int32} (h1 : -2147483648 ≤ x.toInt + y.toInt) (h2 : x.toInt + y.toInt < 2147483648) : (x + y).toInt = x.toInt + y.toInt := by
  have e : x + y = iZ (x.toInt + y.toInt) := by rw [← iZ_add, iZ_toInt, iZ_toInt]
  rw [e, toInt_iZ h1 h2]
theorem sb32 {x y : Int32} (h1 : -2147483648 ≤ x.toInt - y.toInt) (h2 : x.toInt - y.toInt < 2147483648) : (x - y).toInt = x.toInt - y.toInt := by
  have e : x - y = iZ (x.toInt - y.toInt) := by rw [← iZ_sub, iZ_toInt, iZ_toInt]
  rw [e, toInt_iZ h1 h2]
theorem ml32 {x y : Int32} (h1 : -2147483648 ≤ x.toInt * y.toInt) (h2 : x.toInt * y.toInt < 2147483648) : (x * y).toInt = x.toInt * y.toInt := by
  have e : x * y = iZ (x.toInt * y.toInt) := by rw [← iZ_mul, iZ_toInt, iZ_toInt]
  rw [e, toInt_iZ h1 h2]
theorem eqT {x y : Int32} : x = y ↔ x.toInt = y.toInt := Int32.toInt_inj.symm
theorem ltT {x y : Int32} : x < y ↔ x.toInt < y.toInt := Int32.lt_iff_toInt_lt
theorem leT {x y : Int32} : x ≤ y ↔ x.toInt ≤ y.toInt := Int32.le_iff_toInt_le
theorem n_iZ {n : Nat} (h : n < 2147483648) : (iZ (n : Int)).toInt = n := toInt_iZ (by omega) (by omega)
theorem iZ_s (n : Nat) : iZ (n : Int) + 1 = iZ ((n + 1 : Nat) : Int) := by rw [iZ_1, iZ_add]; rfl
/-- ranges: what holds of the model's numbers between two calls -/
def Inv (C : Cr) : Prop := (0 ≤ C 200 0 ∧ C 200 0 ≤ 60) ∧ (0 ≤ C 200 1 ∧ C 200 1 ≤ 8) ∧ (0 ≤ C 200 5 ∧ C 200 5 ≤ 40) ∧ (0 ≤ C 200 11 ∧ C 200 11 ≤ 16) ∧ (0 ≤ C 200 18 ∧ C 200 18 ≤ 3) ∧ (0 ≤ C 200 20 ∧ C 200 20 ≤ 6) ∧ (100 ≤ C 200 27 ∧ C 200 27 ≤ 500) ∧ (1 ≤ C 200 28 ∧ C 200 28 ≤ 100000) ∧ (∀ t : Nat, t < nT C → (1 ≤ C 201 t ∧ C 201 t ≤ 1000) ∧ (0 ≤ C 202 t ∧ C 202 t ≤ 9) ∧ (-1 ≤ C 203 t ∧ C 203 t < C 200 18)) ∧ (∀ t : Nat, nT C ≤ t → t < 8 → C 203 t = -1) ∧ (∀ k : Nat, k < nD C → (0 ≤ C 204 k ∧ C 204 k < C 200 1) ∧ (0 ≤ C 205 k ∧ C 205 k ≤ 9) ∧ (0 ≤ C 206 k ∧ C 206 k ≤ 9) ∧ C 205 k ≠ C 206 k ∧ (1 ≤ C 207 k ∧ C 207 k ≤ 10000) ∧ (0 ≤ C 208 k ∧ C 208 k ≤ C 200 0)) ∧ (∀ t : Nat, t < nT C → ∀ o : Nat, o < 10 → ∀ m : Nat, 0 ≤ ti C t o m) ∧ (∀ k : Nat, k < nS C → (0 ≤ C 209 k ∧ C 209 k < C 200 1) ∧ (0 ≤ C 210 k ∧ C 210 k ≤ 9) ∧ (0 ≤ C 211 k ∧ C 211 k ≤ 9) ∧ (0 ≤ C 212 k ∧ C 212 k ≤ 500) ∧ (0 ≤ C 213 k ∧ C 213 k ≤ C 200 0) ∧ (1 ≤ C 214 k ∧ C 214 k ≤ 36)) ∧ (∀ u : Nat, u < nU C → 0 ≤ C 215 u ∧ C 215 u ≤ C 200 0) ∧ (∀ u : Nat, u < nU C → ∃ t : Nat, t < nT C ∧ C 203 t = u) ∧ (∀ w : Nat, w < nW C → 0 ≤ C 216 w ∧ C 216 w < C 200 18) ∧ (∀ i : Nat, i < 366 → (0 ≤ C 217 i ∧ C 217 i ≤ 1000) ∧ (0 ≤ C 218 i ∧ C 218 i ≤ 10000) ∧ (0 ≤ C 219 i ∧ C 219 i ≤ 10000000)) ∧ (∀ w : Nat, nW C ≤ w → w < 6 → ∀ m : Nat, m < 61 → C 217 (61 * w + m) = 0 ∧ C 218 (61 * w + m) = 0 ∧ C 219 (61 * w + m) = 0) ∧ (∀ m : Nat, m < 61 → -1 ≤ C 220 m ∧ C 220 m ≤ 50) ∧ (∀ i : Nat, i < 1830 → 0 ≤ C 221 i ∧ C 221 i ≤ 2) ∧ (∀ u o m : Nat, u < 3 → o < 10 → m < 61 → (nU C ≤ u ∨ nN C < m) → C 221 (610 * u + 61 * o + m) = 0) ∧ (∀ o : Nat, o < 10 → C 222 o = 0 ∨ C 222 o = 1)
theorem Inv.now {C : Cr} (h : Inv C) : 0 ≤ C 200 0 ∧ C 200 0 ≤ 60 := h.1
theorem Inv.nt {C : Cr} (h : Inv C) : 0 ≤ C 200 1 ∧ C 200 1 ≤ 8 := h.2.1
theorem Inv.nd {C : Cr} (h : Inv C) : 0 ≤ C 200 5 ∧ C 200 5 ≤ 40 := h.2.2.1
theorem Inv.ns {C : Cr} (h : Inv C) : 0 ≤ C 200 11 ∧ C 200 11 ≤ 16 := h.2.2.2.1
theorem Inv.nu {C : Cr} (h : Inv C) : 0 ≤ C 200 18 ∧ C 200 18 ≤ 3 := h.2.2.2.2.1
theorem Inv.nw {C : Cr} (h : Inv C) : 0 ≤ C 200 20 ∧ C 200 20 ≤ 6 := h.2.2.2.2.2.1
theorem Inv.pen {C : Cr} (h : Inv C) : 100 ≤ C 200 27 ∧ C 200 27 ≤ 500 := h.2.2.2.2.2.2.1
theorem Inv.lst {C : Cr} (h : Inv C) : 1 ≤ C 200 28 ∧ C 200 28 ≤ 100000 := h.2.2.2.2.2.2.2.1
theorem Inv.tr {C : Cr} (h : Inv C) : ∀ t : Nat, t < nT C → (1 ≤ C 201 t ∧ C 201 t ≤ 1000) ∧ (0 ≤ C 202 t ∧ C 202 t ≤ 9) ∧ (-1 ≤ C 203 t ∧ C 203 t < C 200 18) := h.2.2.2.2.2.2.2.2.1
theorem Inv.tz {C : Cr} (h : Inv C) : ∀ t : Nat, nT C ≤ t → t < 8 → C 203 t = -1 := h.2.2.2.2.2.2.2.2.2.1
theorem Inv.de {C : Cr} (h : Inv C) : ∀ k : Nat, k < nD C → (0 ≤ C 204 k ∧ C 204 k < C 200 1) ∧ (0 ≤ C 205 k ∧ C 205 k ≤ 9) ∧ (0 ≤ C 206 k ∧ C 206 k ≤ 9) ∧ C 205 k ≠ C 206 k ∧ (1 ≤ C 207 k ∧ C 207 k ≤ 10000) ∧ (0 ≤ C 208 k ∧ C 208 k ≤ C 200 0) := h.2.2.2.2.2.2.2.2.2.2.1
theorem Inv.tn {C : Cr} (h : Inv C) : ∀ t : Nat, t < nT C → ∀ o : Nat, o < 10 → ∀ m : Nat, 0 ≤ ti C t o m := h.2.2.2.2.2.2.2.2.2.2.2.1
theorem Inv.le {C : Cr} (h : Inv C) : ∀ k : Nat, k < nS C → (0 ≤ C 209 k ∧ C 209 k < C 200 1) ∧ (0 ≤ C 210 k ∧ C 210 k ≤ 9) ∧ (0 ≤ C 211 k ∧ C 211 k ≤ 9) ∧ (0 ≤ C 212 k ∧ C 212 k ≤ 500) ∧ (0 ≤ C 213 k ∧ C 213 k ≤ C 200 0) ∧ (1 ≤ C 214 k ∧ C 214 k ≤ 36) := h.2.2.2.2.2.2.2.2.2.2.2.2.1
theorem Inv.un {C : Cr} (h : Inv C) : ∀ u : Nat, u < nU C → 0 ≤ C 215 u ∧ C 215 u ≤ C 200 0 := h.2.2.2.2.2.2.2.2.2.2.2.2.2.1
theorem Inv.ut {C : Cr} (h : Inv C) : ∀ u : Nat, u < nU C → ∃ t : Nat, t < nT C ∧ C 203 t = u := h.2.2.2.2.2.2.2.2.2.2.2.2.2.2.1
theorem Inv.we {C : Cr} (h : Inv C) : ∀ w : Nat, w < nW C → 0 ≤ C 216 w ∧ C 216 w < C 200 18 := h.2.2.2.2.2.2.2.2.2.2.2.2.2.2.2.1
theorem Inv.wm {C : Cr} (h : Inv C) : ∀ i : Nat, i < 366 → (0 ≤ C 217 i ∧ C 217 i ≤ 1000) ∧ (0 ≤ C 218 i ∧ C 218 i ≤ 10000) ∧ (0 ≤ C 219 i ∧ C 219 i ≤ 10000000) := h.2.2.2.2.2.2.2.2.2.2.2.2.2.2.2.2.1
theorem Inv.wz {C : Cr} (h : Inv C) : ∀ w : Nat, nW C ≤ w → w < 6 → ∀ m : Nat, m < 61 → C 217 (61 * w + m) = 0 ∧ C 218 (61 * w + m) = 0 ∧ C 219 (61 * w + m) = 0 := h.2.2.2.2.2.2.2.2.2.2.2.2.2.2.2.2.2.1
theorem Inv.tx {C : Cr} (h : Inv C) : ∀ m : Nat, m < 61 → -1 ≤ C 220 m ∧ C 220 m ≤ 50 := h.2.2.2.2.2.2.2.2.2.2.2.2.2.2.2.2.2.2.1
theorem Inv.to {C : Cr} (h : Inv C) : ∀ i : Nat, i < 1830 → 0 ≤ C 221 i ∧ C 221 i ≤ 2 := h.2.2.2.2.2.2.2.2.2.2.2.2.2.2.2.2.2.2.2.1
theorem Inv.tf {C : Cr} (h : Inv C) : ∀ u o m : Nat, u < 3 → o < 10 → m < 61 → (nU C ≤ u ∨ nN C < m) → C 221 (610 * u + 61 * o + m) = 0 := h.2.2.2.2.2.2.2.2.2.2.2.2.2.2.2.2.2.2.2.2.1
theorem Inv.su {C : Cr} (h : Inv C) : ∀ o : Nat, o < 10 → C 222 o = 0 ∨ C 222 o = 1 := h.2.2.2.2.2.2.2.2.2.2.2.2.2.2.2.2.2.2.2.2.2
theorem m_owner {σ : Mm} {a : Int32} {Q : Int32 → Mm → Prop} (h : Q (bz (0 ≤ a.toInt ∧ a.toInt ≤ 9)) σ) : wp_X7_isOwner σ a Q := m_btw ⟨zb_bz _, h⟩
theorem m_cnt {C : Cr} {x : Int32} {n : Int} (h : x.toInt = n) (h0 : 0 ≤ n) (h1 : n ≤ 100) : (x - 1).toInt = n - 1 := by
  rw [sb32 (by rw [h, t_1]; omega) (by rw [h, t_1]; omega), h, t_1]
theorem m_tract' {σ : Mm} {C : Cr} (hc : core σ = C) (hI : Inv C) {a : Int32} {Q : Int32 → Mm → Prop} (h : Q (bz (0 ≤ a.toInt ∧ a.toInt < C 200 1)) σ) : wp_X7_isTract σ a Q := by
  refine m_btw ⟨zb_bz _, ?_⟩
  rw [m_cnt (C := C) (ct_I hc (by omega) (by omega) (Or.inr (by omega))) hI.nt.1 (by have := hI.nt.2; omega), bz_cong (show (_ ↔ (0 ≤ a.toInt ∧ a.toInt < C 200 1)) by rw [t_0]; omega)]
  exact h
theorem m_unit' {σ : Mm} {C : Cr} (hc : core σ = C) (hI : Inv C) {a : Int32} {Q : Int32 → Mm → Prop} (h : Q (bz (0 ≤ a.toInt ∧ a.toInt < C 200 18)) σ) : wp_X7_isBetween σ a 0 ((gI σ 200 18) - 1) Q := by
  refine m_btw ?_
  rw [m_cnt (C := C) (ct_I hc (by omega) (by omega) (Or.inr (by omega))) hI.nu.1 (by have := hI.nu.2; omega), bz_cong (show (_ ↔ (0 ≤ a.toInt ∧ a.toInt < C 200 18)) by rw [t_0]; omega)]
  exact h
theorem m_lease' {σ : Mm} {C : Cr} (hc : core σ = C) (hI : Inv C) {a : Int32} {Q : Int32 → Mm → Prop} (h : Q (bz (0 ≤ a.toInt ∧ a.toInt < C 200 11)) σ) : wp_X7_isBetween σ a 0 ((gI σ 200 11) - 1) Q := by
  refine m_btw ?_
  rw [m_cnt (C := C) (ct_I hc (by omega) (by omega) (Or.inr (by omega))) hI.ns.1 (by have := hI.ns.2; omega), bz_cong (show (_ ↔ (0 ≤ a.toInt ∧ a.toInt < C 200 11)) by rw [t_0]; omega)]
  exact h
theorem m_well' {σ : Mm} {C : Cr} (hc : core σ = C) (hI : Inv C) {a : Int32} {Q : Int32 → Mm → Prop} (h : Q (bz (0 ≤ a.toInt ∧ a.toInt < C 200 20)) σ) : wp_X7_isBetween σ a 0 ((gI σ 200 20) - 1) Q := by
  refine m_btw ?_
  rw [m_cnt (C := C) (ct_I hc (by omega) (by omega) (Or.inr (by omega))) hI.nw.1 (by have := hI.nw.2; omega), bz_cong (show (_ ↔ (0 ≤ a.toInt ∧ a.toInt < C 200 20)) by rw [t_0]; omega)]
  exact h
theorem m_month {σ : Mm} {C : Cr} (hc : core σ = C) {a : Int32} {Q : Int32 → Mm → Prop} (h : Q (bz (0 ≤ a.toInt ∧ a.toInt ≤ C 200 0)) σ) : wp_X7_isMonth σ a Q := by
  refine m_btw ⟨zb_bz _, ?_⟩
  rw [ct_I hc (by omega) (by omega) (Or.inr (by omega)), t_0]
  exact h
abbrev isUM (C : Cr) (u m : Int) : Prop := (0 ≤ u ∧ u < C 200 18) ∧ C 215 u.toNat ≤ m ∧ m ≤ C 200 0
theorem vin {a : Int32} {n : Nat} (h1 : 0 ≤ a.toInt) (h2 : a.toInt < n) : vp_in a n := vp_in_iff.mpr ⟨h1, h2⟩
theorem m_unitMonth {σ : Mm} {C : Cr} (hc : core σ = C) (hI : Inv C) {a1 a2 : Int32} {Q : Int32 → Mm → Prop} (h : Q (bz (isUM C a1.toInt a2.toInt)) σ) : wp_X7_isUnitMonth σ a1 a2 Q := by
  have hu := hI.nu
  refine m_unit' hc hI (jn2 (jn1 ⟨fun q => ?_, fun q => m_unit' hc hI (jb ?_)⟩))
  · rw [bz_0] at q
    rw [bz_no (fun z => q z.1)] at h
    exact ⟨zb_0, h⟩
  · have q := (bz_n _).mp q
    rw [if_neg ((bz_n _).mpr q)]
    refine ⟨vin q.1 (by omega), m_btw ?_⟩
    have hi : a1.toNatClampNeg = a1.toInt.toNat := rfl
    rw [ct_I hc (by omega) (by omega) (Or.inr (by omega)), ct_I hc (by omega) (by omega) (Or.inr (by omega)), hi]
    refine ⟨fun k => ?_, fun k => ?_⟩
    · rw [bz_0] at k
      rw [bz_no (fun z => k z.2)] at h
      exact ⟨zb_0, h⟩
    · have k := (bz_n _).mp k
      rw [bz_y ⟨q, k⟩] at h
      exact ⟨zb_1, h⟩
