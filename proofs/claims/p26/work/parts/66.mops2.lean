/-! PURE: the model's tellings -/
theorem u2_o {C : Cr} {k i a b : Nat} {v : Int} (h : a ≠ k ∨ b ≠ i) : u2 C k i v a b = C a b := if_neg (fun z => by omega)
theorem u2_y {C : Cr} {k i : Nat} {v : Int} : u2 C k i v k i = v := if_pos ⟨rfl, rfl⟩
/-- a chain of truths comes to one -/
theorem jch {σ : Mm} {d : Prop} [Decidable d] {r : Mm → Int32 → Prop} {A : (Mm → Int32 → Prop) → (Mm → Prop) → Prop} (h : r σ (bz d)) (hA : A (fun s x => s = σ ∧ x = bz d) (fun s => s = σ ∧ ¬ d)) : ∃ J5 : Mm → Int32 → Prop, (∀ (s : Mm) (x : Int32), J5 s x → r s x) ∧ ∃ J11 : Mm → Prop, (∀ s : Mm, J11 s → J5 s 0) ∧ A J5 J11 :=
  ⟨fun s x => s = σ ∧ x = bz d, fun s x z => by rw [z.1, z.2]; exact h, fun s => s = σ ∧ ¬ d, fun s z => ⟨z.1, (bz_no z.2).symm⟩, hA⟩
theorem cl_T {x : Int32} : x.toNatClampNeg = x.toInt.toNat := rfl
abbrev dOw (a : Int) : Prop := 0 ≤ a ∧ a ≤ 9
abbrev dTr (C : Cr) (a : Int) : Prop := 0 ≤ a ∧ a < C 200 1
abbrev dMo (C : Cr) (a : Int) : Prop := 0 ≤ a ∧ a ≤ C 200 0
abbrev dUn (C : Cr) (a : Int) : Prop := 0 ≤ a ∧ a < C 200 18
def uTract (C : Cr) (a o : Int) : Cr := u2 (u2 (u2 C 201 (nT C) a) 202 (nT C) o) 200 1 (C 200 1 + 1)
theorem M_tract {τ : Mm} {C : Cr} (hc : core τ = C) (hI : Inv C) {a1 a2 : Int32} {Q : Int32 → Mm → Prop}
    (hn : ¬ (dOw a2.toInt ∧ (1 ≤ a1.toInt ∧ a1.toInt ≤ 1000) ∧ C 200 1 < 8) → ∀ τ', core τ' = C → gI τ' 200 39 = rf (dOw a2.toInt) (1 ≤ a1.toInt ∧ a1.toInt ≤ 1000) (C 200 1 < 8) → Q 0 τ')
    (hy : dOw a2.toInt → (1 ≤ a1.toInt ∧ a1.toInt ≤ 1000) → C 200 1 < 8 → ∀ τ' x, core τ' = uTract C a1.toInt a2.toInt → gI τ' 200 39 = 0 → x.toInt = C 200 1 → Q x τ') : wp_X7_tract τ a1 a2 Q := by
  have h1 := hI.nt
  have g0 : (gI τ 200 1).toInt = C 200 1 := c0 hc (by decide)
  refine m_owner (m_btw (jb (m_goesD (d1 := dOw a2.toInt) (d2 := 1 ≤ a1.toInt ∧ a1.toInt ≤ 1000) (d3 := C 200 1 < 8) rfl rfl it01 (fun q => Iff.rfl) (fun _ _ => ?_) (fun q σ' k1 k2 => ?_) (fun q1 q2 q3 σ' k1 k2 => ?_))))
  · rw [leT, g0, t_8]; omega
  · exact br_n (fun z => z rfl) (hn q σ' (k1.trans hc) k2)
  · have k1 := k1.trans hc
    have e1 : (gI σ' 200 1).toInt = C 200 1 := c0 k1 (by decide)
    have n1 : (gI σ' 200 1).toNatClampNeg = nT C := by rw [cl_T, e1]; rfl
    refine br_y (by decide) ⟨vin (by omega) (by omega), ?_⟩
    rw [n1]
    intro σ10 h10
    have c10 : core σ10 = u2 C 201 (nT C) a1.toInt := by rw [h10]; exact cs_I k1 (by omega) (by omega) (Or.inl (by omega))
    have t10 : gI σ10 200 39 = 0 := by rw [h10]; exact th_I k2 (Or.inl (by omega))
    have e10 : (gI σ10 200 1).toInt = C 200 1 := (c0 c10 (by decide)).trans (u2_o (Or.inl (by omega)))
    refine ⟨vin (by omega) (by omega), ?_⟩
    rw [show (gI σ10 200 1).toNatClampNeg = nT C from by rw [cl_T, e10]; rfl]
    intro σ12 h12
    have c12 : core σ12 = u2 (u2 C 201 (nT C) a1.toInt) 202 (nT C) a2.toInt := by rw [h12]; exact cs_I c10 (by omega) (by omega) (Or.inl (by omega))
    have t12 : gI σ12 200 39 = 0 := by rw [h12]; exact th_I t10 (Or.inl (by omega))
    have e12 : (gI σ12 200 1).toInt = C 200 1 := ((c0 c12 (by decide)).trans (u2_o (Or.inl (by omega)))).trans (u2_o (Or.inl (by omega)))
    intro σ13 h13
    have s12 : (gI σ12 200 1 + 1).toInt = C 200 1 + 1 := by rw [ad32 (by rw [t_1]; omega) (by rw [t_1]; omega), e12, t_1]
    have c13 : core σ13 = uTract C a1.toInt a2.toInt := by rw [h13, cs_I c12 (by omega) (by omega) (Or.inr (by omega)), s12]; rfl
    have t13 : gI σ13 200 39 = 0 := by rw [h13]; exact th_I t12 (Or.inr (by omega))
    refine hy q1 q2 q3 σ13 _ c13 t13 ?_
    have e13 : (gI σ13 200 1).toInt = C 200 1 + 1 := (c0 c13 (by decide)).trans u2_y
    rw [m_cnt (C := C) e13 (by omega) (by omega)]
    omega
theorem ti_nat {C : Cr} {t : Nat} {a o m : Int} (h : a = t) : ti C a.toNat o m = ti C t o m := by subst h; rfl
abbrev dTOM (C : Cr) (a1 a2 a3 : Int) : Prop := dTr C a1 ∧ dOw a2 ∧ dMo C a3
theorem M_title {τ : Mm} {C : Cr} (hc : core τ = C) (hI : Inv C) {a1 a2 a3 : Int32} {Q : Int32 → Mm → Prop}
    (hn : ¬ dTOM C a1.toInt a2.toInt a3.toInt → ∀ τ', core τ' = C → gI τ' 200 39 = 1 → Q 0 τ')
    (hy : dTOM C a1.toInt a2.toInt a3.toInt → ∀ τ', core τ' = C → gI τ' 200 39 = 0 → Q (iZ (ti C a1.toInt.toNat a2.toInt a3.toInt)) τ') : wp_X7_title τ a1 a2 a3 Q := by
  have h1 := hI.nt
  refine m_tract' hc hI (jch (σ := τ) (d := dTOM C a1.toInt a2.toInt a3.toInt) ?_ ⟨fun q => ?_, fun q => m_owner ⟨fun q2 => ?_, fun q2 => m_month hc ⟨fun q3 => ?_, fun q3 => ?_⟩⟩⟩)
  · refine m_goesD (d1 := dTOM C a1.toInt a2.toInt a3.toInt) (d2 := True) (d3 := True) rfl bz1 bz1 (fun _ => Iff.rfl) (fun _ _ => Iff.rfl) (fun q σ' k1 k2 => ?_) (fun q1 _ _ σ' k1 k2 => ?_)
    · have q : ¬ dTOM C a1.toInt a2.toInt a3.toInt := fun z => q ⟨z, trivial, trivial⟩
      exact br_n (fun z => z rfl) (hn q σ' (k1.trans hc) (k2.trans (if_neg q)))
    · have k1 := k1.trans hc
      exact br_y (by decide) (m_titleOf k1 hI.nd (vin q1.1.1 (by have := q1.1.2; omega)) (hy q1 σ' k1 k2))
  · rw [bz_0] at q; exact ⟨rfl, fun z => q z.1⟩
  · rw [bz_0] at q2; exact ⟨rfl, fun z => q2 z.2.1⟩
  · rw [bz_0] at q3; exact ⟨rfl, fun z => q3 z.2.2⟩
  · have q := (bz_n _).mp q
    have q2 := (bz_n _).mp q2
    have q3 := (bz_n _).mp q3
    exact ⟨rfl, (bz_y ⟨q, q2, q3⟩).symm⟩
/-- five numbers of a deed, six of a lease, and so on, at once: one number anew and the count still there -/
theorem stI {τ : Mm} {C : Cr} {k c : Nat} {n v : Int32} {N : Nat} {K : Mm → Prop} (hc : core τ = C) (ht : gI τ 200 39 = 0) (hk : 201 ≤ k ∧ k ≤ 222) (hn : c ≠ 39) (h0 : 0 ≤ C 200 c) (h1 : C 200 c < N) (hN : N < 1000) (kk : ∀ σ', core σ' = u2 C k (C 200 c).toNat v.toInt → gI σ' 200 39 = 0 → K σ') (hnn : n = gI τ 200 c) : vp_in n N ∧ ∀ σ' : Mm, σ' = sI τ k n.toNatClampNeg v → K σ' := by
  subst hnn
  have g := c0 hc hn
  refine ⟨vin (by omega) (by omega), fun σ' e => ?_⟩
  subst e
  have e2 : (gI τ 200 c).toNatClampNeg = (C 200 c).toNat := by rw [cl_T, g]
  rw [e2]
  exact kk _ (cs_I hc (by omega) (by omega) (Or.inl (by omega))) (th_I ht (Or.inl (by omega)))
/-- a count goes up -/
theorem stC {τ : Mm} {C : Cr} {c : Nat} {K : Mm → Prop} (hc : core τ = C) (ht : gI τ 200 39 = 0) (hn : c ≠ 39) (h0 : 0 ≤ C 200 c) (h1 : C 200 c < 1000) (kk : ∀ σ', core σ' = u2 C 200 c (C 200 c + 1) → gI σ' 200 39 = 0 → (gI σ' 200 c).toInt = C 200 c + 1 → K σ') : ∀ σ' : Mm, σ' = sI τ 200 c ((gI τ 200 c) + 1) → K σ' := by
  intro σ' e
  subst e
  have g := c0 hc hn
  have s : (gI τ 200 c + 1).toInt = C 200 c + 1 := by rw [ad32 (by rw [t_1]; omega) (by rw [t_1]; omega), g, t_1]
  have c1 : core (sI τ 200 c ((gI τ 200 c) + 1)) = u2 C 200 c (C 200 c + 1) := by rw [cs_I hc (by omega) (by omega) (Or.inr hn), s]
  exact kk _ c1 (th_I ht (Or.inr (by omega))) ((c0 c1 hn).trans u2_y)
def uLease (C : Cr) (a1 a2 a3 a4 a5 : Int) : Cr := u2 (u2 (u2 (u2 (u2 (u2 (u2 C 209 (nS C) a1) 210 (nS C) a2) 211 (nS C) a3) 212 (nS C) a4) 213 (nS C) (C 200 0)) 214 (nS C) a5) 200 11 (C 200 11 + 1)
abbrev dLe1 (C : Cr) (a1 a2 a3 : Int) : Prop := dTr C a1 ∧ dOw a2 ∧ dOw a3
abbrev dLe2 (a2 a3 a4 a5 : Int) : Prop := a2 ≠ a3 ∧ (0 ≤ a4 ∧ a4 ≤ 500) ∧ (1 ≤ a5 ∧ a5 ≤ 36)
theorem M_lease {τ : Mm} {C : Cr} (hc : core τ = C) (hI : Inv C) {a1 a2 a3 a4 a5 : Int32} {Q : Int32 → Mm → Prop}
    (hn : ¬ (dLe1 C a1.toInt a2.toInt a3.toInt ∧ dLe2 a2.toInt a3.toInt a4.toInt a5.toInt ∧ C 200 11 < 16) → ∀ τ', core τ' = C → gI τ' 200 39 = rf (dLe1 C a1.toInt a2.toInt a3.toInt) (dLe2 a2.toInt a3.toInt a4.toInt a5.toInt) (C 200 11 < 16) → Q 0 τ')
    (hy : dLe1 C a1.toInt a2.toInt a3.toInt → dLe2 a2.toInt a3.toInt a4.toInt a5.toInt → C 200 11 < 16 → ∀ τ' x, core τ' = uLease C a1.toInt a2.toInt a3.toInt a4.toInt a5.toInt → gI τ' 200 39 = 0 → x.toInt = C 200 11 → Q x τ') : wp_X7_lease τ a1 a2 a3 a4 a5 Q := by
  have h1 := hI.ns
  have g0 : (gI τ 200 11).toInt = C 200 11 := c0 hc (by decide)
  refine m_tract' hc hI (jch (σ := τ) (d := dLe1 C a1.toInt a2.toInt a3.toInt) ?_ ⟨fun q => ?_, fun q => m_owner ⟨fun q2 => ?_, fun q2 => m_owner ⟨fun q3 => ?_, fun q3 => ?_⟩⟩⟩)
  · refine jch (σ := τ) (d := dLe2 a2.toInt a3.toInt a4.toInt a5.toInt) ?_ ⟨fun q => ?_, fun q => m_btw ⟨fun q2 => ?_, fun q2 => m_btw ⟨fun q3 => ?_, fun q3 => ?_⟩⟩⟩
    · refine jb (m_goesD (d1 := dLe1 C a1.toInt a2.toInt a3.toInt) (d2 := dLe2 a2.toInt a3.toInt a4.toInt a5.toInt) (d3 := C 200 11 < 16) rfl rfl it01 (fun q => Iff.rfl) (fun _ _ => ?_) (fun q σ' k1 k2 => ?_) (fun q1 q2 q3 σ' k1 k2 => ?_))
      · rw [leT, g0, t_16]; omega
      · exact br_n (fun z => z rfl) (hn q σ' (k1.trans hc) k2)
      · refine br_y (by decide) ?_
        refine stI (k1.trans hc) k2 (by decide) (by decide) h1.1 q3 (by decide) (fun s1 c1 t1 => ?_) rfl
        refine stI (C := u2 C 209 (nS C) a1.toInt) c1 t1 (by decide) (by decide) h1.1 q3 (by decide) (fun s2 c2 t2 => ?_) rfl
        refine stI (C := u2 (u2 C 209 (nS C) a1.toInt) 210 (nS C) a2.toInt) c2 t2 (by decide) (by decide) h1.1 q3 (by decide) (fun s3 c3 t3 => ?_) rfl
        refine stI (C := u2 (u2 (u2 C 209 (nS C) a1.toInt) 210 (nS C) a2.toInt) 211 (nS C) a3.toInt) c3 t3 (by decide) (by decide) h1.1 q3 (by decide) (fun s4 c4 t4 => ?_) rfl
        refine stI (C := u2 (u2 (u2 (u2 C 209 (nS C) a1.toInt) 210 (nS C) a2.toInt) 211 (nS C) a3.toInt) 212 (nS C) a4.toInt) c4 t4 (by decide) (by decide) h1.1 q3 (by decide) (fun s5 c5 t5 => ?_) rfl
        have e0 : (gI s4 200 0).toInt = C 200 0 := c0 c4 (by decide)
        rw [e0] at c5
        refine stI (C := u2 (u2 (u2 (u2 (u2 C 209 (nS C) a1.toInt) 210 (nS C) a2.toInt) 211 (nS C) a3.toInt) 212 (nS C) a4.toInt) 213 (nS C) (C 200 0)) c5 t5 (by decide) (by decide) h1.1 q3 (by decide) (fun s6 c6 t6 => ?_) rfl
        refine stC (C := u2 (u2 (u2 (u2 (u2 (u2 C 209 (nS C) a1.toInt) 210 (nS C) a2.toInt) 211 (nS C) a3.toInt) 212 (nS C) a4.toInt) 213 (nS C) (C 200 0)) 214 (nS C) a5.toInt) c6 t6 (by decide) h1.1 (show C 200 11 < 1000 by omega) (fun s7 c7 t7 g7 => ?_)
        have g7 : (gI s7 200 11).toInt = C 200 11 + 1 := g7
        exact hy q1 q2 q3 s7 _ c7 t7 (by rw [m_cnt (C := C) g7 (by omega) (by omega)]; omega)
    · rw [eqT] at q; exact ⟨rfl, fun z => z.1 q⟩
    · rw [bz_0, t_0, t_500] at q2; exact ⟨rfl, fun z => q2 z.2.1⟩
    · rw [bz_0, t_1, t_36] at q3; exact ⟨rfl, fun z => q3 z.2.2⟩
    · rw [eqT] at q
      have q2 := (bz_n _).mp q2
      have q3 := (bz_n _).mp q3
      exact ⟨rfl, (bz_y ⟨q, q2, q3⟩).symm⟩
  · rw [bz_0] at q; exact ⟨rfl, fun z => q z.1⟩
  · rw [bz_0] at q2; exact ⟨rfl, fun z => q2 z.2.1⟩
  · rw [bz_0] at q3; exact ⟨rfl, fun z => q3 z.2.2⟩
  · exact ⟨rfl, (bz_y ⟨(bz_n _).mp q, (bz_n _).mp q2, (bz_n _).mp q3⟩).symm⟩
abbrev dHeld (C : Cr) (a1 a2 : Int) : Prop := (0 ≤ a1 ∧ a1 < C 200 11) ∧ dMo C a2
theorem M_isHeld {τ : Mm} {C : Cr} (hc : core τ = C) (hI : Inv C) {a1 a2 : Int32} {Q : Int32 → Mm → Prop}
    (hn : ¬ dHeld C a1.toInt a2.toInt → ∀ τ', core τ' = C → gI τ' 200 39 = 1 → Q 0 τ')
    (hy : dHeld C a1.toInt a2.toInt → ∀ τ', core τ' = C → gI τ' 200 39 = 0 → Q (bz (hl C a1.toInt.toNat a2.toInt.toNat)) τ') : wp_X7_isHeld τ a1 a2 Q := by
  refine m_lease' hc hI (jch (σ := τ) (d := dHeld C a1.toInt a2.toInt) ?_ ⟨fun q => ?_, fun q => m_month hc ⟨fun q2 => ?_, fun q2 => ?_⟩⟩)
  · refine m_goesD (d1 := dHeld C a1.toInt a2.toInt) (d2 := True) (d3 := True) rfl bz1 bz1 (fun _ => Iff.rfl) (fun _ _ => Iff.rfl) (fun q σ' k1 k2 => ?_) (fun q1 _ _ σ' k1 k2 => ?_)
    · have q : ¬ dHeld C a1.toInt a2.toInt := fun z => q ⟨z, trivial, trivial⟩
      exact jn2 (jn1 (br_y rfl ⟨zb_0, hn q σ' (k1.trans hc) (k2.trans (if_neg q))⟩))
    · have k1 := k1.trans hc
      refine jn2 (jn1 (br_n (by decide) (m_holds k1 hI q1.1.1 q1.1.2 q1.2.1 q1.2.2 ⟨fun y => ?_, fun y => ?_⟩)))
      · rw [bz_0] at y
        have := hy q1 σ' k1 k2
        rw [bz_no y] at this
        exact ⟨zb_0, this⟩
      · have y := (bz_n _).mp y
        have := hy q1 σ' k1 k2
        rw [bz_y y] at this
        exact ⟨zb_1, this⟩
  · rw [bz_0] at q; exact ⟨rfl, fun z => q z.1⟩
  · rw [bz_0] at q2; exact ⟨rfl, fun z => q2 z.2⟩
  · exact ⟨rfl, (bz_y ⟨(bz_n _).mp q, (bz_n _).mp q2⟩).symm⟩
