/-! PURE: the model's tellings, one by one -/
theorem it01 {c : Prop} [Decidable c] : (if c then (0 : Int32) else 1) = bz (¬ c) := by
  by_cases h : c
  · rw [if_pos h, bz_no (fun q => q h)]
  · rw [if_neg h, bz_y h]
theorem rf_ne {c1 c2 c3 : Prop} [Decidable c1] [Decidable c2] [Decidable c3] (h : ¬ (c1 ∧ c2 ∧ c3)) : ¬ rf c1 c2 c3 = 0 := by
  unfold rf
  by_cases k1 : c1 <;> by_cases k2 : c2 <;> by_cases k3 : c3 <;> simp only [k1, k2, k3, if_true, if_false] <;> first | decide | (exact absurd ⟨k1, k2, k3⟩ h)
theorem rf_eq {c1 c2 c3 : Prop} [Decidable c1] [Decidable c2] [Decidable c3] (h1 : c1) (h2 : c2) (h3 : c3) : rf c1 c2 c3 = 0 := by
  unfold rf; rw [if_pos h1, if_pos h2, if_pos h3]
theorem m_goesD {σ : Mm} {x1 x2 x3 : Int32} {d1 d2 d3 c2 c3 : Prop} [Decidable d1] [Decidable d2] [Decidable d3] [Decidable c2] [Decidable c3] (h1 : x1 = bz d1) (h2 : x2 = bz c2) (h3 : x3 = bz c3) (e2 : d1 → (c2 ↔ d2)) (e3 : d1 → d2 → (c3 ↔ d3)) {Q : Int32 → Mm → Prop} (hn : ¬ (d1 ∧ d2 ∧ d3) → ∀ σ', core σ' = core σ → gI σ' 200 39 = rf d1 d2 d3 → Q 0 σ') (hy : d1 → d2 → d3 → ∀ σ', core σ' = core σ → gI σ' 200 39 = 0 → Q 1 σ') : wp_X7_goes σ x1 x2 x3 Q := by
  subst h1 h2 h3
  refine m_goes (fun σ' e => ?_)
  obtain ⟨k1, k2⟩ := core_thr e
  by_cases q : d1 ∧ d2 ∧ d3
  · obtain ⟨q1, q2, q3⟩ := q
    have r2 := (e2 q1).mpr q2
    have r3 := (e3 q1 q2).mpr q3
    rw [bz_y ⟨q1, r2, r3⟩]
    exact hy q1 q2 q3 σ' k1 (k2.trans (rf_eq q1 r2 r3))
  · have nq : ¬ (d1 ∧ c2 ∧ c3) := fun z => q ⟨z.1, (e2 z.1).mp z.2.1, (e3 z.1 ((e2 z.1).mp z.2.1)).mp z.2.2⟩
    rw [bz_no nq]
    refine hn q σ' k1 (k2.trans ?_)
    unfold rf
    by_cases q1 : d1
    · rw [if_pos q1, if_pos q1]
      by_cases q2 : d2
      · rw [if_pos q2, if_pos ((e2 q1).mpr q2)]
        by_cases q3 : d3
        · exact absurd ⟨q1, q2, q3⟩ q
        · rw [if_neg q3, if_neg (fun z => q3 ((e3 q1 q2).mp z))]
      · rw [if_neg q2, if_neg (fun z => q2 ((e2 q1).mp z))]
    · rw [if_neg q1, if_neg q1]
theorem bz1 : (1 : Int32) = bz True := bz_t.symm
theorem c0 {τ : Mm} {C : Cr} (hc : core τ = C) {i : Nat} (h : i ≠ 39) : (gI τ 200 i).toInt = C 200 i := ct_I hc (by omega) (by omega) (Or.inr h)
theorem cK {τ : Mm} {C : Cr} (hc : core τ = C) {k i : Nat} (h : 201 ≤ k ∧ k ≤ 222) : (gI τ k i).toInt = C k i := ct_I hc (by omega) (by omega) (Or.inl (by omega))
/-- one number of the model anew -/
theorem cs_I {τ : Mm} {C : Cr} (hc : core τ = C) {k i : Nat} {v : Int32} (h : 200 ≤ k) (h2 : k ≤ 222) (h3 : k ≠ 200 ∨ i ≠ 39) : core (sI τ k i v) = u2 C k i v.toInt := by rw [core_sI h h2 h3, hc]
theorem th_I {τ : Mm} {c : Int32} (h : gI τ 200 39 = c) {k i : Nat} {v : Int32} (h3 : k ≠ 200 ∨ i ≠ 39) : gI (sI τ k i v) 200 39 = c := by
  rw [gI_sI, if_neg (by omega)]; exact h
theorem th_J {τ : Mm} {c : Int32} (h : gI τ 200 39 = c) {k i : Nat} {v : Int64} : gI (sJ τ k i v) 200 39 = c := h
abbrev d1pass (a1 : Int) : Prop := 1 ≤ a1 ∧ a1 ≤ 12
abbrev d2pass (C : Cr) (a1 : Int) : Prop := C 200 0 + a1 ≤ 60
theorem M_pass {τ : Mm} {C : Cr} (hc : core τ = C) (hI : Inv C) {a1 : Int32} {Q : Int32 → Mm → Prop}
    (hn : ¬ (d1pass a1.toInt ∧ d2pass C a1.toInt ∧ True) → ∀ τ', core τ' = C → gI τ' 200 39 = rf (d1pass a1.toInt) (d2pass C a1.toInt) True → Q 0 τ')
    (hy : d1pass a1.toInt → d2pass C a1.toInt → ∀ τ' x, core τ' = u2 C 200 0 (C 200 0 + a1.toInt) → gI τ' 200 39 = 0 → x.toInt = C 200 0 + a1.toInt → Q x τ') : wp_X7_pass τ a1 Q := by
  have h0 := hI.now
  have g0 : (gI τ 200 0).toInt = C 200 0 := c0 hc (by decide)
  refine m_btw (jb (m_goesD (d1 := d1pass a1.toInt) (d2 := d2pass C a1.toInt) (d3 := True) rfl it01 bz1 (fun q => ?_) (fun _ _ => Iff.rfl) (fun q σ' k1 k2 => ?_) (fun q1 q2 _ σ' k1 k2 => ?_)))
  · rw [ltT, ad32 (by omega) (by omega), g0, t_60]; omega
  · exact br_n (fun z => z rfl) (hn q σ' (k1.trans hc) k2)
  · have g1 : (gI σ' 200 0).toInt = C 200 0 := c0 (k1.trans hc) (by decide)
    have e : (gI σ' 200 0 + a1).toInt = C 200 0 + a1.toInt := by rw [ad32 (by omega) (by omega), g1]
    refine br_y (by decide) (fun σ7 e7 => ?_)
    subst e7
    refine hy q1 q2 _ _ ?_ (th_I k2 (Or.inr (by omega))) ?_
    · rw [cs_I (k1.trans hc) (by omega) (by omega) (Or.inr (by omega)), e]
    · rw [gI_sI, if_pos ⟨rfl, rfl⟩, e]
