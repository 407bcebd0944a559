/-! PURE: the model's tellings, on -/
theorem sm_bd {f : Nat → Int} {B : Int} : ∀ {n : Nat}, (∀ k, k < n → -B ≤ f k ∧ f k ≤ B) → -(n * B) ≤ sm f n ∧ sm f n ≤ n * B
  | 0, _ => by simp [sm]
  | n + 1, h => by
    have h1 := sm_bd (f := f) (B := B) (n := n) (fun k hk => h k (by omega))
    have h2 := h n (by omega)
    rw [sm_s, show ((n + 1 : Nat) : Int) = n + 1 from rfl, Int.add_mul, Int.one_mul]
    omega
theorem ti_rg {C : Cr} (hI : Inv C) (t : Nat) (o m : Int) : -1000000 ≤ ti C t o m ∧ ti C t o m ≤ 1000000 := by
  have h := sm_bd (f := tiT C t o m) (B := 10000) (n := nD C) (fun k hk => by
    have d := hI.de k hk
    obtain ⟨-, -, -, -, d, -⟩ := d
    unfold tiT
    split
    · split <;> split <;> omega
    · omega)
  have h1 := hI.nd
  have e : ((nD C : Nat) : Int) = C 200 5 := by unfold nD; omega
  unfold ti tiN
  split <;> omega
def uDeed (C : Cr) (a1 a2 a3 a4 a5 : Int) : Cr := u2 (u2 (u2 (u2 (u2 (u2 C 204 (nD C) a1) 205 (nD C) a2) 206 (nD C) a3) 207 (nD C) a4) 208 (nD C) a5) 200 5 (C 200 5 + 1)
abbrev dDe1 (C : Cr) (a1 a2 a3 a5 : Int) : Prop := dTr C a1 ∧ dOw a2 ∧ dOw a3 ∧ dMo C a5
abbrev dDe2 (a2 a3 a4 : Int) : Prop := a2 ≠ a3 ∧ (1 ≤ a4 ∧ a4 ≤ 10000)
abbrev dDe3 (C : Cr) (a1 a2 a4 a5 : Int) : Prop := C 200 5 < 40 ∧ ∀ m : Nat, m < nN C + 1 → (a5 ≤ (m : Int) → a4 ≤ ti C a1.toNat a2 m)
theorem M_deed {τ : Mm} {C : Cr} (hc : core τ = C) (hI : Inv C) {a1 a2 a3 a4 a5 : Int32} {Q : Int32 → Mm → Prop}
    (hn : ¬ (dDe1 C a1.toInt a2.toInt a3.toInt a5.toInt ∧ dDe2 a2.toInt a3.toInt a4.toInt ∧ dDe3 C a1.toInt a2.toInt a4.toInt a5.toInt) → ∀ τ', core τ' = C → gI τ' 200 39 = rf (dDe1 C a1.toInt a2.toInt a3.toInt a5.toInt) (dDe2 a2.toInt a3.toInt a4.toInt) (dDe3 C a1.toInt a2.toInt a4.toInt a5.toInt) → Q 0 τ')
    (hy : dDe1 C a1.toInt a2.toInt a3.toInt a5.toInt → dDe2 a2.toInt a3.toInt a4.toInt → dDe3 C a1.toInt a2.toInt a4.toInt a5.toInt → ∀ τ', core τ' = uDeed C a1.toInt a2.toInt a3.toInt a4.toInt a5.toInt → gI τ' 200 39 = 0 → Q (iZ (ti (uDeed C a1.toInt a2.toInt a3.toInt a4.toInt a5.toInt) a1.toInt.toNat a2.toInt (C 200 0))) τ') : wp_X7_deed τ a1 a2 a3 a4 a5 Q := by
  have h1 := hI.nd
  have hw := hI.now
  have htr := hI.nt
  have g5 : (gI τ 200 5).toInt = C 200 5 := c0 hc (by decide)
  have g0 : (gI τ 200 0).toInt = C 200 0 := c0 hc (by decide)
  refine m_tract' hc hI (jch (σ := τ) (d := dDe1 C a1.toInt a2.toInt a3.toInt a5.toInt) ?_ ⟨fun q => ?_, fun q => m_owner ⟨fun q2 => ?_, fun q2 => m_owner ⟨fun q3 => ?_, fun q3 => m_month hc ⟨fun q4 => ?_, fun q4 => ?_⟩⟩⟩⟩)
  · refine jch (σ := τ) (d := dDe2 a2.toInt a3.toInt a4.toInt) ?_ ⟨fun q => ?_, fun q => m_btw ⟨fun q2 => ?_, fun q2 => ?_⟩⟩
    · -- what comes behind the loop
      have fin : ∀ (c3 : Prop) [Decidable c3], (dDe1 C a1.toInt a2.toInt a3.toInt a5.toInt → dDe2 a2.toInt a3.toInt a4.toInt → (c3 ↔ dDe3 C a1.toInt a2.toInt a4.toInt a5.toInt)) → wp_X7_goes τ (bz (dDe1 C a1.toInt a2.toInt a3.toInt a5.toInt)) (bz (dDe2 a2.toInt a3.toInt a4.toInt)) (bz c3) (fun (x18 : Int32) (σ17 : Mm) => ((¬ x18 = 0 → vp_in (gI σ17 200 5) 40 ∧ ∀ σ20 : Mm, σ20 = sI σ17 204 (gI σ17 200 5).toNatClampNeg a1 → vp_in (gI σ20 200 5) 40 ∧ ∀ σ22 : Mm, σ22 = sI σ20 205 (gI σ20 200 5).toNatClampNeg a2 → vp_in (gI σ22 200 5) 40 ∧ ∀ σ24 : Mm, σ24 = sI σ22 206 (gI σ22 200 5).toNatClampNeg a3 → vp_in (gI σ24 200 5) 40 ∧ ∀ σ26 : Mm, σ26 = sI σ24 207 (gI σ24 200 5).toNatClampNeg a4 → vp_in (gI σ26 200 5) 40 ∧ ∀ σ28 : Mm, σ28 = sI σ26 208 (gI σ26 200 5).toNatClampNeg a5 → ∀ σ29 : Mm, σ29 = sI σ28 200 5 ((gI σ28 200 5) + 1) → wp_X7_titleOf σ29 a1 a2 (gI σ29 200 0) (fun (x31 : Int32) (σ30 : Mm) => Q x31 σ30)) ∧ (¬ (¬ x18 = 0) → Q 0 σ17))) := by
        intro c3 _ e3
        refine m_goesD (d1 := dDe1 C a1.toInt a2.toInt a3.toInt a5.toInt) (d2 := dDe2 a2.toInt a3.toInt a4.toInt) (d3 := dDe3 C a1.toInt a2.toInt a4.toInt a5.toInt) rfl rfl rfl (fun _ => Iff.rfl) e3 (fun q σ' k1 k2 => ?_) (fun q1 q2 q3 σ' k1 k2 => ?_)
        · exact br_n (fun z => z rfl) (hn q σ' (k1.trans hc) k2)
        · refine br_y (by decide) ?_
          refine stI (k1.trans hc) k2 (by decide) (by decide) h1.1 q3.1 (by decide) (fun s1 c1 t1 => ?_) rfl
          refine stI (C := u2 C 204 (nD C) a1.toInt) c1 t1 (by decide) (by decide) h1.1 q3.1 (by decide) (fun s2 c2 t2 => ?_) rfl
          refine stI (C := u2 (u2 C 204 (nD C) a1.toInt) 205 (nD C) a2.toInt) c2 t2 (by decide) (by decide) h1.1 q3.1 (by decide) (fun s3 c3 t3 => ?_) rfl
          refine stI (C := u2 (u2 (u2 C 204 (nD C) a1.toInt) 205 (nD C) a2.toInt) 206 (nD C) a3.toInt) c3 t3 (by decide) (by decide) h1.1 q3.1 (by decide) (fun s4 c4 t4 => ?_) rfl
          refine stI (C := u2 (u2 (u2 (u2 C 204 (nD C) a1.toInt) 205 (nD C) a2.toInt) 206 (nD C) a3.toInt) 207 (nD C) a4.toInt) c4 t4 (by decide) (by decide) h1.1 q3.1 (by decide) (fun s5 c5 t5 => ?_) rfl
          refine stC (C := u2 (u2 (u2 (u2 (u2 C 204 (nD C) a1.toInt) 205 (nD C) a2.toInt) 206 (nD C) a3.toInt) 207 (nD C) a4.toInt) 208 (nD C) a5.toInt) c5 t5 (by decide) h1.1 (show C 200 5 < 1000 by omega) (fun s6 c6 t6 g6 => ?_)
          have c6 : core s6 = uDeed C a1.toInt a2.toInt a3.toInt a4.toInt a5.toInt := c6
          have e5 : uDeed C a1.toInt a2.toInt a3.toInt a4.toInt a5.toInt 200 5 = C 200 5 + 1 := u2_y
          have e0 : (gI s6 200 0).toInt = C 200 0 := c0 c6 (by decide)
          refine m_titleOf c6 (by rw [e5]; omega) (vin q1.1.1 (by omega)) ?_
          rw [e0]
          exact hy q1 q2 q3 s6 c6 t6
      refine jn1 (jn0 ?_)
      -- the loop, from a truth that is known
      by_cases can : dDe1 C a1.toInt a2.toInt a3.toInt a5.toInt ∧ dDe2 a2.toInt a3.toInt a4.toInt ∧ C 200 5 < 40
      · obtain ⟨k1, k2, k3⟩ := can
        rw [bz_y k1, bz_y k2] at *
        refine br_n (by decide) (br_n (by decide) (br_n (by rw [leT, g5, t_40]; omega) ?_))
        have h5 := k1.2.2.2
        refine lpw_f (fun i => (τ, bz (∀ m : Nat, m < i → a4.toInt ≤ ti C a1.toInt.toNat a2.toInt (a5.toInt + m)), iZ (a5.toInt + i))) ((C 200 0 + 1 - a5.toInt).toNat) ?_ ?_
        · have z : ∀ n : Nat, n = 0 → (1 : Int32) = bz (∀ m : Nat, m < n → a4.toInt ≤ ti C a1.toInt.toNat a2.toInt (a5.toInt + m)) := fun n hn => (bz_y (fun m hm => by omega)).symm
          refine Prod.ext rfl (Prod.ext (z 0 rfl) ?_)
          show a5 = iZ (a5.toInt + (0 : Nat))
          rw [show a5.toInt + ((0 : Nat) : Int) = a5.toInt from by omega, iZ_toInt]
        · intro i rec hi hrec
          have ti1 : (iZ (a5.toInt + i)).toInt = a5.toInt + i := toInt_iZ (by omega) (by omega)
          refine jn0 ⟨fun q => ?_, fun q => ⟨fun q2 => ?_, fun q2 => ?_⟩⟩
          · rw [ltT, g0, ti1] at q
            refine fin _ (fun _ _ => ⟨fun z => ⟨k3, fun m hm hm2 => ?_⟩, fun z m hm => ?_⟩)
            · have := z (m - a5.toInt.toNat) (by unfold nN at hm; omega)
              rw [show a5.toInt + ((m - a5.toInt.toNat : Nat) : Int) = m from by omega] at this
              exact this
            · have := z.2 (a5.toInt.toNat + m) (by unfold nN; omega) (by omega)
              rw [show ((a5.toInt.toNat + m : Nat) : Int) = a5.toInt + m from by omega] at this
              exact this
          · rw [bz_0] at q2
            rw [ltT, g0, ti1] at q
            refine fin _ (fun _ _ => ⟨fun z => absurd z q2, fun z => absurd (fun m hm => ?_) q2⟩)
            have := z.2 (a5.toInt.toNat + m) (by unfold nN; omega) (by omega)
            rw [show ((a5.toInt.toNat + m : Nat) : Int) = a5.toInt + m from by omega] at this
            exact this
          · have q2 := (bz_n _).mp q2
            rw [ltT, g0, ti1] at q
            have hrec := hrec (by omega)
            refine m_titleOf hc h1 (vin k1.1.1 (by omega)) (jb ?_)
            rw [it01, ti1]
            intro x36 e36
            refine hrec _ (Prod.ext rfl (Prod.ext (bz_cong ?_) ?_))
            · rw [ltT]
              have rt : (iZ (ti C a1.toInt.toNat a2.toInt (a5.toInt + i))).toInt = ti C a1.toInt.toNat a2.toInt (a5.toInt + i) := by
                have := ti_rg hI a1.toInt.toNat a2.toInt (a5.toInt + i)
                exact toInt_iZ (by omega) (by omega)
              rw [rt]
              constructor
              · intro z m hm
                rcases Nat.lt_or_ge m i with y | y
                · exact q2 m y
                · have e : m = i := by omega
                  subst e; omega
              · intro z
                have := z i (by omega)
                omega
            · rw [e36, iZ_1, iZ_add]
              show iZ _ = iZ _
              congr 1
              omega
      · have e3 : dDe1 C a1.toInt a2.toInt a3.toInt a5.toInt → dDe2 a2.toInt a3.toInt a4.toInt → (False ↔ dDe3 C a1.toInt a2.toInt a4.toInt a5.toInt) := fun k1 k2 => ⟨False.elim, fun z => can ⟨k1, k2, z.1⟩⟩
        have f := fin False e3
        refine ⟨fun q => ?_, fun q => ⟨fun q2 => ?_, fun q2 => ⟨fun q3 => ?_, fun q3 => ?_⟩⟩⟩
        · exact lpw_f (fun _ => (τ, 0, a5)) 0 rfl (fun i rec hi hrec => jn0 ⟨fun _ => f, fun _ => ⟨fun _ => f, fun z => absurd rfl z⟩⟩)
        · exact lpw_f (fun _ => (τ, 0, a5)) 0 rfl (fun i rec hi hrec => jn0 ⟨fun _ => f, fun _ => ⟨fun _ => f, fun z => absurd rfl z⟩⟩)
        · exact lpw_f (fun _ => (τ, 0, a5)) 0 rfl (fun i rec hi hrec => jn0 ⟨fun _ => f, fun _ => ⟨fun _ => f, fun z => absurd rfl z⟩⟩)
        · rw [leT, g5, t_40] at q3
          exact absurd ⟨(bz_n _).mp q, (bz_n _).mp q2, by omega⟩ can
    · rw [eqT] at q; exact ⟨rfl, fun z => z.1 q⟩
    · rw [bz_0, t_1, t_1e4] at q2; exact ⟨rfl, fun z => q2 z.2⟩
    · rw [eqT] at q
      exact ⟨rfl, (bz_y ⟨q, (bz_n _).mp q2⟩).symm⟩
  · rw [bz_0] at q; exact ⟨rfl, fun z => q z.1⟩
  · rw [bz_0] at q2; exact ⟨rfl, fun z => q2 z.2.1⟩
  · rw [bz_0] at q3; exact ⟨rfl, fun z => q3 z.2.2.1⟩
  · rw [bz_0] at q4; exact ⟨rfl, fun z => q4 z.2.2.2⟩
  · exact ⟨rfl, (bz_y ⟨(bz_n _).mp q, (bz_n _).mp q2, (bz_n _).mp q3, (bz_n _).mp q4⟩).symm⟩
def uWell (C : Cr) (a1 : Int) : Cr := u2 (u2 C 216 (nW C) a1) 200 20 (C 200 20 + 1)
theorem M_well {τ : Mm} {C : Cr} (hc : core τ = C) (hI : Inv C) {a1 : Int32} {Q : Int32 → Mm → Prop}
    (hn : ¬ (dUn C a1.toInt ∧ C 200 20 < 6 ∧ True) → ∀ τ', core τ' = C → gI τ' 200 39 = rf (dUn C a1.toInt) (C 200 20 < 6) True → Q 0 τ')
    (hy : dUn C a1.toInt → C 200 20 < 6 → ∀ τ' x, core τ' = uWell C a1.toInt → gI τ' 200 39 = 0 → x.toInt = C 200 20 → Q x τ') : wp_X7_well τ a1 Q := by
  have h1 := hI.nw
  have g0 : (gI τ 200 20).toInt = C 200 20 := c0 hc (by decide)
  refine m_unit' hc hI (jb (m_goesD (d1 := dUn C a1.toInt) (d2 := C 200 20 < 6) (d3 := True) rfl it01 bz1 (fun _ => ?_) (fun _ _ => Iff.rfl) (fun q σ' k1 k2 => ?_) (fun q1 q2 _ σ' k1 k2 => ?_)))
  · rw [leT, g0, t_6]; omega
  · exact br_n (fun z => z rfl) (hn q σ' (k1.trans hc) k2)
  · refine br_y (by decide) ?_
    refine stI (k1.trans hc) k2 (by decide) (by decide) h1.1 q2 (by decide) (fun s1 c1 t1 => ?_) rfl
    refine stC (C := u2 C 216 (nW C) a1.toInt) c1 t1 (by decide) h1.1 (show C 200 20 < 1000 by omega) (fun s2 c2 t2 g2 => ?_)
    have g2 : (gI s2 200 20).toInt = C 200 20 + 1 := g2
    exact hy q1 q2 s2 _ c2 t2 (by rw [m_cnt (C := C) g2 (by omega) (by omega)]; omega)
abbrev dWM (C : Cr) (a1 a2 : Int) : Prop := (0 ≤ a1 ∧ a1 < C 200 20) ∧ dMo C a2
theorem m_wellMonth {σ : Mm} {C : Cr} (hc : core σ = C) (hI : Inv C) {a1 a2 : Int32} {Q : Int32 → Mm → Prop} (h : Q (bz (dWM C a1.toInt a2.toInt)) σ) : wp_X7_isWellMonth σ a1 a2 Q := by
  refine m_well' hc hI (jch (σ := σ) (d := dWM C a1.toInt a2.toInt) ⟨zb_bz _, h⟩ ⟨fun q => ?_, fun q => m_month hc ⟨fun q2 => ?_, fun q2 => ?_⟩⟩)
  · rw [bz_0] at q; exact ⟨rfl, fun z => q z.1⟩
  · rw [bz_0] at q2; exact ⟨rfl, fun z => q2 z.2⟩
  · exact ⟨rfl, (bz_y ⟨(bz_n _).mp q, (bz_n _).mp q2⟩).symm⟩
theorem ix_w2 {a1 a2 : Int32} (h0 : 0 ≤ a1.toInt) (h01 : a1.toInt < 6) (h1 : 0 ≤ a2.toInt) (h2 : a2.toInt < 61) : ((61 * a1) + a2).toInt = ((61 * a1.toInt.toNat + a2.toInt.toNat : Nat) : Int) := by
  have := ix_w (i := a1.toInt.toNat) (a2 := a2) (by omega) h1 h2
  rw [show ((a1.toInt.toNat : Nat) : Int) = a1.toInt from by omega, iZ_toInt] at this
  exact this
def iW (a1 a2 : Int) : Nat := 61 * a1.toNat + a2.toNat
def uOil (C : Cr) (a1 a2 a3 a4 : Int) : Cr := u2 (u2 C 217 (iW a1 a2) a3) 218 (iW a1 a2) a4
abbrev dOil2 (a3 a4 : Int) : Prop := (0 ≤ a3 ∧ a3 ≤ 1000) ∧ (0 ≤ a4 ∧ a4 ≤ 10000)
abbrev dOil3 (C : Cr) (a1 a2 : Int) : Prop := C 215 (C 216 a1.toNat).toNat ≤ a2
theorem M_oil {τ : Mm} {C : Cr} (hc : core τ = C) (hI : Inv C) {a1 a2 a3 a4 : Int32} {Q : Int32 → Mm → Prop}
    (hn : ¬ (dWM C a1.toInt a2.toInt ∧ dOil2 a3.toInt a4.toInt ∧ dOil3 C a1.toInt a2.toInt) → ∀ τ', core τ' = C → gI τ' 200 39 = rf (dWM C a1.toInt a2.toInt) (dOil2 a3.toInt a4.toInt) (dOil3 C a1.toInt a2.toInt) → Q 0 τ')
    (hy : dWM C a1.toInt a2.toInt → dOil2 a3.toInt a4.toInt → dOil3 C a1.toInt a2.toInt → ∀ τ' x, core τ' = uOil C a1.toInt a2.toInt a3.toInt a4.toInt → gI τ' 200 39 = 0 → x.toInt = C 217 (iW a1.toInt a2.toInt) → Q x τ') : wp_X7_oil τ a1 a2 a3 a4 Q := by
  have h1 := hI.nw
  have hw := hI.now
  have hu := hI.nu
  refine m_wellMonth hc hI (m_btw (jch (σ := τ) (d := dOil2 a3.toInt a4.toInt) ?_ ⟨fun q => ?_, fun q => m_btw ⟨fun q2 => ?_, fun q2 => ?_⟩⟩))
  · have fin : ∀ x8 : Int32, x8 = bz (dWM C a1.toInt a2.toInt ∧ dOil3 C a1.toInt a2.toInt) → wp_X7_goes τ (bz (dWM C a1.toInt a2.toInt)) (bz (dOil2 a3.toInt a4.toInt)) x8 (fun (x11 : Int32) (σ10 : Mm) => ((¬ x11 = 0 → vp_in ((61 * a1) + a2) 366 ∧ ∀ x13 : Int32, x13 = gI σ10 217 ((61 * a1) + a2).toNatClampNeg → vp_in ((61 * a1) + a2) 366 ∧ ∀ σ15 : Mm, σ15 = sI σ10 217 ((61 * a1) + a2).toNatClampNeg a3 → vp_in ((61 * a1) + a2) 366 ∧ ∀ σ17 : Mm, σ17 = sI σ15 218 ((61 * a1) + a2).toNatClampNeg a4 → Q x13 σ17) ∧ (¬ (¬ x11 = 0) → Q 0 σ10))) := by
      intro x8 e8
      refine m_goesD (d1 := dWM C a1.toInt a2.toInt) (d2 := dOil2 a3.toInt a4.toInt) (d3 := dOil3 C a1.toInt a2.toInt) rfl rfl e8 (fun _ => Iff.rfl) (fun k _ => ⟨fun z => z.2, fun z => ⟨k, z⟩⟩) (fun q σ' k1 k2 => ?_) (fun q1 q2 q3 σ' k1 k2 => ?_)
      · exact br_n (fun z => z rfl) (hn q σ' (k1.trans hc) k2)
      · have k1 := k1.trans hc
        have ex := ix_w2 (a1 := a1) (a2 := a2) (by omega) (by omega) (by omega) (by omega)
        have nx : (61 * a1 + a2).toNatClampNeg = iW a1.toInt a2.toInt := by rw [cl_T, ex]; exact Int.toNat_natCast _
        have v : vp_in ((61 * a1) + a2) 366 := vin (by omega) (by omega)
        refine br_y (by decide) ⟨v, fun x13 e13 => ⟨v, fun s1 h1 => ⟨v, fun s2 h2 => ?_⟩⟩⟩
        rw [nx] at e13 h1 h2
        have c1 := cs_I k1 (k := 217) (i := iW a1.toInt a2.toInt) (v := a3) (by omega) (by omega) (Or.inl (by omega))
        rw [← h1] at c1
        have c2 := cs_I c1 (k := 218) (i := iW a1.toInt a2.toInt) (v := a4) (by omega) (by omega) (Or.inl (by omega))
        rw [← h2] at c2
        refine hy q1 q2 q3 s2 x13 c2 ?_ ?_
        · rw [h2, h1]; exact th_I (th_I k2 (Or.inl (by omega))) (Or.inl (by omega))
        · rw [e13]; exact cK k1 (by decide)
    by_cases k : dWM C a1.toInt a2.toInt
    · have e : bz (dWM C a1.toInt a2.toInt) = 1 := bz_y k
      rw [e] at fin ⊢
      have v6 : vp_in a1 6 := vin (by omega) (by omega)
      have g216 : (gI τ 216 a1.toInt.toNat).toInt = C 216 a1.toInt.toNat := cK hc (by decide)
      have r := hI.we a1.toInt.toNat (by unfold nW; omega)
      refine jn1 (jn0 (br_n (by decide) (jn1 (br_n (by decide) ⟨v6, ?_⟩))))
      rw [cl_T (x := a1)]
      refine ⟨vin (by omega) (by omega), ?_⟩
      have g215 : (gI τ 215 (C 216 a1.toInt.toNat).toNat).toInt = C 215 (C 216 a1.toInt.toNat).toNat := cK hc (by decide)
      rw [cl_T (x := gI τ 216 a1.toInt.toNat), g216]
      refine ⟨fun z => ?_, fun z => ?_⟩
      · rw [ltT, g215] at z
        exact fin 0 (bz_no (fun y => by have := y.2; omega)).symm
      · rw [ltT, g215] at z
        exact fin 1 (bz_y ⟨k, by omega⟩).symm
    · have e : bz (dWM C a1.toInt a2.toInt) = 0 := bz_no k
      rw [e] at fin ⊢
      exact jn1 (jn0 (br_y rfl (fin 0 (bz_no (fun z => k z.1)).symm)))
  · rw [bz_0, t_0, t_1000] at q; exact ⟨rfl, fun z => q z.1⟩
  · rw [bz_0, t_0, t_1e4] at q2; exact ⟨rfl, fun z => q2 z.2⟩
  · exact ⟨rfl, (bz_y ⟨(bz_n _).mp q, (bz_n _).mp q2⟩).symm⟩
