/-! PURE: the class settles all months up to now -/
def MO (σ : Mm) (C : Cr) (u n : Nat) : Prop := ∀ m : Nat, um C u ≤ m → m < n → ∀ o : Nat, o < 10 → gJ σ (100 + 8 * u + 5) (10 * m + o) = lZ (du C u m o) ∧ gJ σ (100 + 8 * u + 6) (10 * m + o) = lZ (bl C u (m - um C u + 1) o)
theorem MO_kr {C : Cr} {σ σ' : Mm} {u v m n : Nat} (hk : kr v m σ σ') (h : MO σ C u n) (hd : u ≠ v ∨ n ≤ m) : MO σ' C u n := fun m' h1 h2 o ho => by
  rw [hk.2.2 (100 + 8 * u + 5) (10 * m' + o) (sk_hi (by omega)) (fun z => by omega), hk.2.2 (100 + 8 * u + 6) (10 * m' + o) (sk_hi (by omega)) (fun z => by omega)]
  exact h m' h1 h2 o ho
theorem MO_s {C : Cr} {σ : Mm} {u n : Nat} (h : MO σ C u n) (h1 : um C u ≤ n → ∀ o : Nat, o < 10 → gJ σ (100 + 8 * u + 5) (10 * n + o) = lZ (du C u n o) ∧ gJ σ (100 + 8 * u + 6) (10 * n + o) = lZ (bl C u (n - um C u + 1) o)) : MO σ C u (n + 1) := fun m' a b o ho => by
  by_cases e : m' = n
  · subst e; exact h1 a o ho
  · exact h m' a (by omega) o ho
/-- what settling leaves: all but scratch, dues and balances -/
def kt (σ σ' : Mm) : Prop := (∀ k, k < 8 → gI σ' k = gI σ k) ∧ gR σ' = gR σ
theorem Rel_set {L : List Nat} {σ : Mm} {C : Cr} (hR : Rel L σ C) {v : Int32} (h0 : 0 ≤ v.toInt) (h1 : v.toInt ≤ C 200 0 + 1) (hm : ∀ u : Nat, u < nU C → MO σ C u v.toInt.toNat) : Rel L (sI σ 0 16 v) C := by
  have lo : ∀ i, i ≠ 16 → gI (sI σ 0 16 v) 0 i = gI σ 0 i := fun i hi => by rw [gI_sI, if_neg (fun z => hi z.2)]
  have ot : ∀ k, k ≠ 0 → gI (sI σ 0 16 v) k = gI σ k := fun k hk => gI_ne hk
  have g16 : gI (sI σ 0 16 v) 0 16 = v := by rw [gI_sI, if_pos ⟨rfl, rfl⟩]
  refine ⟨hR.inL, by rw [lo _ (by decide)]; exact hR.now, by rw [lo _ (by decide)]; exact hR.tc, by rw [lo _ (by decide)]; exact hR.dc, by rw [lo _ (by decide)]; exact hR.lc, by rw [lo _ (by decide)]; exact hR.uc, by rw [lo _ (by decide)]; exact hR.wc, by rw [lo _ (by decide)]; exact hR.pen, by rw [lo _ (by decide)]; exact hR.lst, by rw [lo _ (by decide)]; exact hR.sus, by rw [g16]; exact ⟨h0, h1⟩, hR.g1, hR.g2, hR.g3, hR.g4, hR.g5, hR.rr, fun t ht => ?_, fun t ht => ?_, fun t ht => ?_, fun t ht => ?_, fun t ht => ?_, fun m hm => ?_, hR.pd, fun u m hu hm1 hm2 o ho => ?_⟩
  · rw [ot (20 + t) (by omega)]; exact hR.tr t ht
  · rw [ot (30 + t) (by omega)]; exact hR.de t ht
  · rw [ot (70 + t) (by omega)]; exact hR.le t ht
  · rw [ot (100 + 8 * t) (by omega), ot (100 + 8 * t + 1) (by omega), ot (100 + 8 * t + 2) (by omega), ot (100 + 8 * t + 3) (by omega), ot (100 + 8 * t + 4) (by omega)]; exact hR.un t ht
  · rw [ot (130 + 4 * t + 1) (by omega), ot (130 + 4 * t + 2) (by omega), ot (130 + 4 * t + 3) (by omega)]; exact hR.we t ht
  · rw [ot 6 (by omega)]; exact hR.tx m hm
  · rw [g16] at hm2
    exact hm u hu m hm1 (by omega) o ho
theorem Rel.MO {L : List Nat} {σ : Mm} {C : Cr} (hR : Rel L σ C) {u : Nat} (hu : u < nU C) {n : Nat} (hn : (n : Int) ≤ (gI σ 0 16).toInt) : MO σ C u n := fun m h1 h2 o ho => hR.mo u m hu h1 (by omega) o ho
theorem k_settle {L : List Nat} {σ : Mm} {C : Cr} (hI : Inv C) (hR : Rel L σ C) {Q : Mm → Prop} (h : ∀ σ', Rel L σ' C → (gI σ' 0 16).toInt = C 200 0 + 1 → Q σ') : wp_X6_settle L σ Q := by
  have hn := hI.now
  have hu := hI.nu
  have hnU : ((nU C : Nat) : Int) = C 200 18 := by unfold nU; omega
  obtain ⟨s0, s1⟩ := hR.set
  intro x1 e1
  obtain ⟨f, hf⟩ : ∃ f : Nat, (gI σ 0 16).toInt = f := ⟨(gI σ 0 16).toInt.toNat, by omega⟩
  refine lpw_inv (fun i (s : Mm × Int32) => Rel L s.1 C ∧ (gI s.1 0 16).toInt = f ∧ s.2 = iZ ((f + i : Nat) : Int) ∧ ∀ u : Nat, u < nU C → MO s.1 C u (f + i)) (nN C + 1 - f) ⟨hR, hf, ?_, fun u hu => hR.MO hu (by omega)⟩ ?_
  · show x1 = _
    rw [e1, ← iZ_toInt (gI σ 0 16), hf]; rfl
  intro i s rec hi hs0 hrec
  obtain ⟨σ2, x3⟩ := s
  obtain ⟨R2, f2, e3, M2⟩ := hs0
  dsimp only at R2 f2 e3 M2
  subst e3
  have hN : ((nN C : Nat) : Int) = C 200 0 := by unfold nN; omega
  have ti1 : (iZ ((f + i : Nat) : Int)).toInt = (f + i : Nat) := n_iZ (by omega)
  have g0 := R2.now
  refine ⟨fun q σ6 h6 => ?_, fun q => ?_⟩
  · rw [ltT, g0, ti1] at q
    have e : f + i = nN C + 1 := by omega
    have et : (gI σ2 0 0 + 1).toInt = C 200 0 + 1 := by rw [ad32 (by rw [g0, t_1]; omega) (by rw [g0, t_1]; omega), g0, t_1]
    have g16 : gI σ6 0 16 = gI σ2 0 0 + 1 := by rw [h6, gI_sI, if_pos ⟨rfl, rfl⟩]
    refine h σ6 ?_ (by rw [g16, et])
    rw [h6]
    refine Rel_set R2 (by omega) (by omega) (fun u hu => ?_)
    rw [et, show (C 200 0 + 1).toNat = f + i from by omega]
    exact M2 u hu
  · rw [ltT, g0, ti1] at q
    have hrec := hrec (by omega)
    have hm : ((f + i : Nat) : Int) ≤ C 200 0 := by omega
    refine lpw_inv (fun j (s : Mm × Int32) => Rel L s.1 C ∧ (gI s.1 0 16).toInt = f ∧ s.2 = iZ (j : Int) ∧ ∀ u : Nat, u < nU C → MO s.1 C u (if u < j then f + i + 1 else f + i)) 3 ⟨R2, f2, rfl, fun u hu => by rw [if_neg (by omega)]; exact M2 u hu⟩ ?_
    intro j s rec2 hj hs1 hrec2
    obtain ⟨σ7, x8⟩ := s
    obtain ⟨R7, f7, e8, M7⟩ := hs1
    dsimp only at R7 f7 e8 M7
    subst e8
    have tj : (iZ (j : Int)).toInt = j := n_iZ (by omega)
    have nj : (iZ (j : Int)).toNatClampNeg = j := nat_iZ (by omega)
    refine ⟨fun q2 x11 h11 => ?_, fun q2 => ⟨vin (by omega) (by rw [leT, t_3, tj] at q2; omega), fun o13 h13 => ?_⟩⟩
    · rw [leT, t_3, tj] at q2
      refine hrec _ ⟨R7, f7, ?_, fun u hu => ?_⟩
      · show x11 = _
        rw [h11, iZ_s]; rfl
      · have := M7 u hu
        rw [if_pos (by omega)] at this
        exact this
    · rw [leT, t_3, tj] at q2
      have hrec2 := hrec2 (by omega)
      rw [nj, R7.g4 j (by omega)] at h13
      have skip : ∀ σ15 : Mm, Rel L σ15 C → (gI σ15 0 16).toInt = f → (∀ u : Nat, u < nU C → MO σ15 C u (if u < j + 1 then f + i + 1 else f + i)) → ∀ x17 : Int32, x17 = iZ (j : Int) + 1 → rec2 (σ15, x17) := fun σ15 R15 f15 M15 x17 h17 => hrec2 _ ⟨R15, f15, by rw [h17, iZ_s], M15⟩
      by_cases hlt : j < nU C
      · rw [if_pos hlt] at h13
        subst h13
        have hum := um_eq hI hlt
        have g8 := (R7.un j hlt).1
        refine jn1 ⟨fun z => (by cases z), fun k14 e14 => ?_⟩
        cases e14
        refine ⟨lv_u hI R7 hlt, fun z => ?_, fun z => ?_⟩
        · rw [ltT, ti1, g8] at z
          refine skip σ7 R7 f7 (fun u hu => ?_)
          by_cases e : u = j
          · subst e
            have := M7 u hu
            rw [if_neg (by omega)] at this
            rw [if_pos (by omega)]
            exact MO_s this (fun y => by omega)
          · have := M7 u hu
            by_cases z2 : u < j
            · rw [if_pos z2] at this; rw [if_pos (by omega)]; exact this
            · rw [if_neg z2] at this; rw [if_neg (by omega)]; exact this
        · rw [ltT, ti1, g8] at z
          have Mj := M7 j hlt
          rw [if_neg (by omega)] at Mj
          refine k_settleMonth hI R7 hlt ti1 hm (by omega) (by omega) (fun y o ho => ?_) (fun σ19 r19 D19 => skip σ19 ?_ ?_ (fun u hu => ?_))
          · have := (Mj (f + i - 1) (by omega) (by omega) o ho).2
            rw [show 10 * (f + i) + o - 10 = 10 * (f + i - 1) + o from by omega, this, show f + i - 1 - um C j + 1 = f + i - um C j from by omega]
          · exact Rel_kr hI hlt r19 (by omega) R7
          · rw [r19.1 0 (sk_lo (by omega)) (fun z => by omega)]; exact f7
          · by_cases e : u = j
            · subst e
              rw [if_pos (by omega)]
              exact MO_s (MO_kr r19 Mj (Or.inr (Nat.le_refl _))) (fun _ => D19)
            · have := MO_kr r19 (M7 u hu) (Or.inl e)
              by_cases z2 : u < j
              · rw [if_pos z2] at this; rw [if_pos (by omega)]; exact this
              · rw [if_neg z2] at this; rw [if_neg (by omega)]; exact this
      · rw [if_neg hlt] at h13
        subst h13
        refine jn1 ⟨fun _ => skip σ7 R7 f7 (fun u hu => ?_), fun k14 z => (by cases z)⟩
        have := M7 u hu
        rw [if_pos (by omega)] at this
        rw [if_pos (by omega)]
        exact this
