/-! PURE: who is carried, in the class -/
theorem bt_ext {a b : Int32} (h : ∀ j : Nat, j < 32 → (bt a j = true ↔ bt b j = true)) : a = b := by
  apply Int32.toBitVec_inj.mp
  apply BitVec.eq_of_getLsbD_eq
  intro i hi
  exact Bool.eq_iff_iff.mpr (h i hi)
theorem bt_z (j : Nat) : bt 0 j = false := by
  unfold bt
  show (0#32).getLsbD j = false
  simp
theorem k_carried {L : List Nat} {σ : Mm} {C : Cr} (hI : Inv C) (hR : Rel L σ C) {u m N : Nat} (hN : N = 10) (hu : u < nU C) {a2 : Int32} (h1 : a2.toInt = m) (h2 : m < 61) {b d : Nat → Int} (hd : ∀ j : Nat, j < 20 → gJ σ 10 j = lZ (d j)) (hdr : ∀ j : Nat, j < 20 → 0 ≤ d j ∧ d j < 9223372036854775808) (hb : ∀ o : Nat, o < 10 → gJ σ (100 + 8 * u + 6) (10 * m + o) = lZ (b o)) (hbr : ∀ o : Nat, o < 10 → 0 ≤ b o ∧ b o < 9223372036854775808) {Q : Int32 → Mm → Prop}
    (h : ∀ x : Int32, (∀ o : Nat, o < 10 → (bt x o = true ↔ (0 < d (10 + o) ∧ cq C u m b o ∧ ∃ p, p < N ∧ (0 < d (10 + p) ∧ ¬ cq C u m b p)))) → Q x σ) : wp_X6_carriedOwners L σ (some (100 + 8 * u)) a2 Q := by
  have hu3 := nU3 hI hu
  have k := kd_u2 u hu3
  have hbits := ((hR.un u hu).2 m h2).1
  refine lpw_inv (fun i (s : Mm × Int32 × Int32 × Int32) => s.1 = σ ∧ s.2.2.2 = iZ (i : Int) ∧ (∀ j : Nat, j < 32 → (bt s.2.1 j = true ↔ (j < i ∧ 0 < d (10 + j)))) ∧ ∀ j : Nat, j < 32 → (bt s.2.2.1 j = true ↔ (j < i ∧ 0 < d (10 + j) ∧ cq C u m b j))) 10 ⟨rfl, rfl, fun j hj => by show bt 0 j = true ↔ _; rw [bt_z]; simp, fun j hj => by show bt 0 j = true ↔ _; rw [bt_z]; simp⟩ ?_
  intro i s rec hi hs0 hrec
  obtain ⟨σ1, x2, x3, x4⟩ := s
  obtain ⟨e1, e2, W, K⟩ := hs0
  dsimp only at e1 e2 W K
  subst e1 e2
  have ti1 : (iZ (i : Int)).toInt = i := n_iZ (by omega)
  have ni : (iZ (i : Int)).toNatClampNeg = i := nat_iZ (by omega)
  refine ⟨fun q => jn1 ⟨fun z => h _ (fun o ho => ?_), fun z => h _ (fun o ho => ?_)⟩, fun q => ?_⟩
  · rw [leT, ti1, t_10] at q
    have e : i = 10 := by omega
    subst e
    rw [K o (by omega)]
    constructor
    · rintro ⟨-, y1, y2⟩
      refine ⟨y1, y2, ?_⟩
      apply Classical.byContradiction
      intro hno
      refine z (bt_ext (fun j hj => ?_))
      rw [K j hj, W j hj]
      constructor
      · rintro ⟨w1, w2, -⟩; exact ⟨w1, w2⟩
      · rintro ⟨w1, w2⟩
        exact ⟨w1, w2, Classical.byContradiction (fun w3 => hno ⟨j, by omega, w2, w3⟩)⟩
    · rintro ⟨y1, y2, -⟩; exact ⟨ho, y1, y2⟩
  · rw [leT, ti1, t_10] at q
    have e : i = 10 := by omega
    subst e
    have z := Decidable.not_not.mp z
    rw [bt_z]
    constructor
    · intro y; cases y
    · rintro ⟨-, -, p, p1, p2, p3⟩
      have w := (W p (by omega)).mpr ⟨by omega, p2⟩
      rw [← z] at w
      exact absurd ((K p (by omega)).mp w).2.2 p3
  · rw [leT, ti1, t_10] at q
    have hrec := hrec (by omega)
    rw [ten_o]
    have n10 : (iZ ((10 + i : Nat) : Int)).toNatClampNeg = 10 + i := nat_iZ (by omega)
    have v10 : vp_in (iZ ((10 + i : Nat) : Int)) 20 := vin (by rw [n_iZ (by omega)]; omega) (by rw [n_iZ (by omega)]; omega)
    have r1 := hdr (10 + i) (by omega)
    have r2 := hbr i (by omega)
    have l1 : lZ (d (10 + i)) ≤ 0 ↔ d (10 + i) ≤ 0 := lZ_le (b := 0) (by omega) (by omega) (by omega) (by omega)
    have l2 : lZ (b i) ≤ 0 ↔ b i ≤ 0 := lZ_le (b := 0) (by omega) (by omega) (by omega) (by omega)
    rw [n10, hd (10 + i) (by omega), l1]
    refine ⟨v10, ⟨fun s y z => s = σ1 ∧ (∀ j : Nat, j < 32 → (bt y j = true ↔ (j < i + 1 ∧ 0 < d (10 + j)))) ∧ ∀ j : Nat, j < 32 → (bt z j = true ↔ (j < i + 1 ∧ 0 < d (10 + j) ∧ cq C u m b j)), fun s y z hh x14 h14 => hrec _ ⟨hh.1, by rw [h14, iZ_s], hh.2.1, hh.2.2⟩, fun z => ⟨rfl, fun j hj => ?_, fun j hj => ?_⟩, fun z => ⟨100 + 8 * u, rfl, lv_u hI hR hu, ⟨inF hR (al_u hu (by decide)), k.1.1⟩, by rw [k.2.1]; exact vin (by omega) (by omega), k_hasBit (by omega) ?_⟩⟩⟩
    · rw [W j hj]
      by_cases e : j = i
      · subst e; constructor <;> (rintro ⟨w1, w2⟩; omega)
      · constructor <;> (rintro ⟨w1, w2⟩; exact ⟨by omega, w2⟩)
    · rw [K j hj]
      by_cases e : j = i
      · subst e; constructor <;> (rintro ⟨w1, w2, -⟩; omega)
      · constructor <;> (rintro ⟨w1, w2⟩; exact ⟨by omega, w2⟩)
    · have fin : ∀ x22 : Int32, (¬ x22 = 0 ↔ cq C u m b i) → wp_X6_withBit L σ1 x2 (iZ (i : Int)) 1 (fun (x25 : Int32) (σ24 : Mm) => wp_X6_withBit L σ24 x3 (iZ (i : Int)) x22 (fun (x27 : Int32) (σ26 : Mm) => σ26 = σ1 ∧ (∀ j : Nat, j < 32 → (bt x25 j = true ↔ (j < i + 1 ∧ 0 < d (10 + j)))) ∧ ∀ j : Nat, j < 32 → (bt x27 j = true ↔ (j < i + 1 ∧ 0 < d (10 + j) ∧ cq C u m b j)))) := by
        intro x22 h22
        refine k_withBit (by omega) (fun x25 b25 => k_withBit (by omega) (fun x27 b27 => ⟨rfl, fun j hj => ?_, fun j hj => ?_⟩))
        · rw [b25 j hj]
          by_cases e : j = i
          · subst e; rw [if_pos rfl]; exact ⟨fun _ => ⟨by omega, by omega⟩, fun _ => by decide⟩
          · rw [if_neg e, W j hj]; constructor <;> (rintro ⟨w1, w2⟩; exact ⟨by omega, w2⟩)
        · rw [b27 j hj]
          by_cases e : j = i
          · subst e; rw [if_pos rfl, h22]; exact ⟨fun w => ⟨by omega, by omega, w⟩, fun w => w.2.2⟩
          · rw [if_neg e, K j hj]; constructor <;> (rintro ⟨w1, w2⟩; exact ⟨by omega, w2⟩)
      have nm : a2.toNatClampNeg = m := by rw [cl_T, h1]; exact Int.toNat_natCast _
      have ex := row_ix (i := i) h1 h2 (by omega)
      have nx : (a2 * 10 + iZ (i : Int)).toNatClampNeg = 10 * m + i := by rw [cl_T, ex]; exact Int.toNat_natCast _
      have hbi := hbits i (by omega)
      rw [nm, nx, hb i (by omega), l2, k.2.2.2.2.2.2]
      refine jn1 (jn0 ⟨fun y => fin 1 ?_, fun y => ⟨⟨inF hR (al_u hu (by decide)), k.1.2.2.2.2.2⟩, vin (by omega) (by omega), fun y2 => fin 0 ?_, fun y2 => fin 1 ?_⟩⟩)
      · have y := (bz_n _).mp y
        exact ⟨fun _ => Or.inr (hbi.mp y), fun _ => by decide⟩
      · rw [Decidable.not_not, bz_0] at y
        exact ⟨fun w => absurd rfl w, fun w => absurd w (fun w => w.elim (fun w => by omega) (fun w => y (hbi.mpr w)))⟩
      · exact ⟨fun _ => Or.inl (by omega), fun _ => by decide⟩
