/-! PURE: the model's loops without money -/
theorem jbnv {X : Type} {c V : Prop} [Decidable c] (hV : V) {r : X → Prop} {a b : X} (h : r (if c then a else b)) : ∃ J : X → Prop, (∀ x, J x → r x) ∧ ((¬ c → J b) ∧ (¬ ¬ c → V ∧ J a)) := ⟨r, fun _ h => h, fun q => (br_ifn h).1 q, fun q => ⟨hV, (br_ifn h).2 q⟩⟩
theorem cnt_le {n i : Nat} {z : Int} (hz : z = n) : z ≤ (i : Int) ↔ n ≤ i := by omega
theorem nat_iZ {i : Nat} (h : i < 1000) : (iZ (i : Int)).toNatClampNeg = i := cl_n (by omega)
theorem m_titleOf {σ : Mm} {C : Cr} (hc : core σ = C) (hn : 0 ≤ C 200 5 ∧ C 200 5 ≤ 40) {a1 a2 a3 : Int32} (h1 : vp_in a1 8) {Q : Int32 → Mm → Prop} (h : Q (iZ (ti C a1.toInt.toNat a2.toInt a3.toInt)) σ) : wp_X7_titleOf σ a1 a2 a3 Q := by
  have r1 := vp_in_iff.mp h1
  have e1 : ((a1.toInt.toNat : Nat) : Int) = a1.toInt := by omega
  have g5 := c0 hc (i := 5) (by decide)
  refine ⟨h1, jbn ?_⟩
  refine lpw_f (fun i => (iZ (tiN C a1.toInt.toNat a2.toInt a3.toInt i), iZ (i : Int))) (nD C) ?_ ?_
  · refine Prod.ext ?_ rfl
    show (if gI σ 202 a1.toNatClampNeg = a2 then (10000 : Int32) else 0) = iZ (tiN C a1.toInt.toNat a2.toInt a3.toInt 0)
    unfold tiN
    rw [sm_0, Int.add_zero]
    by_cases q : gI σ 202 a1.toNatClampNeg = a2
    · rw [if_pos q, if_pos (by rw [← cK hc (k := 202) (by decide)]; exact eqT.mp q)]; rfl
    · rw [if_neg q, if_neg (fun z => q (eqT.mpr (by rw [← cK hc (k := 202) (by decide)] at z; exact z)))]; rfl
  · intro i rec hi hrec
    have hnD : ((nD C : Nat) : Int) = C 200 5 := by unfold nD; omega
    have ti1 : (iZ (i : Int)).toInt = i := n_iZ (by omega)
    have ni : (iZ (i : Int)).toNatClampNeg = i := nat_iZ (by omega)
    refine ⟨fun q => ?_, fun q => ?_⟩
    · rw [leT, g5, ti1] at q
      have e : i = nD C := by omega
      show Q (iZ (tiN C a1.toInt.toNat a2.toInt a3.toInt i)) σ
      rw [e]
      exact h
    · rw [leT, g5, ti1] at q
      have hlt : i < nD C := by omega
      have v40 : vp_in (iZ (i : Int)) 40 := vin (by omega) (by omega)
      have hrec := hrec hlt
      have step : ∀ z : Int, z = tiT C a1.toInt.toNat a2.toInt a3.toInt i → (∀ x11 : Int32, x11 = iZ (i : Int) + 1 → rec (iZ (tiN C a1.toInt.toNat a2.toInt a3.toInt i) + iZ z, x11)) := fun z hz x11 hx => by
        refine hrec _ ?_
        rw [hx, iZ_s, iZ_add, hz, tiN, tiN, sm_s, Int.add_assoc]
      have zero : ∀ x : Int32, x + iZ 0 = x := fun x => by rw [← iZ_toInt x, iZ_add, Int.add_zero]
      have g204 : (gI σ 204 i).toInt = C 204 i := cK hc (by decide)
      have g205 : (gI σ 205 i).toInt = C 205 i := cK hc (by decide)
      have g206 : (gI σ 206 i).toInt = C 206 i := cK hc (by decide)
      have g207 : gI σ 207 i = iZ (C 207 i) := by rw [← cK hc (k := 207) (i := i) (by decide), iZ_toInt]
      have g208 : (gI σ 208 i).toInt = C 208 i := cK hc (by decide)
      rw [ni]
      refine ⟨v40, jn1 ⟨fun q2 => ?_, fun q2 => ⟨v40, fun q3 => ?_, fun q3 => ⟨v40, jbnv v40 ?_⟩⟩⟩⟩
      · rw [eqT, g204] at q2
        have := step 0 (by unfold tiT; rw [if_neg (fun z => q2 (by rw [z.1]; exact e1))])
        rwa [zero] at this
      · rw [ltT, g208] at q3
        have := step 0 (by unfold tiT; rw [if_neg (fun z => by omega)])
        rwa [zero] at this
      · have q2 := Decidable.not_not.mp q2
        rw [eqT, g204] at q2
        rw [ltT, g208] at q3
        intro x16 h16
        refine ⟨v40, jbnv v40 ?_⟩
        intro x20 h20
        have := step (tiT C a1.toInt.toNat a2.toInt a3.toInt i) rfl
        have e2 : x20 = iZ (tiN C a1.toInt.toNat a2.toInt a3.toInt i) + iZ (tiT C a1.toInt.toNat a2.toInt a3.toInt i) := by
          have et : tiT C a1.toInt.toNat a2.toInt a3.toInt i = (if C 206 i = a2.toInt then C 207 i else 0) - (if C 205 i = a2.toInt then C 207 i else 0) := if_pos ⟨by omega, by omega⟩
          rw [h20, h16, et, g207]
          have i1 : (if gI σ 206 i = a2 then iZ (C 207 i) else 0) = iZ (if C 206 i = a2.toInt then C 207 i else 0) := by
            by_cases z : C 206 i = a2.toInt
            · rw [if_pos z, if_pos (eqT.mpr (by rw [g206, z]))]
            · rw [if_neg z, if_neg (fun y => z (by rw [← g206]; exact eqT.mp y))]; rfl
          have i2 : (if gI σ 205 i = a2 then iZ (C 207 i) else 0) = iZ (if C 205 i = a2.toInt then C 207 i else 0) := by
            by_cases z : C 205 i = a2.toInt
            · rw [if_pos z, if_pos (eqT.mpr (by rw [g205, z]))]
            · rw [if_neg z, if_neg (fun y => z (by rw [← g205]; exact eqT.mp y))]; rfl
          rw [i1, i2, iZ_add, iZ_sub, iZ_add]
          congr 1
          omega
        rw [e2]
        exact this
theorem gv_s {C : Cr} {u : Int} {m n : Nat} : (∃ w, w < n + 1 ∧ (C 216 w = u ∧ 0 < C 217 (61 * w + m))) ↔ ((∃ w, w < n ∧ (C 216 w = u ∧ 0 < C 217 (61 * w + m))) ∨ (C 216 n = u ∧ 0 < C 217 (61 * n + m))) := by
  constructor
  · rintro ⟨w, h1, h2⟩
    by_cases e : w = n
    · subst e; exact Or.inr h2
    · exact Or.inl ⟨w, by omega, h2⟩
  · rintro (⟨w, h1, h2⟩ | h)
    · exact ⟨w, by omega, h2⟩
    · exact ⟨n, by omega, h⟩
theorem ix_w {i : Nat} {a2 : Int32} (h0 : i < 6) (h1 : 0 ≤ a2.toInt) (h2 : a2.toInt < 61) : ((61 * iZ (i : Int)) + a2).toInt = ((61 * i + a2.toInt.toNat : Nat) : Int) := by
  have e : (61 : Int32) = iZ 61 := rfl
  have k : (61 * iZ (i : Int)).toInt = 61 * i := by rw [e, iZ_mul, toInt_iZ (by omega) (by omega)]
  rw [ad32 (by omega) (by omega), k]
  omega
theorem m_gaveOil {σ : Mm} {C : Cr} (hc : core σ = C) (hn : 0 ≤ C 200 20 ∧ C 200 20 ≤ 6) {a1 a2 : Int32} (h1 : 0 ≤ a2.toInt) (h2 : a2.toInt < 61) {Q : Int32 → Mm → Prop} (h : Q (bz (gv C a1.toInt a2.toInt.toNat)) σ) : wp_X7_gaveOil σ a1 a2 Q := by
  have g20 := c0 hc (i := 20) (by decide)
  refine lpw_f (fun i => (bz (∃ w, w < i ∧ (C 216 w = a1.toInt ∧ 0 < C 217 (61 * w + a2.toInt.toNat))), iZ (i : Int))) (nW C) ?_ ?_
  · refine Prod.ext ?_ rfl
    have z : ∀ n : Nat, n = 0 → (0 : Int32) = bz (∃ w, w < n ∧ (C 216 w = a1.toInt ∧ 0 < C 217 (61 * w + a2.toInt.toNat))) := fun n hn => (bz_no (by rintro ⟨w, hw, -⟩; omega)).symm
    exact z 0 rfl
  · intro i rec hi hrec
    have hnW : ((nW C : Nat) : Int) = C 200 20 := by unfold nW; omega
    have ti1 : (iZ (i : Int)).toInt = i := n_iZ (by omega)
    have ni : (iZ (i : Int)).toNatClampNeg = i := nat_iZ (by omega)
    refine ⟨fun q => ?_, fun q => ?_⟩
    · rw [leT, g20, ti1] at q
      have e : i = nW C := by omega
      subst e
      exact ⟨zb_bz _, h⟩
    · rw [leT, g20, ti1] at q
      have hlt : i < nW C := by omega
      have hrec := hrec hlt
      have g216 : (gI σ 216 i).toInt = C 216 i := cK hc (by decide)
      have ex := ix_w (i := i) (by omega) h1 h2
      have nx : (61 * iZ (i : Int) + a2).toNatClampNeg = 61 * i + a2.toInt.toNat := by
        show (61 * iZ (i : Int) + a2).toInt.toNat = _
        rw [ex]; omega
      have g217 : (gI σ 217 (61 * i + a2.toInt.toNat)).toInt = C 217 (61 * i + a2.toInt.toNat) := cK hc (by decide)
      have fin : ∀ x : Int32, x = bz (∃ w, w < i + 1 ∧ (C 216 w = a1.toInt ∧ 0 < C 217 (61 * w + a2.toInt.toNat))) → ∀ x7 : Int32, x7 = iZ (i : Int) + 1 → rec (x, x7) := fun x hx x7 h7 => hrec _ (by rw [h7, iZ_s, hx])
      rw [ni]
      refine jn1 (jn0 ⟨fun k => ?_, fun k => ⟨vin (by omega) (by omega), jn0 ⟨fun k2 => ?_, fun k2 => ⟨vin (by omega) (by omega), fun k3 => ?_, fun k3 => ?_⟩⟩⟩⟩)
      · exact fin 1 (bz_y (gv_s.mpr (Or.inl ((bz_n _).mp k)))).symm
      · rw [Decidable.not_not, bz_0] at k
        rw [eqT, g216] at k2
        exact fin 0 (bz_no (fun z => (gv_s.mp z).elim k (fun y => k2 y.1))).symm
      · rw [Decidable.not_not, bz_0] at k
        rw [leT, nx, g217] at k3
        exact fin 0 (bz_no (fun z => (gv_s.mp z).elim k (fun y => by have := y.2; rw [t_0] at k3; omega))).symm
      · rw [Decidable.not_not, eqT, g216] at k2
        rw [leT, nx, g217, t_0] at k3
        exact fin 1 (bz_y (gv_s.mpr (Or.inr ⟨k2, by omega⟩))).symm
theorem m_holds {σ : Mm} {C : Cr} (hc : core σ = C) (hI : Inv C) {a1 a2 : Int32} (h1 : 0 ≤ a1.toInt) (h2 : a1.toInt < C 200 11) (h3 : 0 ≤ a2.toInt) (h4 : a2.toInt ≤ C 200 0) {Q : Int32 → Mm → Prop} (h : Q (bz (hl C a1.toInt.toNat a2.toInt.toNat)) σ) : wp_X7_holds σ a1 a2 Q := by
  have hs := hI.ns
  have hw := hI.now
  have v16 : vp_in a1 16 := vin h1 (by omega)
  obtain ⟨kk, hk⟩ : ∃ k : Nat, a1.toInt.toNat = k := ⟨_, rfl⟩
  have na : a1.toNatClampNeg = kk := hk
  rw [hk] at h
  have hle := hI.le kk (by unfold nS; omega)
  obtain ⟨l9, l10, l11, l12, l13, l14⟩ := hle
  have g213 : (gI σ 213 kk).toInt = C 213 kk := cK hc (by decide)
  have g214 : (gI σ 214 kk).toInt = C 214 kk := cK hc (by decide)
  have g209 : (gI σ 209 kk).toInt = C 209 kk := cK hc (by decide)
  obtain ⟨mm, hm⟩ : ∃ m : Nat, a2.toInt = m := ⟨a2.toInt.toNat, by omega⟩
  obtain ⟨ls, hls⟩ : ∃ k : Nat, C 213 kk + C 214 kk - 1 = k := ⟨(C 213 kk + C 214 kk - 1).toNat, by omega⟩
  have hmm : a2.toInt.toNat = mm := by omega
  rw [hmm] at h
  unfold wp_X7_holds
  rw [na]
  refine ⟨v16, v16, fun x3 e3 => ⟨v16, jb ?_⟩⟩
  rw [it01]
  have e3' : x3 = iZ (ls : Int) := by
    rw [e3, ← iZ_toInt (gI σ 213 kk), ← iZ_toInt (gI σ 214 kk), g213, g214, iZ_1, iZ_add, iZ_sub, hls]
  have hP : ∀ j : Nat, ls ≤ j ↔ C 213 kk + C 214 kk - 1 ≤ (j : Int) := fun j => by omega
  refine lpw_f (fun i => (σ, bz (C 213 kk ≤ mm ∧ ∀ j, j < ls + i → (C 213 kk + C 214 kk - 1 ≤ (j : Int) → (C 203 (C 209 kk).toNat ≠ -1 ∧ gv C (C 203 (C 209 kk).toNat) j))), iZ ((ls + i : Nat) : Int))) (mm - ls) ?_ ?_
  · rw [e3']
    congr 2
    refine bz_cong ?_
    rw [ltT, g213, hm]
    constructor
    · intro q
      exact ⟨by omega, fun j hj hj2 => absurd hj2 (by omega)⟩
    · intro q; have := q.1; omega
  · intro i rec hi hrec
    have ti1 : (iZ ((ls + i : Nat) : Int)).toInt = (ls + i : Nat) := n_iZ (by omega)
    refine jn0 ⟨fun q => ?_, fun q => ⟨fun q2 => ?_, fun q2 => ?_⟩⟩
    · rw [leT, hm, ti1] at q
      refine ⟨zb_bz _, ?_⟩
      rw [bz_cong (show _ ↔ hl C kk mm from ⟨fun z => ⟨z.1, fun j hj hj2 => z.2 j (by omega) hj2⟩, fun z => ⟨z.1, fun j hj hj2 => by
        rcases Nat.lt_or_ge j mm with y | y
        · exact z.2 j y hj2
        · exact absurd hj2 (by omega)⟩⟩)]
      exact h
    · rw [leT, hm, ti1] at q
      rw [bz_0] at q2
      refine ⟨zb_bz _, ?_⟩
      rw [bz_cong (show _ ↔ hl C kk mm from ⟨fun z => absurd z q2, fun z => absurd ⟨z.1, fun j hj hj2 => z.2 j (by omega) hj2⟩ q2⟩)]
      exact h
    · rw [leT, hm, ti1] at q
      have q2 := (bz_n _).mp q2
      have v8 : vp_in (gI σ 209 kk) 8 := vin (by omega) (by have := hI.nt; omega)
      have n9 : (gI σ 209 kk).toNatClampNeg = (C 209 kk).toNat := by show (gI σ 209 kk).toInt.toNat = _; rw [g209]
      have g203 : (gI σ 203 (C 209 kk).toNat).toInt = C 203 (C 209 kk).toNat := cK hc (by decide)
      have hrec := hrec (by omega)
      have fin : ∀ x : Int32, x = bz (C 203 (C 209 kk).toNat ≠ -1 ∧ gv C (C 203 (C 209 kk).toNat) (ls + i)) → ∀ x7 : Int32, x7 = iZ ((ls + i : Nat) : Int) + 1 → rec (σ, x, x7) := fun x hx x7 h7 => hrec _ (by
        rw [h7, iZ_s, hx]
        congr 2
        refine bz_cong ⟨fun z => ⟨q2.1, fun j hj hj2 => ?_⟩, fun z => z.2 (ls + i) (by omega) (by omega)⟩
        rcases Nat.lt_or_ge j (ls + i) with y | y
        · exact q2.2 j y hj2
        · have e : j = ls + i := by omega
          subst e; exact z)
      refine ⟨v16, ?_⟩
      rw [n9]
      refine ⟨v8, jn2 (jn1 ⟨fun k => ?_, fun k => ⟨v16, v8, m_gaveOil hc hI.nw (by rw [ti1]; omega) (by rw [ti1]; omega) ?_⟩⟩)⟩
      · rw [eqT, g203, t_m1] at k
        exact fin 0 (bz_no (fun z => z.1 k)).symm
      · rw [eqT, g203, t_m1] at k
        rw [g203, ti1, show ((ls + i : Nat) : Int).toNat = ls + i from by omega]
        refine ⟨fun y => ?_, fun y => ?_⟩
        · rw [bz_0] at y
          exact fin 0 (bz_no (fun z => y z.2)).symm
        · have y := (bz_n _).mp y
          exact fin 1 (bz_y ⟨k, y⟩).symm
theorem m_taxOf {σ : Mm} {C : Cr} (hc : core σ = C) {a1 : Int32} (h1 : 0 ≤ a1.toInt) (h2 : a1.toInt < 61) {Q : Int32 → Mm → Prop} (h : Q (iZ (txn C (a1.toInt.toNat + 1))) σ) : wp_X7_taxOf σ a1 Q := by
  refine lpw_f (fun i => (iZ (txn C i), iZ (i : Int))) (a1.toInt.toNat + 1) rfl ?_
  intro i rec hi hrec
  have ti1 : (iZ (i : Int)).toInt = i := n_iZ (by omega)
  have ni : (iZ (i : Int)).toNatClampNeg = i := nat_iZ (by omega)
  refine ⟨fun q => ?_, fun q => ?_⟩
  · rw [ltT, ti1] at q
    have e : i = a1.toInt.toNat + 1 := by omega
    show Q (iZ (txn C i)) σ
    rw [e]
    exact h
  · rw [ltT, ti1] at q
    have hrec := hrec (by omega)
    have g : (gI σ 220 i).toInt = C 220 i := cK hc (by decide)
    have g' : gI σ 220 i = iZ (C 220 i) := by rw [← g, iZ_toInt]
    rw [ni]
    refine ⟨vin (by omega) (by omega), jn1 ⟨fun k => ⟨vin (by omega) (by omega), fun x8 h8 => hrec _ ?_⟩, fun k x8 h8 => hrec _ ?_⟩⟩
    · rw [eqT, g, t_m1] at k
      rw [h8, iZ_s, g', txn, if_neg k]
    · rw [Decidable.not_not, eqT, g, t_m1] at k
      rw [h8, iZ_s, txn, if_pos k]
theorem ix_c {i : Nat} {a1 a2 : Int32} (h1 : 0 ≤ a1.toInt) (h2 : a1.toInt < 3) (h3 : 0 ≤ a2.toInt) (h4 : a2.toInt ≤ 9) (h5 : i < 61) : (((610 * a1) + (61 * a2)) + iZ (i : Int)).toInt = ((610 * a1.toInt.toNat + 61 * a2.toInt.toNat + i : Nat) : Int) := by
  have e : (61 : Int32) = iZ 61 := rfl
  have e' : (610 : Int32) = iZ 610 := rfl
  rw [← iZ_toInt a1, ← iZ_toInt a2, e, e', iZ_mul, iZ_mul, iZ_add, iZ_add, toInt_iZ (by omega) (by omega), iZ_toInt, iZ_toInt]
  omega
theorem m_doesConsent {σ : Mm} {C : Cr} (hc : core σ = C) {a1 a2 a3 : Int32} (h1 : 0 ≤ a1.toInt) (h2 : a1.toInt < 3) (h3 : 0 ≤ a2.toInt) (h4 : a2.toInt ≤ 9) (h5 : 0 ≤ a3.toInt) (h6 : a3.toInt < 61) {Q : Int32 → Mm → Prop} (h : Q (bz (csn C a1.toInt.toNat a2.toInt.toNat (a3.toInt.toNat + 1) = 1)) σ) (hr : ∀ i : Nat, i < 1830 → 0 ≤ C 221 i ∧ C 221 i ≤ 2) : wp_X7_doesConsent σ a1 a2 a3 Q := by
  have hcs : ∀ i, i ≤ 61 → 0 ≤ csn C a1.toInt.toNat a2.toInt.toNat i ∧ csn C a1.toInt.toNat a2.toInt.toNat i ≤ 2 := by
    intro i
    induction i with
    | zero => intro _; unfold csn; omega
    | succ i ih =>
      intro hi
      have ih := ih (by omega)
      have k := hr (610 * a1.toInt.toNat + 61 * a2.toInt.toNat + i) (by omega)
      unfold csn
      split <;> omega
  refine lpw_f (fun i => (iZ (csn C a1.toInt.toNat a2.toInt.toNat i), iZ (i : Int))) (a3.toInt.toNat + 1) rfl ?_
  intro i rec hi hrec
  have ti1 : (iZ (i : Int)).toInt = i := n_iZ (by omega)
  have hci := hcs i (by omega)
  refine ⟨fun q => jbn ?_, fun q => ?_⟩
  · rw [ltT, ti1] at q
    have e : i = a3.toInt.toNat + 1 := by omega
    refine ⟨zb_if _, ?_⟩
    have e2 : (if iZ (csn C a1.toInt.toNat a2.toInt.toNat i) = 1 then (1 : Int32) else 0) = bz (csn C a1.toInt.toNat a2.toInt.toNat (a3.toInt.toNat + 1) = 1) := by
      refine bz_cong ?_
      rw [eqT, toInt_iZ (by omega) (by omega), t_1, e]
    rw [e2]
    exact h
  · rw [ltT, ti1] at q
    have hrec := hrec (by omega)
    have ex := ix_c (i := i) h1 h2 h3 h4 (by omega)
    have nx : (((610 * a1) + (61 * a2)) + iZ (i : Int)).toNatClampNeg = 610 * a1.toInt.toNat + 61 * a2.toInt.toNat + i := by
      show (((610 * a1) + (61 * a2)) + iZ (i : Int)).toInt.toNat = _
      rw [ex]; omega
    have g : (gI σ 221 (610 * a1.toInt.toNat + 61 * a2.toInt.toNat + i)).toInt = C 221 (610 * a1.toInt.toNat + 61 * a2.toInt.toNat + i) := cK hc (by decide)
    rw [nx]
    refine ⟨vin (by omega) (by omega), fun x8 e8 => jn1 ⟨fun k x11 e11 => hrec _ ?_, fun k x11 e11 => hrec _ ?_⟩⟩
    · rw [e8, eqT, g, t_0] at k
      rw [e8, e11, iZ_s, csn, if_neg k, ← iZ_toInt (gI σ 221 _), g]
    · rw [e8, Decidable.not_not, eqT, g, t_0] at k
      rw [e11, iZ_s, csn, if_pos k]
/-- the first place from behind -/
def lst (p : Nat → Bool) (n : Nat) : Nat → Int
  | 0 => -1
  | i + 1 => if p (n - (i + 1)) then ((n - (i + 1) : Nat) : Int) else lst p n i
def oi : Option Nat → Int
  | none => -1
  | some k => k
theorem fst_lt {p : Nat → Bool} : ∀ {n k : Nat}, fst p n = some k → k < n ∧ p k = true
  | 0, k, h => by simp [fst] at h
  | n + 1, k, h => by
    unfold fst at h
    cases e : fst p n with
    | none =>
      rw [e] at h
      by_cases q : p n
      · simp [q] at h; subst h; exact ⟨by omega, q⟩
      · simp [q] at h
    | some j =>
      rw [e] at h
      simp at h
      subst h
      have := fst_lt e
      exact ⟨by omega, this.2⟩
theorem fst_none {p : Nat → Bool} : ∀ {n : Nat}, fst p n = none → ∀ k, k < n → p k = false
  | 0, _, k, hk => by omega
  | n + 1, h, k, hk => by
    unfold fst at h
    cases e : fst p n with
    | none =>
      rw [e] at h
      by_cases q : p n
      · simp [q] at h
      · by_cases hkn : k = n
        · subst hkn; simpa using q
        · exact fst_none e k (by omega)
    | some j => rw [e] at h; simp at h
theorem fst_min {p : Nat → Bool} : ∀ {n k : Nat}, fst p n = some k → ∀ j, j < k → p j = false
  | 0, k, h => by simp [fst] at h
  | n + 1, k, h => by
    unfold fst at h
    cases e : fst p n with
    | none =>
      rw [e] at h
      by_cases q : p n
      · simp [q] at h; subst h; exact fst_none e
      · simp [q] at h
    | some j =>
      rw [e] at h
      simp at h
      subst h
      exact fst_min e
theorem fst_of {p : Nat → Bool} {n k : Nat} (h1 : k < n) (h2 : p k = true) (h3 : ∀ j, j < k → p j = false) : fst p n = some k := by
  cases e : fst p n with
  | none => have := fst_none e k h1; rw [h2] at this; cases this
  | some j =>
    have a := fst_lt e
    have b := fst_min e
    rcases Nat.lt_trichotomy j k with q | q | q
    · have := h3 j q; rw [a.2] at this; cases this
    · rw [q]
    · have := b k q; rw [h2] at this; cases this
theorem fst_nn {p : Nat → Bool} {n : Nat} (h : ∀ j, j < n → p j = false) : fst p n = none := by
  cases e : fst p n with
  | none => rfl
  | some j => have a := fst_lt e; have := h j a.1; rw [a.2] at this; cases this
theorem lst_spec {p : Nat → Bool} {n : Nat} : ∀ {i : Nat}, i ≤ n → (lst p n i = -1 ∧ ∀ j, n - i ≤ j → j < n → p j = false) ∨ ∃ k : Nat, lst p n i = k ∧ n - i ≤ k ∧ k < n ∧ p k = true ∧ ∀ j, n - i ≤ j → j < k → p j = false
  | 0, _ => Or.inl ⟨rfl, fun j h1 h2 => by omega⟩
  | i + 1, hi => by
    unfold lst
    by_cases q : p (n - (i + 1))
    · rw [if_pos q]
      exact Or.inr ⟨n - (i + 1), rfl, by omega, by omega, q, fun j h1 h2 => by omega⟩
    · rw [if_neg q]
      have q' : p (n - (i + 1)) = false := by simpa using q
      rcases lst_spec (p := p) (n := n) (i := i) (by omega) with ⟨h1, h2⟩ | ⟨k, h1, h2, h3, h4, h5⟩
      · refine Or.inl ⟨h1, fun j a b => ?_⟩
        by_cases e : j = n - (i + 1)
        · rw [e]; exact q'
        · exact h2 j (by omega) b
      · refine Or.inr ⟨k, h1, by omega, h3, h4, fun j a b => ?_⟩
        by_cases e : j = n - (i + 1)
        · rw [e]; exact q'
        · exact h5 j (by omega) b
theorem lst_fst {p : Nat → Bool} {n : Nat} : lst p n n = oi (fst p n) := by
  rcases lst_spec (p := p) (n := n) (i := n) (Nat.le_refl n) with ⟨h1, h2⟩ | ⟨k, h1, h2, h3, h4, h5⟩
  · rw [h1, fst_nn (fun j hj => h2 j (by omega) hj)]; rfl
  · rw [h1, fst_of h3 h4 (fun j hj => h5 j (by omega) hj)]; rfl
theorem m_leaseOf {σ : Mm} {C : Cr} (hc : core σ = C) (hI : Inv C) {a1 a2 a3 : Int32} (h1 : 0 ≤ a1.toInt) (h2 : 0 ≤ a2.toInt) (h3 : 0 ≤ a3.toInt) (h4 : a3.toInt ≤ C 200 0) {Q : Int32 → Mm → Prop} (h : Q (iZ (oi (lo C a1.toInt.toNat a2.toInt.toNat a3.toInt.toNat))) σ) : wp_X7_leaseOf σ a1 a2 a3 Q := by
  have hs := hI.ns
  have g11 := c0 hc (i := 11) (by decide)
  have hnS : ((nS C : Nat) : Int) = C 200 11 := by unfold nS; omega
  unfold wp_X7_leaseOf
  intro x1 e1
  refine lpw_f (fun i => (σ, iZ (lst (loB C a1.toInt.toNat a2.toInt.toNat a3.toInt.toNat) (nS C) i), iZ ((nS C : Int) - 1 - i))) (nS C) ?_ ?_
  · congr 2
    rw [e1, ← iZ_toInt (gI σ 200 11), g11, iZ_1, iZ_sub, hnS]
    congr 1
    simp
  · intro i rec hi hrec
    have ti1 : (iZ ((nS C : Int) - 1 - i)).toInt = (nS C : Int) - 1 - i := toInt_iZ (by omega) (by omega)
    refine ⟨fun q => ?_, fun q => ?_⟩
    · rw [ltT, ti1, t_0] at q
      have e : i = nS C := by omega
      show Q (iZ (lst _ (nS C) i)) σ
      rw [e, lst_fst]
      exact h
    · rw [ltT, ti1, t_0] at q
      have hrec := hrec (by omega)
      obtain ⟨k, hk⟩ : ∃ k : Nat, nS C - (i + 1) = k := ⟨_, rfl⟩
      have ex : (nS C : Int) - 1 - i = (k : Int) := by omega
      rw [ex] at ti1 ⊢
      have nx : (iZ (k : Int)).toNatClampNeg = k := nat_iZ (by omega)
      have g209 : (gI σ 209 k).toInt = C 209 k := cK hc (by decide)
      have g210 : (gI σ 210 k).toInt = C 210 k := cK hc (by decide)
      have fin : ∀ x : Int32, x = (if loB C a1.toInt.toNat a2.toInt.toNat a3.toInt.toNat k then iZ k else iZ (lst (loB C a1.toInt.toNat a2.toInt.toNat a3.toInt.toNat) (nS C) i)) → ∀ x7 : Int32, x7 = iZ (k : Int) + -1 → rec (σ, x, x7) := fun x hx x7 h7 => hrec _ (by
        have e9 : (-1 : Int32) = iZ (-1) := rfl
        rw [h7, hx, e9, iZ_add, lst, hk]
        congr 2
        · split <;> rfl
        · congr 1; omega)
      rw [nx]
      refine ⟨vin (by omega) (by omega), jn2 (jn1 ⟨fun y => ?_, fun y => ⟨vin (by omega) (by omega), fun y2 => ?_, fun y2 => m_holds hc hI (by omega) (by omega) h3 h4 ?_⟩⟩)⟩
      · rw [eqT, g209] at y
        exact fin _ (by rw [if_neg]; unfold loB; simp only [decide_eq_true_eq]; intro z; have := z.1; omega)
      · rw [eqT, g210] at y2
        exact fin _ (by rw [if_neg]; unfold loB; simp only [decide_eq_true_eq]; intro z; have := z.2.1; omega)
      · rw [Decidable.not_not, eqT, g209] at y
        rw [Decidable.not_not, eqT, g210] at y2
        rw [ti1, show ((k : Nat) : Int).toNat = k from by omega]
        refine ⟨fun v => ?_, fun v => ?_⟩
        · rw [bz_0] at v
          exact fin _ (by rw [if_neg]; unfold loB; simp only [decide_eq_true_eq]; intro z; exact v z.2.2)
        · have v := (bz_n _).mp v
          exact fin _ (by rw [if_pos]; unfold loB; simp only [decide_eq_true_eq]; exact ⟨by omega, by omega, v⟩)
