/-! PURE: what holds between two calls is kept, on -/
/-- titles don't hang on what was not changed -/
theorem tiT_eq {C C' : Cr} {t o m : Int} {k : Nat} (h4 : C' 204 k = C 204 k) (h5 : C' 205 k = C 205 k) (h6 : C' 206 k = C 206 k) (h7 : C' 207 k = C 207 k) (h8 : C' 208 k = C 208 k) : tiT C' t o m k = tiT C t o m k := by
  unfold tiT; rw [h4, h5, h6, h7, h8]
theorem Inv_tract {C : Cr} (h : Inv C) {a o : Int} (h1 : dOw o) (h2 : 1 ≤ a ∧ a ≤ 1000) (h3 : C 200 1 < 8) : Inv (uTract C a o) := by
  have ht := h.nt
  have hu := h.nu
  have hd := h.nd
  have hnT : ((nT C : Nat) : Int) = C 200 1 := by unfold nT; omega
  have hnT' : nT (uTract C a o) = nT C + 1 := by
    show (C 200 1 + 1).toNat = _
    omega
  have e202 : ∀ t, uTract C a o 202 t = if t = nT C then o else C 202 t := fun t => by
    show (if 202 = 202 ∧ t = nT C then o else C 202 t) = _
    by_cases e : t = nT C
    · rw [if_pos ⟨rfl, e⟩, if_pos e]
    · rw [if_neg (fun z => e z.2), if_neg e]
  refine ⟨h.now, ⟨show 0 ≤ C 200 1 + 1 by omega, show C 200 1 + 1 ≤ 8 by omega⟩, h.nd, h.ns, h.nu, h.nw, h.pen, h.lst, fun t hlt => ?_, fun t hlt h8 => h.tz t (by omega) h8, fun k hk => ?_, fun t hlt p hp m => ?_, fun k hk => ?_, h.un, fun u hlt => ?_, h.we, h.wm, h.wz, h.tx, h.to, h.tf, h.su⟩
  · rw [hnT'] at hlt
    show (1 ≤ u2 C 201 (nT C) a 201 t ∧ u2 C 201 (nT C) a 201 t ≤ 1000) ∧ (0 ≤ uTract C a o 202 t ∧ uTract C a o 202 t ≤ 9) ∧ (-1 ≤ C 203 t ∧ C 203 t < C 200 18)
    rw [e202]
    by_cases e : t = nT C
    · subst e
      rw [u2_y, if_pos rfl, h.tz (nT C) (Nat.le_refl _) (by omega)]
      exact ⟨h2, h1, by omega, by omega⟩
    · rw [u2_o (Or.inr e), if_neg e]
      exact h.tr t (by omega)
  · obtain ⟨d1, d2⟩ := h.de k hk
    exact ⟨⟨d1.1, show C 204 k < C 200 1 + 1 by omega⟩, d2⟩
  · rw [hnT'] at hlt
    have es : sm (tiT (uTract C a o) t p m) (nD C) = sm (tiT C t p m) (nD C) := sm_cong (fun k _ => tiT_eq rfl rfl rfl rfl rfl)
    show 0 ≤ (if uTract C a o 202 t = (p : Int) then 10000 else 0) + sm (tiT (uTract C a o) t p m) (nD C)
    rw [es, e202]
    by_cases e : t = nT C
    · subst e
      rw [if_pos rfl, sm_zero (fun k hk => ?_)]
      · split <;> omega
      · have := (h.de k hk).1
        unfold tiT
        rw [if_neg (fun z => by omega)]
    · rw [if_neg e]
      exact h.tn t (by omega) p hp m
  · obtain ⟨d1, d2⟩ := h.le k hk
    exact ⟨⟨d1.1, show C 209 k < C 200 1 + 1 by omega⟩, d2⟩
  · obtain ⟨t, k1, k2⟩ := h.ut u hlt
    exact ⟨t, by omega, k2⟩
theorem ti_late {C : Cr} (h : Inv C) {t : Nat} {o : Int} {m : Nat} (hm : C 200 0 ≤ m) : ti C t o m = ti C t o (C 200 0) := by
  unfold ti tiN
  congr 1
  refine sm_cong (fun k hk => ?_)
  have := (h.de k hk).2.2.2.2.2
  unfold tiT
  by_cases q : C 204 k = t
  · have y1 : C 204 k = t ∧ C 208 k ≤ (m : Int) := ⟨q, by omega⟩
    have y2 : C 204 k = t ∧ C 208 k ≤ C 200 0 := ⟨q, this.2⟩
    simp only [y1, y2, and_self, if_true]
  · rw [if_neg (fun z => q z.1), if_neg (fun z => q z.1)]
theorem uDeed_ti {C : Cr} (hd : 0 ≤ C 200 5) {a1 a2 a3 a4 a5 : Int} {t : Nat} {o m : Int} : ti (uDeed C a1 a2 a3 a4 a5) t o m = ti C t o m + (if a1 = t ∧ a5 ≤ m then (if a3 = o then a4 else 0) - (if a2 = o then a4 else 0) else 0) := by
  have en : nD (uDeed C a1 a2 a3 a4 a5) = nD C + 1 := by
    show (C 200 5 + 1).toNat = (C 200 5).toNat + 1
    omega
  have e4 : ∀ k, uDeed C a1 a2 a3 a4 a5 204 k = u2 C 204 (nD C) a1 204 k := fun k => rfl
  have e5 : ∀ k, uDeed C a1 a2 a3 a4 a5 205 k = u2 C 205 (nD C) a2 205 k := fun k => rfl
  have e6 : ∀ k, uDeed C a1 a2 a3 a4 a5 206 k = u2 C 206 (nD C) a3 206 k := fun k => rfl
  have e7 : ∀ k, uDeed C a1 a2 a3 a4 a5 207 k = u2 C 207 (nD C) a4 207 k := fun k => rfl
  have e8 : ∀ k, uDeed C a1 a2 a3 a4 a5 208 k = u2 C 208 (nD C) a5 208 k := fun k => rfl
  unfold ti tiN
  rw [en, sm_s]
  have es : sm (tiT (uDeed C a1 a2 a3 a4 a5) t o m) (nD C) = sm (tiT C t o m) (nD C) := sm_cong (fun k hk => tiT_eq (by rw [e4, u2_o (Or.inr (by omega))]) (by rw [e5, u2_o (Or.inr (by omega))]) (by rw [e6, u2_o (Or.inr (by omega))]) (by rw [e7, u2_o (Or.inr (by omega))]) (by rw [e8, u2_o (Or.inr (by omega))]))
  have el : tiT (uDeed C a1 a2 a3 a4 a5) t o m (nD C) = (if a1 = t ∧ a5 ≤ m then (if a3 = o then a4 else 0) - (if a2 = o then a4 else 0) else 0) := by
    unfold tiT
    rw [e4, e5, e6, e7, e8, u2_y, u2_y, u2_y, u2_y, u2_y]
  have e2 : uDeed C a1 a2 a3 a4 a5 202 t = C 202 t := rfl
  rw [es, el, e2, Int.add_assoc]
theorem Inv_deed {C : Cr} (h : Inv C) {a1 a2 a3 a4 a5 : Int} (h1 : dDe1 C a1 a2 a3 a5) (h2 : dDe2 a2 a3 a4) (h3 : dDe3 C a1 a2 a4 a5) : Inv (uDeed C a1 a2 a3 a4 a5) := by
  have hd := h.nd
  have hw := h.now
  refine ⟨h.now, h.nt, ⟨show 0 ≤ C 200 5 + 1 by omega, show C 200 5 + 1 ≤ 40 by have := h3.1; omega⟩, h.ns, h.nu, h.nw, h.pen, h.lst, h.tr, h.tz, fun k hk => ?_, fun t hlt p hp m => ?_, h.le, h.un, h.ut, h.we, h.wm, h.wz, h.tx, h.to, h.tf, h.su⟩
  · have hk : k < (C 200 5 + 1).toNat := hk
    show (0 ≤ u2 C 204 (nD C) a1 204 k ∧ u2 C 204 (nD C) a1 204 k < C 200 1) ∧ (0 ≤ u2 C 205 (nD C) a2 205 k ∧ u2 C 205 (nD C) a2 205 k ≤ 9) ∧ (0 ≤ u2 C 206 (nD C) a3 206 k ∧ u2 C 206 (nD C) a3 206 k ≤ 9) ∧ u2 C 205 (nD C) a2 205 k ≠ u2 C 206 (nD C) a3 206 k ∧ (1 ≤ u2 C 207 (nD C) a4 207 k ∧ u2 C 207 (nD C) a4 207 k ≤ 10000) ∧ (0 ≤ u2 C 208 (nD C) a5 208 k ∧ u2 C 208 (nD C) a5 208 k ≤ C 200 0)
    by_cases e : k = nD C
    · subst e
      rw [u2_y, u2_y, u2_y, u2_y, u2_y]
      exact ⟨h1.1, h1.2.1, h1.2.2.1, h2.1, h2.2, h1.2.2.2⟩
    · rw [u2_o (Or.inr e), u2_o (Or.inr e), u2_o (Or.inr e), u2_o (Or.inr e), u2_o (Or.inr e)]
      exact h.de k (by unfold nD at e ⊢; omega)
  · have hlt : t < nT C := hlt
    rw [uDeed_ti hd.1]
    have old := h.tn t hlt p hp m
    have hp4 := h2.2
    by_cases q : a1 = t ∧ a5 ≤ (m : Int)
    · rw [if_pos q]
      by_cases q2 : a2 = p
      · rw [if_pos q2, if_neg (fun z => h2.1 (by omega))]
        have key : a4 ≤ ti C t p m := by
          have et : a1.toNat = t := by omega
          rcases Int.lt_or_le (m : Int) (C 200 0) with y | y
          · have := h3.2 m (by unfold nN; omega) q.2
            rw [et, q2] at this
            exact this
          · have := h3.2 (nN C) (by omega) (by unfold nN; omega)
            rw [et, q2, show ((nN C : Nat) : Int) = C 200 0 from by unfold nN; omega] at this
            rw [ti_late h y]
            exact this
        omega
      · rw [if_neg q2]
        split <;> omega
    · rw [if_neg q]; omega
theorem Inv_unit {C : Cr} (h : Inv C) {a : Int32} (h1 : dUn1 C a) (h2 : dUn2 C a) : Inv (uUnit C a) := by
  have ht := h.nt
  have hu := h.nu
  have hn := h.now
  have hnT : ((nT C : Nat) : Int) = C 200 1 := by unfold nT; omega
  have hnU : ((nU C : Nat) : Int) = C 200 18 := by unfold nU; omega
  have h18 := h2.1
  have e203 : ∀ t, uUnit C a 203 t = uT C a (nT C) 203 t := fun t => rfl
  have eT : ∀ t, uT C a (nT C) 203 t = if t < nT C ∧ bt a t = true then C 200 18 else C 203 t := fun t => by
    unfold uT
    by_cases q : t < nT C ∧ bt a t = true
    · rw [if_pos ⟨rfl, q⟩, if_pos q]
    · rw [if_neg (fun z => q z.2), if_neg q]
  have e215 : ∀ u, uUnit C a 215 u = u2 C 215 (nU C) (C 200 0) 215 u := fun u => rfl
  have hnU' : nU (uUnit C a) = nU C + 1 := by
    show (C 200 18 + 1).toNat = _
    omega
  refine ⟨h.now, h.nt, h.nd, h.ns, ⟨show 0 ≤ C 200 18 + 1 by omega, show C 200 18 + 1 ≤ 3 by omega⟩, h.nw, h.pen, h.lst, fun t hlt => ?_, fun t hlt h8 => ?_, h.de, h.tn, h.le, fun u hlt => ?_, fun u hlt => ?_, fun w hw => ?_, h.wm, h.wz, h.tx, h.to, fun u o m hu ho hm hor => h.tf u o m hu ho hm ?_, h.su⟩
  · have hlt : t < nT C := hlt
    obtain ⟨r1, r2, r3⟩ := h.tr t hlt
    refine ⟨r1, r2, ?_⟩
    show -1 ≤ uUnit C a 203 t ∧ uUnit C a 203 t < C 200 18 + 1
    rw [e203, eT]
    split <;> omega
  · have hlt : nT C ≤ t := hlt
    rw [e203, eT, if_neg (fun z => by omega)]
    exact h.tz t hlt h8
  · rw [hnU'] at hlt
    show 0 ≤ uUnit C a 215 u ∧ uUnit C a 215 u ≤ C 200 0
    rw [e215]
    by_cases e : u = nU C
    · subst e; rw [u2_y]; omega
    · rw [u2_o (Or.inr e)]; exact h.un u (by omega)
  · rw [hnU'] at hlt
    by_cases e : u = nU C
    · obtain ⟨i, i1, i2⟩ := bt_some h1.1 h1.2 (by omega)
      exact ⟨i, i1, by rw [e203, eT, if_pos ⟨i1, i2⟩]; omega⟩
    · obtain ⟨t, t1, t2⟩ := h.ut u (by omega)
      refine ⟨t, t1, ?_⟩
      rw [e203, eT]
      by_cases q : t < nT C ∧ bt a t = true
      · have := h2.2 t q.1 q.2
        omega
      · rw [if_neg q]; exact t2
  · have := h.we w hw
    exact ⟨this.1, show C 216 w < C 200 18 + 1 by omega⟩
  · rw [hnU'] at hor
    exact hor.imp (fun z => by omega) id
