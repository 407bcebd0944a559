/-! PURE: what holds between two calls is kept -/
theorem Inv_pass {C : Cr} (h : Inv C) {a : Int} (h1 : 0 ≤ a) (h2 : C 200 0 + a ≤ 60) : Inv (u2 C 200 0 (C 200 0 + a)) := by
  have h0 := h.now
  refine ⟨⟨show 0 ≤ C 200 0 + a by omega, show C 200 0 + a ≤ 60 from h2⟩, h.nt, h.nd, h.ns, h.nu, h.nw, h.pen, h.lst, h.tr, h.tz, fun k hk => ?_, h.tn, fun k hk => ?_, fun u hu => ?_, h.ut, h.we, h.wm, h.wz, h.tx, h.to, fun u o m hu ho hm hor => h.tf u o m hu ho hm ?_, h.su⟩
  · obtain ⟨d1, d2, d3, d4, d5, d6⟩ := h.de k hk
    exact ⟨d1, d2, d3, d4, d5, d6.1, show C 208 k ≤ C 200 0 + a by omega⟩
  · obtain ⟨d1, d2, d3, d4, d5, d6⟩ := h.le k hk
    exact ⟨d1, d2, d3, d4, ⟨d5.1, show C 213 k ≤ C 200 0 + a by omega⟩, d6⟩
  · have := h.un u hu
    exact ⟨this.1, show C 215 u ≤ C 200 0 + a by omega⟩
  · refine hor.imp id (fun z => ?_)
    have z : (C 200 0 + a).toNat < m := z
    show (C 200 0).toNat < m
    omega
theorem Inv_pen {C : Cr} (h : Inv C) {a : Int} (h1 : 100 ≤ a ∧ a ≤ 500) : Inv (u2 C 200 27 a) := ⟨h.now, h.nt, h.nd, h.ns, h.nu, h.nw, h1, h.lst, h.tr, h.tz, h.de, h.tn, h.le, h.un, h.ut, h.we, h.wm, h.wz, h.tx, h.to, h.tf, h.su⟩
theorem Inv_lst {C : Cr} (h : Inv C) {a : Int} (h1 : 1 ≤ a ∧ a ≤ 100000) : Inv (u2 C 200 28 a) := ⟨h.now, h.nt, h.nd, h.ns, h.nu, h.nw, h.pen, h1, h.tr, h.tz, h.de, h.tn, h.le, h.un, h.ut, h.we, h.wm, h.wz, h.tx, h.to, h.tf, h.su⟩
theorem Inv_sus {C : Cr} (h : Inv C) {o : Nat} {a : Int} (h1 : a = 0 ∨ a = 1) : Inv (u2 C 222 o a) := by
  refine ⟨h.now, h.nt, h.nd, h.ns, h.nu, h.nw, h.pen, h.lst, h.tr, h.tz, h.de, h.tn, h.le, h.un, h.ut, h.we, h.wm, h.wz, h.tx, h.to, h.tf, fun p hp => ?_⟩
  by_cases e : p = o
  · subst e; rw [u2_y]; exact h1
  · rw [u2_o (Or.inr e)]; exact h.su p hp
theorem Inv_tax {C : Cr} (h : Inv C) {m : Nat} {a : Int} (h1 : 0 ≤ a ∧ a ≤ 50) : Inv (u2 C 220 m a) := by
  refine ⟨h.now, h.nt, h.nd, h.ns, h.nu, h.nw, h.pen, h.lst, h.tr, h.tz, h.de, h.tn, h.le, h.un, h.ut, h.we, h.wm, h.wz, fun p hp => ?_, h.to, h.tf, h.su⟩
  by_cases e : p = m
  · subst e; rw [u2_y]; omega
  · rw [u2_o (Or.inr e)]; exact h.tx p hp
theorem Inv_pay {C : Cr} (h : Inv C) {n : Nat} : Inv (uPay C n) := ⟨h.now, h.nt, h.nd, h.ns, h.nu, h.nw, h.pen, h.lst, h.tr, h.tz, h.de, h.tn, h.le, h.un, h.ut, h.we, h.wm, h.wz, h.tx, h.to, h.tf, h.su⟩
theorem Inv_con {C : Cr} (h : Inv C) {a1 a2 v : Int} (h1 : dUO C a1 a2) (hv : v = 1 ∨ v = 2) : Inv (u2 C 221 (iC C a1 a2) v) := by
  have hn := h.now
  refine ⟨h.now, h.nt, h.nd, h.ns, h.nu, h.nw, h.pen, h.lst, h.tr, h.tz, h.de, h.tn, h.le, h.un, h.ut, h.we, h.wm, h.wz, h.tx, fun i hi => ?_, fun u o m hu ho hm hor => ?_, h.su⟩
  · by_cases e : i = iC C a1 a2
    · subst e; rw [u2_y]; omega
    · rw [u2_o (Or.inr e)]; exact h.to i hi
  · have hor : nU C ≤ u ∨ nN C < m := hor
    rw [u2_o (Or.inr ?_)]
    · exact h.tf u o m hu ho hm hor
    · intro e
      have hNn : nN C < 61 := by unfold nN; omega
      have e : 610 * u + 61 * o + m = 610 * a1.toNat + 61 * a2.toNat + nN C := e
      have : a1.toNat < nU C := by unfold nU; omega
      omega
theorem Inv_oil {C : Cr} (h : Inv C) {a1 a2 a3 a4 : Int} (h1 : dWM C a1 a2) (h2 : dOil2 a3 a4) : Inv (uOil C a1 a2 a3 a4) := by
  have hn := h.now
  have hw := h.nw
  refine ⟨h.now, h.nt, h.nd, h.ns, h.nu, h.nw, h.pen, h.lst, h.tr, h.tz, h.de, h.tn, h.le, h.un, h.ut, h.we, fun i hi => ?_, fun w hw1 hw2 m hm => ?_, h.tx, h.to, h.tf, h.su⟩
  · obtain ⟨r1, r2, r3⟩ := h.wm i hi
    show (0 ≤ u2 C 217 (iW a1 a2) a3 217 i ∧ u2 C 217 (iW a1 a2) a3 217 i ≤ 1000) ∧ (0 ≤ u2 (u2 C 217 (iW a1 a2) a3) 218 (iW a1 a2) a4 218 i ∧ u2 (u2 C 217 (iW a1 a2) a3) 218 (iW a1 a2) a4 218 i ≤ 10000) ∧ _
    by_cases e : i = iW a1 a2
    · subst e; rw [u2_y, u2_y]; exact ⟨h2.1, h2.2, r3⟩
    · rw [u2_o (Or.inr e), u2_o (Or.inr e), u2_o (Or.inr e)]; exact ⟨r1, r2, r3⟩
  · have hw1 : nW C ≤ w := hw1
    have e : 61 * w + m ≠ iW a1 a2 := by
      unfold iW
      have : a1.toNat < nW C := by unfold nW; omega
      omega
    have r := h.wz w hw1 hw2 m hm
    refine ⟨?_, ?_, r.2.2⟩
    · show u2 C 217 (iW a1 a2) a3 217 (61 * w + m) = 0
      rw [u2_o (Or.inr e)]; exact r.1
    · show u2 (u2 C 217 (iW a1 a2) a3) 218 (iW a1 a2) a4 218 (61 * w + m) = 0
      rw [u2_o (Or.inr e), u2_o (Or.inr e)]; exact r.2.1
theorem Inv_cost {C : Cr} (h : Inv C) {a1 a2 a3 : Int} (h1 : dWM C a1 a2) (h2 : 1 ≤ a3) (h3 : dCo3 C a1 a2 a3) : Inv (uCost C a1 a2 a3) := by
  have hn := h.now
  have hw := h.nw
  refine ⟨h.now, h.nt, h.nd, h.ns, h.nu, h.nw, h.pen, h.lst, h.tr, h.tz, h.de, h.tn, h.le, h.un, h.ut, h.we, fun i hi => ?_, fun w hw1 hw2 m hm => ?_, h.tx, h.to, h.tf, h.su⟩
  · obtain ⟨r1, r2, r3⟩ := h.wm i hi
    refine ⟨r1, r2, ?_⟩
    show 0 ≤ u2 C 219 (iW a1 a2) (C 219 (iW a1 a2) + a3) 219 i ∧ u2 C 219 (iW a1 a2) (C 219 (iW a1 a2) + a3) 219 i ≤ 10000000
    by_cases e : i = iW a1 a2
    · subst e; rw [u2_y]; have := h3.2; omega
    · rw [u2_o (Or.inr e)]; exact r3
  · have hw1 : nW C ≤ w := hw1
    have e : 61 * w + m ≠ iW a1 a2 := by
      unfold iW
      have : a1.toNat < nW C := by unfold nW; omega
      omega
    have r := h.wz w hw1 hw2 m hm
    refine ⟨r.1, r.2.1, ?_⟩
    show u2 C 219 (iW a1 a2) (C 219 (iW a1 a2) + a3) 219 (61 * w + m) = 0
    rw [u2_o (Or.inr e)]; exact r.2.2
theorem Inv_well {C : Cr} (h : Inv C) {a1 : Int} (h1 : dUn C a1) (h2 : C 200 20 < 6) : Inv (uWell C a1) := by
  have hw := h.nw
  refine ⟨h.now, h.nt, h.nd, h.ns, h.nu, ⟨show 0 ≤ C 200 20 + 1 by omega, show C 200 20 + 1 ≤ 6 by omega⟩, h.pen, h.lst, h.tr, h.tz, h.de, h.tn, h.le, h.un, h.ut, fun w hw1 => ?_, h.wm, fun w hw1 hw2 m hm => h.wz w ?_ hw2 m hm, h.tx, h.to, h.tf, h.su⟩
  · have hw1 : w < (C 200 20 + 1).toNat := hw1
    show 0 ≤ u2 C 216 (nW C) a1 216 w ∧ u2 C 216 (nW C) a1 216 w < C 200 18
    by_cases e : w = nW C
    · subst e; rw [u2_y]; exact h1
    · rw [u2_o (Or.inr e)]; exact h.we w (by unfold nW at e ⊢; omega)
  · have hw1 : (C 200 20 + 1).toNat ≤ w := hw1
    unfold nW; omega
theorem Inv_lease {C : Cr} (h : Inv C) {a1 a2 a3 a4 a5 : Int} (h1 : dLe1 C a1 a2 a3) (h2 : dLe2 a2 a3 a4 a5) (h3 : C 200 11 < 16) : Inv (uLease C a1 a2 a3 a4 a5) := by
  have hs := h.ns
  have hn := h.now
  refine ⟨h.now, h.nt, h.nd, ⟨show 0 ≤ C 200 11 + 1 by omega, show C 200 11 + 1 ≤ 16 by omega⟩, h.nu, h.nw, h.pen, h.lst, h.tr, h.tz, h.de, h.tn, fun k hk => ?_, h.un, h.ut, h.we, h.wm, h.wz, h.tx, h.to, h.tf, h.su⟩
  have hk : k < (C 200 11 + 1).toNat := hk
  show (0 ≤ u2 C 209 (nS C) a1 209 k ∧ u2 C 209 (nS C) a1 209 k < C 200 1) ∧ (0 ≤ u2 C 210 (nS C) a2 210 k ∧ u2 C 210 (nS C) a2 210 k ≤ 9) ∧ (0 ≤ u2 C 211 (nS C) a3 211 k ∧ u2 C 211 (nS C) a3 211 k ≤ 9) ∧ (0 ≤ u2 C 212 (nS C) a4 212 k ∧ u2 C 212 (nS C) a4 212 k ≤ 500) ∧ (0 ≤ u2 C 213 (nS C) (C 200 0) 213 k ∧ u2 C 213 (nS C) (C 200 0) 213 k ≤ C 200 0) ∧ (1 ≤ u2 C 214 (nS C) a5 214 k ∧ u2 C 214 (nS C) a5 214 k ≤ 36)
  by_cases e : k = nS C
  · subst e
    rw [u2_y, u2_y, u2_y, u2_y, u2_y, u2_y]
    exact ⟨h1.1, h1.2.1, h1.2.2, h2.2.1, by omega, h2.2.2⟩
  · rw [u2_o (Or.inr e), u2_o (Or.inr e), u2_o (Or.inr e), u2_o (Or.inr e), u2_o (Or.inr e), u2_o (Or.inr e)]
    exact h.le k (by unfold nS at e ⊢; omega)
