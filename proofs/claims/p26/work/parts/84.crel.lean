/-! PURE: scratch slots of the class don't count -/
def sk : List Nat := [8, 10, 11, 12, 14, 15, 16, 17]
def kq (ks : List Nat) (σ σ' : Mm) : Prop := kp ks σ σ' ∧ gR σ' = gR σ
theorem kq_rf {ks : List Nat} {σ : Mm} : kq ks σ σ := ⟨kp_rf, rfl⟩
theorem kq_tr {ks : List Nat} {a b c : Mm} (h : kq ks a b) (h2 : kq ks b c) : kq ks a c := ⟨kp_tr h.1 h2.1, h2.2.trans h.2⟩
theorem kq_up {ks js : List Nat} {a b : Mm} (h : kq ks a b) (hs : ∀ k ∈ ks, k ∈ js) : kq js a b := ⟨kp_up h.1 hs, h.2⟩
theorem kq_J {ks : List Nat} {τ : Mm} {k i : Nat} {v : Int64} (h : k ∈ ks) : kq ks τ (sJ τ k i v) := ⟨kp_J h, rfl⟩
theorem kq_I {ks : List Nat} {τ : Mm} {k i : Nat} {v : Int32} (h : k ∈ ks) : kq ks τ (sI τ k i v) := ⟨kp_I h, rfl⟩
theorem Rel_kq {L : List Nat} {σ σ' : Mm} {C : Cr} {ks : List Nat} (hk : kq ks σ σ') (hs : ∀ k ∈ ks, k ∈ sk) (h : Rel L σ C) : Rel L σ' C := by
  have lo : ∀ k, k < 8 → gI σ' k = gI σ k ∧ gJ σ' k = gJ σ k := fun k h8 => hk.1 k (fun z => by
    have := hs k z
    simp [sk] at this
    omega)
  have hi : ∀ k, 20 ≤ k → gI σ' k = gI σ k ∧ gJ σ' k = gJ σ k := fun k h8 => hk.1 k (fun z => by
    have := hs k z
    simp [sk] at this
    omega)
  have i0 := (lo 0 (by omega)).1
  have r := hk.2
  refine ⟨h.inL, by rw [i0]; exact h.now, by rw [i0]; exact h.tc, by rw [i0]; exact h.dc, by rw [i0]; exact h.lc, by rw [i0]; exact h.uc, by rw [i0]; exact h.wc, by rw [i0]; exact h.pen, by rw [i0]; exact h.lst, by rw [i0]; exact h.sus, by rw [i0]; exact h.set, by rw [r]; exact h.g1, by rw [r]; exact h.g2, by rw [r]; exact h.g3, by rw [r]; exact h.g4, by rw [r]; exact h.g5, by rw [r]; exact h.rr, fun t ht => ?_, fun t ht => ?_, fun t ht => ?_, fun t ht => ?_, fun t ht => ?_, fun m hm => ?_, fun o ho => ?_, fun u m hu hm1 hm2 o ho => ?_⟩
  · rw [(hi (20 + t) (by omega)).1, r]; exact h.tr t ht
  · rw [(hi (30 + t) (by omega)).1, r]; exact h.de t ht
  · rw [(hi (70 + t) (by omega)).1, r]; exact h.le t ht
  · rw [(hi (100 + 8 * t) (by omega)).1, (hi (100 + 8 * t + 1) (by omega)).1, (hi (100 + 8 * t + 2) (by omega)).1, (hi (100 + 8 * t + 3) (by omega)).1, (hi (100 + 8 * t + 4) (by omega)).1]; exact h.un t ht
  · rw [r, (hi (130 + 4 * t + 1) (by omega)).1, (hi (130 + 4 * t + 2) (by omega)).1, (hi (130 + 4 * t + 3) (by omega)).1]; exact h.we t ht
  · rw [(lo 6 (by omega)).1]; exact h.tx m hm
  · rw [(lo 7 (by omega)).2]; exact h.pd o ho
  · rw [i0] at hm2
    rw [(hi (100 + 8 * u + 5) (by omega)).2, (hi (100 + 8 * u + 6) (by omega)).2]; exact h.mo u m hu hm1 hm2 o ho
