/-! PURE: the class's bits, revenue, parting by working interests -/
theorem k_hasBit {L : List Nat} {σ : Mm} {a0 : Int32} {i : Nat} (hi : i < 32) {Q : Int32 → Mm → Prop} (h : Q (bz (bt a0 i = true)) σ) : wp_X6_hasBit L σ a0 (iZ (i : Int)) Q := by
  refine jn1 ⟨fun z => ?_, fun z => ?_⟩
  · rw [bit_0 hi] at z; rw [bz_no z] at h; exact ⟨zb_0, h⟩
  · rw [bit_0 hi, Decidable.not_not] at z; rw [bz_y z] at h; exact ⟨zb_1, h⟩
theorem k_withBit {L : List Nat} {σ : Mm} {a0 a2 : Int32} {i : Nat} (hi : i < 32) {Q : Int32 → Mm → Prop} (h : ∀ x : Int32, (∀ j : Nat, j < 32 → (bt x j = true ↔ if j = i then ¬ a2 = 0 else bt a0 j = true)) → Q x σ) : wp_X6_withBit L σ a0 (iZ (i : Int)) a2 Q := by
  refine jn1 ⟨fun z => h _ (fun j hj => ?_), fun z => h _ (fun j hj => ?_)⟩
  · rw [wb_0 a0 hi hj]
    by_cases e : j = i
    · rw [if_pos e]; simp [e, z]
    · rw [if_neg e]; simp [e]
  · rw [wb_1 a0 hi j]
    by_cases e : j = i
    · rw [if_pos e]; simp [e, z]
    · rw [if_neg e]; simp [e]
