/-! PURE: the model's small methods -/
theorem t_0 : (0 : Int32).toInt = 0 := rfl
theorem t_1 : (1 : Int32).toInt = 1 := rfl
theorem t_2 : (2 : Int32).toInt = 2 := rfl
theorem t_3 : (3 : Int32).toInt = 3 := rfl
theorem t_6 : (6 : Int32).toInt = 6 := rfl
theorem t_8 : (8 : Int32).toInt = 8 := rfl
theorem t_9 : (9 : Int32).toInt = 9 := rfl
theorem t_10 : (10 : Int32).toInt = 10 := rfl
theorem t_12 : (12 : Int32).toInt = 12 := rfl
theorem t_16 : (16 : Int32).toInt = 16 := rfl
theorem t_20 : (20 : Int32).toInt = 20 := rfl
theorem t_36 : (36 : Int32).toInt = 36 := rfl
theorem t_40 : (40 : Int32).toInt = 40 := rfl
theorem t_50 : (50 : Int32).toInt = 50 := rfl
theorem t_60 : (60 : Int32).toInt = 60 := rfl
theorem t_61 : (61 : Int32).toInt = 61 := rfl
theorem t_100 : (100 : Int32).toInt = 100 := rfl
theorem t_500 : (500 : Int32).toInt = 500 := rfl
theorem t_1000 : (1000 : Int32).toInt = 1000 := rfl
theorem t_1e4 : (10000 : Int32).toInt = 10000 := rfl
theorem t_1e5 : (100000 : Int32).toInt = 100000 := rfl
theorem t_1e6 : (1000000 : Int32).toInt = 1000000 := rfl
theorem t_1e7 : (10000000 : Int32).toInt = 10000000 := rfl
theorem t_m1 : (-1 : Int32).toInt = -1 := rfl
/-- a truth as an int -/
def bz (c : Prop) [Decidable c] : Int32 := if c then 1 else 0
theorem bz_0 (c : Prop) [Decidable c] : bz c = 0 ↔ ¬ c := by unfold bz; by_cases h : c <;> simp [h]
theorem bz_n (c : Prop) [Decidable c] : ¬ bz c = 0 ↔ c := by rw [bz_0]; exact Decidable.not_not
theorem bz_y {c : Prop} [Decidable c] (h : c) : bz c = 1 := if_pos h
theorem bz_no {c : Prop} [Decidable c] (h : ¬ c) : bz c = 0 := if_neg h
theorem zb_bz (c : Prop) [Decidable c] : zb (bz c) := zb_if c
theorem bz_cong {c d : Prop} [Decidable c] [Decidable d] (h : c ↔ d) : bz c = bz d := by
  unfold bz
  by_cases k : c
  · rw [if_pos k, if_pos (h.mp k)]
  · rw [if_neg k, if_neg (fun q => k (h.mpr q))]
theorem m_btw {σ : Mm} {a lo hi : Int32} {Q : Int32 → Mm → Prop} (h : Q (bz (lo.toInt ≤ a.toInt ∧ a.toInt ≤ hi.toInt)) σ) : wp_X7_isBetween σ a lo hi Q := by
  refine jn1 (jn0 ⟨fun q => ?_, fun q => ⟨fun q2 => ?_, fun q2 => ?_⟩⟩) <;> rw [Int32.lt_iff_toInt_lt] at * <;> first | (rw [bz_no (by omega)] at h; exact ⟨zb_0, h⟩) | (rw [Int32.lt_iff_toInt_lt] at *; rw [bz_no (by omega)] at h; exact ⟨zb_0, h⟩) | (rw [bz_y (by omega)] at h; exact ⟨zb_1, h⟩)
/-- what a call is refused with -/
def rf (c1 c2 c3 : Prop) [Decidable c1] [Decidable c2] [Decidable c3] : Int32 := if c1 then (if c2 then (if c3 then 0 else 3) else 2) else 1
theorem m_goes {σ : Mm} {c1 c2 c3 : Prop} [Decidable c1] [Decidable c2] [Decidable c3] {Q : Int32 → Mm → Prop} (h : ∀ σ', σ' = sI σ 200 39 (rf c1 c2 c3) → Q (bz (c1 ∧ c2 ∧ c3)) σ') : wp_X7_goes σ (bz c1) (bz c2) (bz c3) Q := by
  have h := h _ rfl
  have key : ∀ x : Int32, x = rf c1 c2 c3 → (∀ σ3 : Mm, σ3 = sI σ 200 39 x → (∃ J5 : Int32 → Prop, (∀ (x4 : Int32), J5 x4 → zb x4 ∧ Q x4 σ3) ∧ ((¬ (gI σ3 200 39) = 0 → J5 0) ∧ (¬ (¬ (gI σ3 200 39) = 0) → J5 1)))) := by
    intro x hx σ3 h3
    subst h3
    refine jn1 ?_
    rw [gI_sI, if_pos ⟨rfl, rfl⟩, hx]
    rw [← hx] at h
    by_cases k1 : c1 <;> by_cases k2 : c2 <;> by_cases k3 : c3 <;> simp only [rf, bz, k1, k2, k3, if_true, if_false, and_self, and_true, true_and, and_false, false_and] at hx h ⊢ <;> subst hx <;> refine ⟨fun q => ?_, fun q => ?_⟩ <;> first | exact ⟨zb_0, h⟩ | exact ⟨zb_1, h⟩ | exact absurd rfl q | exact absurd (by decide) q
  unfold wp_X7_goes
  refine jn1 ⟨fun q => ⟨fun q2 => ⟨fun q3 => ?_, fun q3 => ?_⟩, fun q2 => ?_⟩, fun q => ?_⟩
  all_goals simp only [bz_0, Decidable.not_not] at *
  · exact key 0 (by simp [rf, *])
  · exact key 3 (by simp [rf, *])
  · exact key 2 (by simp [rf, *])
  · exact key 1 (by simp [rf, *])
theorem bz_t : bz True = 1 := if_pos trivial
theorem m_goes2 {σ : Mm} {c1 c2 : Prop} [Decidable c1] [Decidable c2] {Q : Int32 → Mm → Prop} (h : ∀ σ', σ' = sI σ 200 39 (rf c1 c2 True) → Q (bz (c1 ∧ c2)) σ') : wp_X7_goes σ (bz c1) (bz c2) 1 Q := by
  rw [← bz_t]
  refine m_goes (fun σ' e => ?_)
  rw [bz_cong (show (c1 ∧ c2 ∧ True) ↔ (c1 ∧ c2) by rw [and_true])]
  exact h σ' e
theorem m_goes1 {σ : Mm} {c1 : Prop} [Decidable c1] {Q : Int32 → Mm → Prop} (h : ∀ σ', σ' = sI σ 200 39 (rf c1 True True) → Q (bz c1) σ') : wp_X7_goes σ (bz c1) 1 1 Q := by
  rw [← bz_t]
  refine m_goes (fun σ' e => ?_)
  rw [bz_cong (show (c1 ∧ True ∧ True) ↔ c1 by simp)]
  exact h σ' e
theorem core_thr {τ τ' : Mm} {v : Int32} (h : τ' = sI τ 200 39 v) : core τ' = core τ ∧ gI τ' 200 39 = v := by
  subst h
  exact ⟨core_oI (Or.inr (Or.inr ⟨rfl, rfl⟩)), by rw [gI_sI, if_pos ⟨rfl, rfl⟩]⟩
