/-! PURE: sums of parts, of titles, of decks -/
theorem sm_up {f : Nat → Int} {b : Nat} : ∀ {n : Nat}, sm (fun j => if j = b then f j + 1 else f j) n = sm f n + (if b < n then 1 else 0)
  | 0 => by simp [sm]
  | n + 1 => by
    rw [sm_s, sm_s, sm_up]
    by_cases h : n = b
    · subst h; rw [if_neg (by omega), if_pos rfl, if_pos (by omega)]; omega
    · rw [if_neg h]
      by_cases h2 : b < n
      · rw [if_pos h2, if_pos (by omega)]; omega
      · rw [if_neg h2, if_neg (by omega)]; omega
theorem rdn_sum {n : Nat} (hn : 1 ≤ n) {s : (Nat → Int) × (Nat → Int)} : ∀ g, sm (rdn n s g).1 n = sm s.1 n + g
  | 0 => by simp [rdn]
  | g + 1 => by
    have e : (rdn n s (g + 1)).1 = fun j => if j = bx (rdn n s g).2 n then (rdn n s g).1 j + 1 else (rdn n s g).1 j := rfl
    have hb : bx (rdn n s g).2 n < n := by
      obtain ⟨k, rfl⟩ : ∃ k, n = k + 1 := ⟨n - 1, by omega⟩
      have := bx_le (rdn (k + 1) s g).2 k
      omega
    rw [e, sm_up, rdn_sum hn g, if_pos hb]
    omega
theorem rdn_ge {n : Nat} {s : (Nat → Int) × (Nat → Int)} : ∀ g j, s.1 j ≤ (rdn n s g).1 j
  | 0, j => Int.le_refl _
  | g + 1, j => by
    have := rdn_ge (n := n) (s := s) g j
    show s.1 j ≤ if j = bx (rdn n s g).2 n then (rdn n s g).1 j + 1 else (rdn n s g).1 j
    split <;> omega
theorem pt_all {a : Int} {w : Nat → Int} {n : Nat} (hn : 1 ≤ n) (hs : 0 < sm w n) : sm (pt a w n) n = a := by
  unfold pt
  rw [rdn_sum hn]
  have := ptL_rg (a := a) hn hs
  have e : ((ptL a w n : Nat) : Int) = a - sm (fun j => a * w j / sm w n) n := by unfold ptL; omega
  rw [e]
  show sm (fun j => a * w j / sm w n) n + _ = a
  omega
theorem pt_nn {a : Int} {w : Nat → Int} {n : Nat} (ha : 0 ≤ a) (h0 : ∀ i : Nat, i < n → 0 ≤ w i) (hs : 0 < sm w n) {i : Nat} (hi : i < n) : 0 ≤ pt a w n i :=
  Int.le_trans (Int.ediv_nonneg (Int.mul_nonneg ha (h0 i hi)) (Int.le_of_lt hs)) (rdn_ge (n := n) (s := ptA a w n) (ptL a w n) i)
theorem sm_oneI {z x : Int} : ∀ {n : Nat}, sm (fun o => if z = (o : Int) then x else 0) n = if 0 ≤ z ∧ z < n then x else 0
  | 0 => by simp [sm]; omega
  | n + 1 => by
    rw [sm_s, sm_oneI]
    by_cases h : z = n
    · rw [if_neg (by omega), if_pos h, if_pos (by omega)]; omega
    · rw [if_neg h]
      by_cases h2 : 0 ≤ z ∧ z < n
      · rw [if_pos h2, if_pos (by omega)]; omega
      · rw [if_neg h2, if_neg (by omega)]; omega
theorem ti_sum {C : Cr} (hI : Inv C) {t : Nat} (ht : t < nT C) (m : Int) : sm (fun o => ti C t o m) 10 = 10000 := by
  have h202 := (hI.tr t ht).2.1
  have e : (fun o : Nat => ti C t o m) = fun o : Nat => (if C 202 t = (o : Int) then (10000 : Int) else 0) + sm (fun k => tiT C t o m k) (nD C) := rfl
  rw [e, sm_add, sm_oneI, if_pos (by omega), sm_swap, sm_zero]
  · rfl
  · intro k hk
    obtain ⟨-, d5, d6, -, -, -⟩ := hI.de k hk
    unfold tiT
    by_cases q : C 204 k = t ∧ C 208 k ≤ m
    · simp only [if_pos q]
      rw [sm_sub, sm_oneI, sm_oneI, if_pos (by omega), if_pos (by omega)]
      omega
    · simp only [if_neg q]
      exact sm_zero (fun _ _ => rfl)
theorem cbL_sum {C : Cr} {t o : Nat} {w : Int} {l : Option Nat} (ho : o < 10) (hl : ∀ k, l = some k → 0 ≤ C 211 k ∧ C 211 k ≤ 9) : sm (fun i => cbL C t o w i l) 20 = 1000 * w := by
  cases l with
  | none =>
    show sm (fun i => if i = 10 + o then 1000 * w else 0) 20 = _
    rw [sm_one, if_pos (by omega)]
  | some k =>
    have h := hl k rfl
    show sm (fun i : Nat => (if i = o then C 212 k * w else 0) + (if (i : Int) = 10 + C 211 k then (1000 - C 212 k) * w else 0)) 20 = _
    rw [sm_add, sm_one, if_pos (by omega)]
    have e : (fun i : Nat => if (i : Int) = 10 + C 211 k then (1000 - C 212 k) * w else 0) = fun i : Nat => if 10 + C 211 k = (i : Int) then (1000 - C 212 k) * w else 0 := by
      funext i
      by_cases q : (i : Int) = 10 + C 211 k
      · rw [if_pos q, if_pos q.symm]
      · rw [if_neg q, if_neg (fun z => q z.symm)]
    rw [e, sm_oneI, if_pos (by omega), ← Int.add_mul]
    congr 1
    omega
theorem lo_le {C : Cr} (hI : Inv C) {t o m k : Nat} (h : lo C t o m = some k) : (0 ≤ C 211 k ∧ C 211 k ≤ 9) ∧ (0 ≤ C 212 k ∧ C 212 k ≤ 500) := by
  obtain ⟨-, -, l11, l12, -, -⟩ := hI.le k (fst_lt h).1
  exact ⟨l11, l12⟩
theorem wt_nn {C : Cr} (hI : Inv C) {t : Nat} (ht : t < nT C) {o : Nat} (ho : o < 10) (m : Nat) : 0 ≤ C 201 t * ti C t o m := by
  have := (hI.tr t ht).1
  exact Int.mul_nonneg (by omega) (hI.tn t ht o ho m)
theorem cb_nn {C : Cr} (hI : Inv C) {u : Int} {m t o i : Nat} (ht : t < nT C) (ho : o < 10) : 0 ≤ cb C u m t o i := by
  unfold cb
  split
  · have w := wt_nn hI ht ho m
    cases h : lo C t o m with
    | none => unfold cbL; dsimp only; split <;> omega
    | some k =>
      have r := (lo_le hI h).2
      have r1 : 0 ≤ C 212 k * (C 201 t * ti C t o m) := Int.mul_nonneg r.1 w
      have r2 : 0 ≤ (1000 - C 212 k) * (C 201 t * ti C t o m) := Int.mul_nonneg (by omega) w
      unfold cbL
      dsimp only
      split <;> split <;> omega
  · exact Int.le_refl 0
theorem dk_nn {C : Cr} (hI : Inv C) (u : Int) (m i : Nat) : 0 ≤ dk C u m i := sm_nn (fun t ht => sm_nn (fun o ho => cb_nn hI ht ho))
theorem dk_sum {C : Cr} (hI : Inv C) (u : Int) (m : Nat) : sm (dk C u m) 20 = sm (fun t => if C 203 t = u then C 201 t * 10000000 else 0) (nT C) := by
  show sm (fun i => sm (fun t => sm (fun o => cb C u m t o i) 10) (nT C)) 20 = _
  rw [sm_swap]
  refine sm_cong (fun t ht => ?_)
  rw [sm_swap]
  by_cases q : C 203 t = u
  · rw [if_pos q]
    have e : sm (fun o => sm (fun i => cb C u m t o i) 20) 10 = sm (fun o => 1000 * C 201 t * ti C t o m) 10 := by
      refine sm_cong (fun o ho => ?_)
      unfold cb
      simp only [if_pos q]
      rw [cbL_sum ho (fun k hk => (lo_le hI hk).1), Int.mul_assoc]
    rw [e, sm_mul, ti_sum hI ht]
    omega
  · rw [if_neg q]
    refine sm_zero (fun o _ => sm_zero (fun i _ => ?_))
    exact cb_no q
theorem dk_top {C : Cr} (hI : Inv C) (u : Int) (m : Nat) : sm (dk C u m) 20 ≤ 80000000000 := by
  rw [dk_sum hI]
  have h := sm_le (f := fun t => if C 203 t = u then C 201 t * 10000000 else 0) (g := fun _ => 10000000000) (n := nT C) (fun t ht => by
    have := (hI.tr t ht).1
    show (if C 203 t = u then C 201 t * 10000000 else 0) ≤ 10000000000
    split <;> omega)
  rw [sm_const] at h
  have := hI.nt
  have e : ((nT C : Nat) : Int) = C 200 1 := by unfold nT; omega
  omega
theorem sm_split {f : Nat → Int} (a : Nat) : ∀ b, sm f (a + b) = sm f a + sm (fun i => f (a + i)) b
  | 0 => by simp [sm]
  | b + 1 => by rw [show a + (b + 1) = (a + b) + 1 from rfl, sm_s, sm_split a b, sm_s]; omega
theorem sm_ex {f : Nat → Int} : ∀ {n : Nat}, 0 < sm f n → ∃ i, i < n ∧ 0 < f i
  | 0, h => by simp [sm] at h
  | n + 1, h => by
    by_cases q : 0 < f n
    · exact ⟨n, by omega, q⟩
    · rw [sm_s] at h
      obtain ⟨i, h1, h2⟩ := sm_ex (f := f) (n := n) (by omega)
      exact ⟨i, by omega, h2⟩
/-- some working interest there is -/
theorem dk_work {C : Cr} (hI : Inv C) {u : Nat} (hu : u < nU C) (m : Nat) : 0 < sm (fun o => dk C u m (10 + o)) 10 := by
  obtain ⟨t, ht, e⟩ := hI.ut u hu
  obtain ⟨o, ho, po⟩ := sm_ex (f := fun o => ti C t o m) (n := 10) (by rw [ti_sum hI ht]; omega)
  have pw : 0 < C 201 t * ti C t o m := Int.mul_pos (by have := (hI.tr t ht).1; omega) po
  obtain ⟨i, hi, pi⟩ : ∃ i, i < 10 ∧ 0 < cb C u m t o (10 + i) := by
    unfold cb
    simp only [if_pos e]
    cases h : lo C t o m with
    | none => exact ⟨o, ho, by unfold cbL; dsimp only; rw [if_pos rfl]; omega⟩
    | some k =>
      have r := lo_le hI h
      have p : 0 < (1000 - C 212 k) * (C 201 t * ti C t o m) := Int.mul_pos (by omega) pw
      refine ⟨(C 211 k).toNat, by omega, ?_⟩
      unfold cbL
      dsimp only
      rw [if_neg (by omega), if_pos (by omega)]
      omega
  refine sm_pos (fun k _ => dk_nn hI u m _) hi ?_
  refine sm_pos (fun t ht => sm_nn (fun o ho => cb_nn hI ht ho)) ht ?_
  exact sm_pos (fun o ho => cb_nn hI ht ho) ho pi
theorem dk_all {C : Cr} (hI : Inv C) {u : Nat} (hu : u < nU C) (m : Nat) : 0 < sm (dk C u m) 20 ∧ sm (fun o => dk C u m (10 + o)) 10 ≤ sm (dk C u m) 20 := by
  have h := dk_work hI hu m
  have e := sm_split (f := dk C u m) 10 10
  have n := sm_nn (f := dk C u m) (n := 10) (fun k _ => dk_nn hI u m k)
  have e2 : sm (dk C u m) 20 = sm (dk C u m) 10 + sm (fun i => dk C u m (10 + i)) 10 := e
  omega
theorem gs_rg {C : Cr} (hI : Inv C) (u : Int) {m : Nat} (hm : m < 61) : 0 ≤ gs C u m ∧ gs C u m ≤ 60000000 := by
  have hw := hI.nw
  have e : ((nW C : Nat) : Int) = C 200 20 := by unfold nW; omega
  have k : ∀ w, w < nW C → 0 ≤ (if C 216 w = u then C 217 (61 * w + m) * C 218 (61 * w + m) else 0) ∧ (if C 216 w = u then C 217 (61 * w + m) * C 218 (61 * w + m) else 0) ≤ 10000000 := fun w hw => by
    obtain ⟨r1, r2, -⟩ := hI.wm (61 * w + m) (by omega)
    have p := Int.mul_nonneg r1.1 r2.1
    have p2 := Int.mul_le_mul r1.2 r2.2 r2.1 (show (0 : Int) ≤ 1000 by omega)
    split <;> omega
  refine ⟨sm_nn (fun w hw => (k w hw).1), ?_⟩
  have := sm_le (g := fun _ => 10000000) (fun w hw => (k w hw).2)
  rw [sm_const] at this
  unfold gs
  omega
theorem co_rg {C : Cr} (hI : Inv C) (u : Int) {m : Nat} (hm : m < 61) : 0 ≤ co C u m ∧ co C u m ≤ 60000000 := by
  have hw := hI.nw
  have e : ((nW C : Nat) : Int) = C 200 20 := by unfold nW; omega
  have k : ∀ w, w < nW C → 0 ≤ (if C 216 w = u then C 219 (61 * w + m) else 0) ∧ (if C 216 w = u then C 219 (61 * w + m) else 0) ≤ 10000000 := fun w hw => by
    obtain ⟨-, -, r1⟩ := hI.wm (61 * w + m) (by omega)
    split <;> omega
  refine ⟨sm_nn (fun w hw => (k w hw).1), ?_⟩
  have := sm_le (g := fun _ => 10000000) (fun w hw => (k w hw).2)
  rw [sm_const] at this
  unfold co
  omega
theorem txn_rg {C : Cr} (hI : Inv C) : ∀ n, n ≤ 61 → 0 ≤ txn C n ∧ txn C n ≤ 50
  | 0, _ => by unfold txn; omega
  | n + 1, h => by
    have h1 := txn_rg hI n (by omega)
    have h2 := hI.tx n (by omega)
    unfold txn
    split <;> omega
theorem rv_rg {C : Cr} (hI : Inv C) (u : Int) {m : Nat} (hm : m < 61) : 0 ≤ rv C u m ∧ rv C u m ≤ 60000000 := by
  have g := gs_rg hI u hm
  have t := txn_rg hI (m + 1) (by omega)
  have p := Int.mul_nonneg g.1 t.1
  have p2 := Int.mul_le_mul_of_nonneg_left t.2 g.1
  unfold rv
  omega
