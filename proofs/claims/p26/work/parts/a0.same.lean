/-! PURE: what a month's dues stand on -/
theorem bx_cong {r r' : Nat → Int} : ∀ {n : Nat}, (∀ j, j < n → r j = r' j) → bx r n = bx r' n
  | 0, _ => rfl
  | n + 1, h => by
    have ih := bx_cong (r := r) (r' := r') (n := n) (fun j hj => h j (by omega))
    have hb : bx r n ≤ n := by
      cases n with
      | zero => exact Nat.le_refl 0
      | succ k => have := bx_le r k; omega
    show (if r (bx r n) < r n then n else bx r n) = (if r' (bx r' n) < r' n then n else bx r' n)
    rw [← ih, h (bx r n) (by omega), h n (by omega)]
theorem rdn_cong {n : Nat} {s s' : (Nat → Int) × (Nat → Int)} (h : ∀ j, j < n → s.1 j = s'.1 j ∧ s.2 j = s'.2 j) : ∀ g j, j < n → (rdn n s g).1 j = (rdn n s' g).1 j ∧ (rdn n s g).2 j = (rdn n s' g).2 j
  | 0, j, hj => h j hj
  | g + 1, j, hj => by
    have ih := rdn_cong h g
    have e := bx_cong (r := (rdn n s g).2) (r' := (rdn n s' g).2) (n := n) (fun j hj => (ih j hj).2)
    show (if j = bx (rdn n s g).2 n then (rdn n s g).1 j + 1 else (rdn n s g).1 j) = (if j = bx (rdn n s' g).2 n then (rdn n s' g).1 j + 1 else (rdn n s' g).1 j) ∧ (if j = bx (rdn n s g).2 n then -1 else (rdn n s g).2 j) = (if j = bx (rdn n s' g).2 n then -1 else (rdn n s' g).2 j)
    rw [e, (ih j hj).1, (ih j hj).2]
    exact ⟨rfl, rfl⟩
theorem pt_cong {a : Int} {w w' : Nat → Int} {n : Nat} (h : ∀ j, j < n → w j = w' j) {i : Nat} (hi : i < n) : pt a w n i = pt a w' n i := by
  have es := sm_cong h
  have e2 : sm (fun j => a * w j / sm w' n) n = sm (fun j => a * w' j / sm w' n) n := sm_cong (fun j hj => by rw [h j hj])
  have eL : ptL a w n = ptL a w' n := by unfold ptL; rw [es, e2]
  unfold pt
  rw [eL]
  refine (rdn_cong (fun j hj => ⟨?_, ?_⟩) _ i hi).1
  · show a * w j / sm w n = a * w' j / sm w' n
    rw [es, h j hj]
  · show a * w j % sm w n = a * w' j % sm w' n
    rw [es, h j hj]
/-- alike in a month -/
def sM (C C' : Cr) (u m : Nat) : Prop := (∀ i, i < 20 → dk C' u m i = dk C u m i) ∧ (∀ o, o < 10 → csn C' u o (m + 1) = csn C u o (m + 1)) ∧ co C' u m = co C u m ∧ rv C' u m = rv C u m
theorem mo_cong {C C' : Cr} {u m : Nat} {b b' : Nat → Int} (hb : ∀ o, o < 10 → b' o = b o) (hM : sM C C' u m) (hp : C' 200 27 = C 200 27) : ∀ o, o < 10 → ds C' u m b' o = ds C u m b o ∧ b2 C' u m b' o = b2 C u m b o := by
  obtain ⟨hD, hV, hc, hv⟩ := hM
  have ecq : ∀ o, o < 10 → (cq C' u m b' o ↔ cq C u m b o) := fun o ho => by
    show (0 < b' o ∨ csn C' u o (m + 1) ≠ 1) ↔ (0 < b o ∨ csn C u o (m + 1) ≠ 1)
    rw [hb o ho, hV o ho]
  have eS : isS C' u m b' ↔ isS C u m b := by
    constructor
    · rintro ⟨p, hp, q1, q2⟩
      exact ⟨p, hp, by rw [← hD (10 + p) (by omega)]; exact q1, fun z => q2 ((ecq p hp).mpr z)⟩
    · rintro ⟨p, hp, q1, q2⟩
      exact ⟨p, hp, by rw [hD (10 + p) (by omega)]; exact q1, fun z => q2 ((ecq p hp).mp z)⟩
  have eca : ∀ o, o < 10 → (ca C' u m b' o ↔ ca C u m b o) := fun o ho => and_congr (by rw [hD (10 + o) (by omega)]) (and_congr (ecq o ho) eS)
  have ew1 : ∀ o, o < 10 → w1 C' u m o = w1 C u m o := fun o ho => hD (10 + o) (by omega)
  have ew2 : ∀ o, o < 10 → w2 C' u m b' o = w2 C u m b o := fun o ho => by
    unfold w2
    by_cases q : ca C u m b o
    · rw [if_pos q, if_pos ((eca o ho).mpr q)]
    · rw [if_neg q, if_neg (fun z => q ((eca o ho).mp z)), hD (10 + o) (by omega)]
  have eb1 : ∀ o, o < 10 → b1 C' u m b' o = b1 C u m b o := fun o ho => by
    unfold b1
    by_cases q : ca C u m b o
    · rw [if_pos q, if_pos ((eca o ho).mpr q), hb o ho, hc, hp, pt_cong ew1 ho]
    · rw [if_neg q, if_neg (fun z => q ((eca o ho).mp z)), hb o ho]
  have ep3 : ∀ j, j < 20 → p3 C' u m j = p3 C u m j := fun j hj => by
    unfold p3
    rw [hv]
    exact pt_cong hD hj
  have eof : ∀ o, o < 10 → of C' u m b' o = of C u m b o := fun o ho => by
    unfold of
    by_cases q : ca C u m b o
    · rw [if_pos q, if_pos ((eca o ho).mpr q), ep3 (10 + o) (by omega), eb1 o ho]
    · rw [if_neg q, if_neg (fun z => q ((eca o ho).mp z))]
  have es : sm (of C' u m b') 10 = sm (of C u m b) 10 := sm_cong eof
  intro o ho
  constructor
  · unfold ds
    rw [hc, es, pt_cong (a := co C u m) ew2 ho, pt_cong (a := sm (of C u m b) 10) ew2 ho, ep3 o (by omega), ep3 (10 + o) (by omega), eof o ho]
  · unfold b2
    rw [eb1 o ho, eof o ho]
theorem bl_cong {C C' : Cr} {u n : Nat} (hum : um C' u = um C u) (hp : C' 200 27 = C 200 27) (hm : ∀ m, um C u ≤ m → m < n → sM C C' u m) : ∀ j, um C u + j ≤ n → ∀ o, o < 10 → bl C' u j o = bl C u j o
  | 0, _, _, _ => rfl
  | j + 1, hj, o, ho => by
    show b2 C' u (um C' u + j) (bl C' u j) o = b2 C u (um C u + j) (bl C u j) o
    rw [hum]
    exact (mo_cong (bl_cong hum hp hm j (by omega)) (hm _ (by omega) (by omega)) hp o ho).2
theorem du_cong {C C' : Cr} {u n : Nat} (hum : um C' u = um C u) (hp : C' 200 27 = C 200 27) (hm : ∀ m, um C u ≤ m → m < n → sM C C' u m) {m : Nat} (h1 : um C u ≤ m) (h2 : m < n) {o : Nat} (ho : o < 10) : du C' u m o = du C u m o := by
  unfold du
  rw [hum]
  exact (mo_cong (bl_cong hum hp hm (m - um C u) (by omega)) (hm _ h1 h2) hp o ho).1
theorem MO_new {C C' : Cr} {σ σ' : Mm} {u n n' : Nat} (hum : um C' u = um C u) (hp : C' 200 27 = C 200 27) (hm : ∀ m, um C u ≤ m → m < n → sM C C' u m) (h5 : gJ σ' (100 + 8 * u + 5) = gJ σ (100 + 8 * u + 5)) (h6 : gJ σ' (100 + 8 * u + 6) = gJ σ (100 + 8 * u + 6)) (h : MO σ C u n') (hn : n ≤ n') : MO σ' C' u n := fun m a b o ho => by
  rw [hum] at a
  rw [h5, h6, du_cong hum hp hm a b ho, hum, bl_cong hum hp hm (m - um C u + 1) (by omega) o ho]
  exact h m a (by omega) o ho
/-- rows alike -/
theorem ti_rows {C C' : Cr} (h2 : C' 202 = C 202) (h4 : C' 204 = C 204) (h5 : C' 205 = C 205) (h6 : C' 206 = C 206) (h7 : C' 207 = C 207) (h8 : C' 208 = C 208) (hn : C' 200 5 = C 200 5) (t : Nat) (o m : Int) : ti C' t o m = ti C t o m := by
  unfold ti tiN nD
  rw [h2, hn]
  congr 1
  exact sm_cong (fun k _ => tiT_eq (by rw [h4]) (by rw [h5]) (by rw [h6]) (by rw [h7]) (by rw [h8]))
theorem fst_cong {p q : Nat → Bool} : ∀ {n : Nat}, (∀ k, k < n → p k = q k) → fst p n = fst q n
  | 0, _ => rfl
  | n + 1, h => by
    have ih := fst_cong (p := p) (q := q) (n := n) (fun k hk => h k (by omega))
    show (match fst p n with | some k => some k | none => if p n then some n else none) = (match fst q n with | some k => some k | none => if q n then some n else none)
    rw [ih, h n (by omega)]
theorem gv_cong {C C' : Cr} {u : Int} {m : Nat} (hn : nW C' = nW C) (h : ∀ w, w < nW C → (C' 216 w = C 216 w ∧ C' 217 (61 * w + m) = C 217 (61 * w + m))) : gv C' u m ↔ gv C u m := by
  constructor
  · rintro ⟨w, a, b, c⟩
    rw [hn] at a
    have := h w a
    exact ⟨w, a, by omega, by omega⟩
  · rintro ⟨w, a, b, c⟩
    have := h w a
    exact ⟨w, by omega, by omega, by omega⟩
theorem hl_cong {C C' : Cr} {k m : Nat} (h9 : C' 209 k = C 209 k) (h13 : C' 213 k = C 213 k) (h14 : C' 214 k = C 214 k) (h3 : C' 203 (C 209 k).toNat = C 203 (C 209 k).toNat) (hg : ∀ (u : Int) j, j < m → (gv C' u j ↔ gv C u j)) : hl C' k m ↔ hl C k m := by
  constructor
  · rintro ⟨a, b⟩
    rw [h13] at a
    refine ⟨a, fun j hj hj2 => ?_⟩
    have := b j hj (by omega)
    rw [h9, h3] at this
    exact ⟨this.1, (hg _ j hj).mp this.2⟩
  · rintro ⟨a, b⟩
    refine ⟨by rw [h13]; exact a, fun j hj hj2 => ?_⟩
    have := b j hj (by omega)
    rw [h9, h3]
    exact ⟨this.1, (hg _ j hj).mpr this.2⟩
theorem lo_cong {C C' : Cr} {t o m : Nat} (hn : C' 200 11 = C 200 11) (h9 : C' 209 = C 209) (h10 : C' 210 = C 210) (h : ∀ k, k < nS C → C 209 k = t → (hl C' k m ↔ hl C k m)) : lo C' t o m = lo C t o m := by
  unfold lo
  have e : nS C' = nS C := by unfold nS; rw [hn]
  rw [e]
  refine fst_cong (fun k hk => ?_)
  unfold loB
  rw [decide_eq_decide, h9, h10]
  constructor
  · rintro ⟨a, b, c⟩
    exact ⟨a, b, (h k hk a).mp c⟩
  · rintro ⟨a, b, c⟩
    exact ⟨a, b, (h k hk a).mpr c⟩
theorem cbL_cong {C C' : Cr} {t o i : Nat} {w : Int} {l : Option Nat} (h : ∀ k, l = some k → C' 211 k = C 211 k ∧ C' 212 k = C 212 k) : cbL C' t o w i l = cbL C t o w i l := by
  cases l with
  | none => rfl
  | some k =>
    have := h k rfl
    show (if i = o then C' 212 k * w else 0) + (if (i : Int) = 10 + C' 211 k then (1000 - C' 212 k) * w else 0) = _
    rw [this.1, this.2]
    rfl
theorem cb_cong {C C' : Cr} {u : Int} {m t o i : Nat} (h3 : C' 203 t = u ↔ C 203 t = u) (h : C 203 t = u → C' 201 t = C 201 t ∧ ti C' t o m = ti C t o m ∧ lo C' t o m = lo C t o m ∧ ∀ k, k < nS C → C' 211 k = C 211 k ∧ C' 212 k = C 212 k) : cb C' u m t o i = cb C u m t o i := by
  by_cases q : C 203 t = u
  · obtain ⟨a, b, c, d⟩ := h q
    unfold cb
    rw [if_pos q, if_pos (h3.mpr q), a, b, c]
    exact cbL_cong (fun k hk => d k (fst_lt hk).1)
  · rw [cb_no q, cb_no (fun z => q (h3.mp z))]
theorem dk_cong {C C' : Cr} {u : Int} {m i : Nat} (hn : nT C' = nT C) (h : ∀ t, t < nT C → ∀ o, o < 10 → cb C' u m t o i = cb C u m t o i) : dk C' u m i = dk C u m i := by
  unfold dk
  rw [hn]
  exact sm_cong (fun t ht => sm_cong (fun o ho => h t ht o ho))
/-- decks where titles and leases are alike -/
theorem dk_rows {C C' : Cr} (hr : ∀ k, 201 ≤ k → k ≤ 214 → C' k = C k) (h1 : C' 200 1 = C 200 1) (h5 : C' 200 5 = C 200 5) (h11 : C' 200 11 = C 200 11) {m : Nat} (hg : ∀ (u : Int) j, j < m → (gv C' u j ↔ gv C u j)) (u : Int) (i : Nat) : dk C' u m i = dk C u m i := by
  have r := fun k (a : 201 ≤ k) (b : k ≤ 214) => hr k a b
  refine dk_cong (by unfold nT; rw [h1]) (fun t _ o _ => cb_cong (by rw [r 203 (by decide) (by decide)]) (fun _ => ⟨by rw [r 201 (by decide) (by decide)], ?_, ?_, fun k _ => ⟨by rw [r 211 (by decide) (by decide)], by rw [r 212 (by decide) (by decide)]⟩⟩))
  · exact ti_rows (r 202 (by decide) (by decide)) (r 204 (by decide) (by decide)) (r 205 (by decide) (by decide)) (r 206 (by decide) (by decide)) (r 207 (by decide) (by decide)) (r 208 (by decide) (by decide)) h5 _ _ _
  · refine lo_cong h11 (r 209 (by decide) (by decide)) (r 210 (by decide) (by decide)) (fun k _ _ => hl_cong ?_ ?_ ?_ ?_ hg)
    · rw [r 209 (by decide) (by decide)]
    · rw [r 213 (by decide) (by decide)]
    · rw [r 214 (by decide) (by decide)]
    · rw [r 203 (by decide) (by decide)]
theorem txn_cong {C C' : Cr} : ∀ {n : Nat}, (∀ j, j < n → C' 220 j = C 220 j) → txn C' n = txn C n
  | 0, _ => rfl
  | n + 1, h => by
    show (if C' 220 n = -1 then txn C' n else C' 220 n) = (if C 220 n = -1 then txn C n else C 220 n)
    rw [txn_cong (fun j hj => h j (by omega)), h n (by omega)]
theorem csn_cong {C C' : Cr} {u o : Nat} : ∀ {n : Nat}, (∀ j, j < n → C' 221 (610 * u + 61 * o + j) = C 221 (610 * u + 61 * o + j)) → csn C' u o n = csn C u o n
  | 0, _ => rfl
  | n + 1, h => by
    show (if C' 221 (610 * u + 61 * o + n) = 0 then csn C' u o n else C' 221 (610 * u + 61 * o + n)) = (if C 221 (610 * u + 61 * o + n) = 0 then csn C u o n else C 221 (610 * u + 61 * o + n))
    rw [csn_cong (fun j hj => h j (by omega)), h n (by omega)]
theorem gs_cong {C C' : Cr} {u : Int} {m : Nat} (hn : nW C' = nW C) (h : ∀ w, w < nW C → (C' 216 w = C 216 w ∧ C' 217 (61 * w + m) = C 217 (61 * w + m) ∧ C' 218 (61 * w + m) = C 218 (61 * w + m))) : gs C' u m = gs C u m := by
  unfold gs
  rw [hn]
  exact sm_cong (fun w hw => by rw [(h w hw).1, (h w hw).2.1, (h w hw).2.2])
theorem ba_cong {C C' : Cr} {u : Int} {m : Nat} (hn : nW C' = nW C) (h : ∀ w, w < nW C → (C' 216 w = C 216 w ∧ C' 217 (61 * w + m) = C 217 (61 * w + m))) : ba C' u m = ba C u m := by
  unfold ba
  rw [hn]
  exact sm_cong (fun w hw => by rw [(h w hw).1, (h w hw).2])
theorem co_cong {C C' : Cr} {u : Int} {m : Nat} (hn : nW C' = nW C) (h : ∀ w, w < nW C → (C' 216 w = C 216 w ∧ C' 219 (61 * w + m) = C 219 (61 * w + m))) : co C' u m = co C u m := by
  unfold co
  rw [hn]
  exact sm_cong (fun w hw => by rw [(h w hw).1, (h w hw).2])
theorem rv_cong {C C' : Cr} {u : Int} {m : Nat} (hg : gs C' u m = gs C u m) (ht : txn C' (m + 1) = txn C (m + 1)) : rv C' u m = rv C u m := by
  unfold rv
  rw [hg, ht]
