/-! PURE: what the document says, over the model's numbers -/
abbrev Cr : Type := Nat → Nat → Int
def core (τ : Mm) : Cr := fun k i => if k = 200 ∧ i = 39 then 0 else if 200 ≤ k ∧ k ≤ 222 then (gI τ k i).toInt else if k = 223 then (gJ τ k i).toInt else 0
def u2 (C : Cr) (k i : Nat) (v : Int) : Cr := fun a b => if a = k ∧ b = i then v else C a b
theorem core_I {τ : Mm} {k i : Nat} (h : 200 ≤ k) (h2 : k ≤ 222) (h3 : k ≠ 200 ∨ i ≠ 39) : gI τ k i = iZ (core τ k i) := by
  have e : core τ k i = (gI τ k i).toInt := by
    unfold core
    rw [if_neg (by omega), if_pos ⟨h, h2⟩]
  rw [e, iZ_toInt]
theorem core_J {τ : Mm} {i : Nat} : gJ τ 223 i = lZ (core τ 223 i) := by
  have e : core τ 223 i = (gJ τ 223 i).toInt := by
    unfold core
    rw [if_neg (by omega), if_neg (by omega), if_pos rfl]
  rw [e, lZ_toInt]
theorem core_rg (τ : Mm) (k i : Nat) (h : k ≠ 223) : -2147483648 ≤ core τ k i ∧ core τ k i < 2147483648 := by
  unfold core
  split
  · omega
  · split
    · exact rg32 _
    · first | omega | (split <;> omega)
theorem core_sI {τ : Mm} {k i : Nat} {v : Int32} (h : 200 ≤ k) (h2 : k ≤ 222) (h3 : k ≠ 200 ∨ i ≠ 39) : core (sI τ k i v) = u2 (core τ) k i v.toInt := by
  funext a b
  unfold core u2
  rw [gI_sI, gJ_sI]
  by_cases e : a = k ∧ b = i
  · obtain ⟨rfl, rfl⟩ := e
    rw [if_neg (by omega), if_pos ⟨h, h2⟩, if_pos ⟨rfl, rfl⟩, if_pos ⟨rfl, rfl⟩]
  · rw [if_neg e, if_neg e]
theorem core_sJ {τ : Mm} {i : Nat} {v : Int64} : core (sJ τ 223 i v) = u2 (core τ) 223 i v.toInt := by
  funext a b
  simp only [core, u2, gI_sJ, gJ_sJ]
  by_cases q : a = 223
  · subst q; by_cases e : b = i <;> simp [e]
  · simp [q]
/-- scratch cells don't count -/
theorem core_oI {τ : Mm} {k i : Nat} {v : Int32} (h : k < 200 ∨ 222 < k ∨ (k = 200 ∧ i = 39)) : core (sI τ k i v) = core τ := by
  funext a b
  simp only [core, gI_sI, gJ_sI]
  by_cases e : a = k ∧ b = i
  · obtain ⟨rfl, rfl⟩ := e
    have hn : ¬ (200 ≤ a ∧ a ≤ 222) ∨ (a = 200 ∧ b = 39) := by omega
    rcases hn with hn | hn
    · simp only [hn, if_false]
    · simp only [hn, and_self, if_true]
  · simp only [e, if_false]
theorem core_oJ {τ : Mm} {k i : Nat} {v : Int64} (h : k ≠ 223) : core (sJ τ k i v) = core τ := by
  funext a b
  simp only [core, gI_sJ, gJ_sJ]
  by_cases q : a = 223
  · subst q
    have hn : ¬ (223 = k ∧ b = i) := by omega
    simp only [hn, if_false]
  · simp [q]
def nT (C : Cr) : Nat := (C 200 1).toNat
def nD (C : Cr) : Nat := (C 200 5).toNat
def nS (C : Cr) : Nat := (C 200 11).toNat
def nU (C : Cr) : Nat := (C 200 18).toNat
def nW (C : Cr) : Nat := (C 200 20).toNat
def nN (C : Cr) : Nat := (C 200 0).toNat
/-- titles: what deed k does to the title of o to t in the month m -/
def tiT (C : Cr) (t o m : Int) (k : Nat) : Int := if C 204 k = t ∧ C 208 k ≤ m then (if C 206 k = o then C 207 k else 0) - (if C 205 k = o then C 207 k else 0) else 0
def tiN (C : Cr) (t : Nat) (o m : Int) (n : Nat) : Int := (if C 202 t = o then 10000 else 0) + sm (tiT C t o m) n
def ti (C : Cr) (t : Nat) (o m : Int) : Int := tiN C t o m (nD C)
/-- some well of the unit gave oil -/
abbrev gv (C : Cr) (u : Int) (m : Nat) : Prop := ∃ w, w < nW C ∧ (C 216 w = u ∧ 0 < C 217 (61 * w + m))
/-- lease k is in force in the month m -/
abbrev hl (C : Cr) (k m : Nat) : Prop := C 213 k ≤ m ∧ ∀ j, j < m → (C 213 k + C 214 k - 1 ≤ j → (C 203 (C 209 k).toNat ≠ -1 ∧ gv C (C 203 (C 209 k).toNat) j))
/-- the first place -/
def fst (p : Nat → Bool) : Nat → Option Nat
  | 0 => none
  | n + 1 => match fst p n with
    | some k => some k
    | none => if p n then some n else none
def loB (C : Cr) (t o m k : Nat) : Bool := decide (C 209 k = t ∧ C 210 k = o ∧ hl C k m)
/-- the lease that counts -/
def lo (C : Cr) (t o m : Nat) : Option Nat := fst (loB C t o m) (nS C)
/-- what tract t and owner o bring into place i of the deck -/
def cbL (C : Cr) (t o : Nat) (w : Int) (i : Nat) : Option Nat → Int
  | none => if i = 10 + o then 1000 * w else 0
  | some k => (if i = o then C 212 k * w else 0) + (if (i : Int) = 10 + C 211 k then (1000 - C 212 k) * w else 0)
def cb (C : Cr) (u : Int) (m t o i : Nat) : Int := if C 203 t = u then cbL C t o (C 201 t * ti C t o m) i (lo C t o m) else 0
def dk (C : Cr) (u : Int) (m i : Nat) : Int := sm (fun t => sm (fun o => cb C u m t o i) 10) (nT C)
/-- the tax of month n - 1 -/
def txn (C : Cr) : Nat → Int
  | 0 => 0
  | n + 1 => if C 220 n = -1 then txn C n else C 220 n
/-- the vote behind n months -/
def csn (C : Cr) (u o : Nat) : Nat → Int
  | 0 => 1
  | n + 1 => if C 221 (610 * u + 61 * o + n) = 0 then csn C u o n else C 221 (610 * u + 61 * o + n)
def gs (C : Cr) (u : Int) (m : Nat) : Int := sm (fun w => if C 216 w = u then C 217 (61 * w + m) * C 218 (61 * w + m) else 0) (nW C)
def rv (C : Cr) (u : Int) (m : Nat) : Int := gs C u m - gs C u m * txn C (m + 1) / 100
def co (C : Cr) (u : Int) (m : Nat) : Int := sm (fun w => if C 216 w = u then C 219 (61 * w + m) else 0) (nW C)
/-- parting: the greatest rest of the first n, the first one of several -/
def bx (r : Nat → Int) : Nat → Nat
  | 0 => 0
  | n + 1 => if r (bx r n) < r n then n else bx r n
def rd (n : Nat) (s : (Nat → Int) × (Nat → Int)) : (Nat → Int) × (Nat → Int) := (fun j => if j = bx s.2 n then s.1 j + 1 else s.1 j, fun j => if j = bx s.2 n then -1 else s.2 j)
def rdn (n : Nat) (s : (Nat → Int) × (Nat → Int)) : Nat → (Nat → Int) × (Nat → Int)
  | 0 => s
  | j + 1 => rd n (rdn n s j)
def ptA (a : Int) (w : Nat → Int) (n : Nat) : (Nat → Int) × (Nat → Int) := (fun j => a * w j / sm w n, fun j => a * w j % sm w n)
def ptL (a : Int) (w : Nat → Int) (n : Nat) : Nat := (a - sm (fun j => a * w j / sm w n) n).toNat
def pt (a : Int) (w : Nat → Int) (n : Nat) : Nat → Int := (rdn n (ptA a w n) (ptL a w n)).1
/-- a month of a unit -/
abbrev cq (C : Cr) (u m : Nat) (b : Nat → Int) (o : Nat) : Prop := 0 < b o ∨ csn C u o (m + 1) ≠ 1
abbrev isS (C : Cr) (u m : Nat) (b : Nat → Int) : Prop := ∃ o, o < 10 ∧ (0 < dk C u m (10 + o) ∧ ¬ cq C u m b o)
abbrev ca (C : Cr) (u m : Nat) (b : Nat → Int) (o : Nat) : Prop := 0 < dk C u m (10 + o) ∧ cq C u m b o ∧ isS C u m b
def w1 (C : Cr) (u m : Nat) (o : Nat) : Int := dk C u m (10 + o)
def w2 (C : Cr) (u m : Nat) (b : Nat → Int) (o : Nat) : Int := if ca C u m b o then 0 else dk C u m (10 + o)
def b1 (C : Cr) (u m : Nat) (b : Nat → Int) (o : Nat) : Int := b o + if ca C u m b o then pt (co C u m) (w1 C u m) 10 o * C 200 27 / 100 else 0
def p3 (C : Cr) (u m : Nat) : Nat → Int := pt (rv C u m) (dk C u m) 20
def of (C : Cr) (u m : Nat) (b : Nat → Int) (o : Nat) : Int := if ca C u m b o then (if p3 C u m (10 + o) < b1 C u m b o then p3 C u m (10 + o) else b1 C u m b o) else 0
def b2 (C : Cr) (u m : Nat) (b : Nat → Int) (o : Nat) : Int := b1 C u m b o - of C u m b o
def ds (C : Cr) (u m : Nat) (b : Nat → Int) (o : Nat) : Int := -pt (co C u m) (w2 C u m b) 10 o + (p3 C u m o + p3 C u m (10 + o) - of C u m b o) + pt (sm (of C u m b) 10) (w2 C u m b) 10 o
def um (C : Cr) (u : Nat) : Nat := (C 215 u).toNat
/-- balances of a unit behind its first j months -/
def bl (C : Cr) (u : Nat) : Nat → Nat → Int
  | 0 => fun _ => 0
  | j + 1 => b2 C u (um C u + j) (bl C u j)
def du (C : Cr) (u m : Nat) : Nat → Int := ds C u m (bl C u (m - um C u))
def ow (C : Cr) (o : Nat) : Int := -C 223 o + sm (fun u => sm (fun j => du C u (um C u + j) o) (nN C + 1 - um C u)) (nU C)
