/-! PURE: numbers, sums, loops -/
def iZ (z : Int) : Int32 := Int32.ofInt z
def lZ (z : Int) : Int64 := Int64.ofInt z
theorem rg32 (x : Int32) : -2147483648 ≤ x.toInt ∧ x.toInt < 2147483648 := by
  have h1 := Int32.le_toInt x
  have h2 := Int32.toInt_lt x
  omega
theorem rg64 (x : Int64) : -9223372036854775808 ≤ x.toInt ∧ x.toInt < 9223372036854775808 := by
  have h1 := Int64.le_toInt x
  have h2 := Int64.toInt_lt x
  omega
theorem iZ_toInt (x : Int32) : iZ x.toInt = x := Int32.ofInt_toInt x
theorem lZ_toInt (x : Int64) : lZ x.toInt = x := Int64.ofInt_toInt x
theorem toInt_iZ {z : Int} (h1 : -2147483648 ≤ z) (h2 : z < 2147483648) : (iZ z).toInt = z := by
  unfold iZ; rw [Int32.toInt_ofInt, show (Int32.size : Nat) = 4294967296 from rfl, Int.bmod_eq_of_le (by omega) (by omega)]
theorem toInt_lZ {z : Int} (h1 : -9223372036854775808 ≤ z) (h2 : z < 9223372036854775808) : (lZ z).toInt = z := by
  unfold lZ; rw [Int64.toInt_ofInt, show (Int64.size : Nat) = 18446744073709551616 from rfl, Int.bmod_eq_of_le (by omega) (by omega)]
theorem iZ_add (a b : Int) : iZ a + iZ b = iZ (a + b) := by
  apply Int32.toInt_inj.mp; unfold iZ; rw [Int32.toInt_add]; simp only [Int32.toInt_ofInt]; simp
theorem iZ_sub (a b : Int) : iZ a - iZ b = iZ (a - b) := by
  apply Int32.toInt_inj.mp; unfold iZ; rw [Int32.toInt_sub]; simp only [Int32.toInt_ofInt]; simp
theorem iZ_mul (a b : Int) : iZ a * iZ b = iZ (a * b) := by
  apply Int32.toInt_inj.mp; unfold iZ; rw [Int32.toInt_mul]; simp only [Int32.toInt_ofInt]; simp
theorem iZ_neg (a : Int) : -iZ a = iZ (-a) := by
  apply Int32.toInt_inj.mp; unfold iZ; rw [Int32.toInt_neg]; simp only [Int32.toInt_ofInt]; simp
theorem lZ_add (a b : Int) : lZ a + lZ b = lZ (a + b) := by
  apply Int64.toInt_inj.mp; unfold lZ; rw [Int64.toInt_add]; simp only [Int64.toInt_ofInt]; simp
theorem lZ_sub (a b : Int) : lZ a - lZ b = lZ (a - b) := by
  apply Int64.toInt_inj.mp; unfold lZ; rw [Int64.toInt_sub]; simp only [Int64.toInt_ofInt]; simp
theorem lZ_mul (a b : Int) : lZ a * lZ b = lZ (a * b) := by
  apply Int64.toInt_inj.mp; unfold lZ; rw [Int64.toInt_mul]; simp only [Int64.toInt_ofInt]; simp
theorem lZ_neg (a : Int) : -lZ a = lZ (-a) := by
  apply Int64.toInt_inj.mp; unfold lZ; rw [Int64.toInt_neg]; simp only [Int64.toInt_ofInt]; simp
theorem i2l (x : Int32) : x.toInt64 = lZ x.toInt := by
  apply Int64.toInt_inj.mp
  have := rg32 x
  rw [Int32.toInt_toInt64, toInt_lZ (by omega) (by omega)]
theorem iZ_l {z : Int} (h1 : -2147483648 ≤ z) (h2 : z < 2147483648) : (iZ z).toInt64 = lZ z := by rw [i2l, toInt_iZ h1 h2]
theorem lZ_i (z : Int) : (lZ z).toInt32 = iZ z := by
  apply Int32.toInt_inj.mp
  unfold lZ iZ
  rw [Int64.toInt_toInt32, Int64.toInt_ofInt, Int32.toInt_ofInt]
  exact Int.bmod_bmod_of_dvd (by decide)
theorem iZ_inj {a b : Int} (h1 : -2147483648 ≤ a) (h2 : a < 2147483648) (h3 : -2147483648 ≤ b) (h4 : b < 2147483648) : iZ a = iZ b ↔ a = b := by
  constructor
  · intro h; have := congrArg Int32.toInt h; rwa [toInt_iZ h1 h2, toInt_iZ h3 h4] at this
  · intro h; rw [h]
theorem lZ_inj {a b : Int} (h1 : -9223372036854775808 ≤ a) (h2 : a < 9223372036854775808) (h3 : -9223372036854775808 ≤ b) (h4 : b < 9223372036854775808) : lZ a = lZ b ↔ a = b := by
  constructor
  · intro h; have := congrArg Int64.toInt h; rwa [toInt_lZ h1 h2, toInt_lZ h3 h4] at this
  · intro h; rw [h]
theorem iZ_le {a b : Int} (h1 : -2147483648 ≤ a) (h2 : a < 2147483648) (h3 : -2147483648 ≤ b) (h4 : b < 2147483648) : iZ a ≤ iZ b ↔ a ≤ b := by rw [Int32.le_iff_toInt_le, toInt_iZ h1 h2, toInt_iZ h3 h4]
theorem iZ_lt {a b : Int} (h1 : -2147483648 ≤ a) (h2 : a < 2147483648) (h3 : -2147483648 ≤ b) (h4 : b < 2147483648) : iZ a < iZ b ↔ a < b := by rw [Int32.lt_iff_toInt_lt, toInt_iZ h1 h2, toInt_iZ h3 h4]
theorem lZ_le {a b : Int} (h1 : -9223372036854775808 ≤ a) (h2 : a < 9223372036854775808) (h3 : -9223372036854775808 ≤ b) (h4 : b < 9223372036854775808) : lZ a ≤ lZ b ↔ a ≤ b := by rw [Int64.le_iff_toInt_le, toInt_lZ h1 h2, toInt_lZ h3 h4]
theorem lZ_lt {a b : Int} (h1 : -9223372036854775808 ≤ a) (h2 : a < 9223372036854775808) (h3 : -9223372036854775808 ≤ b) (h4 : b < 9223372036854775808) : lZ a < lZ b ↔ a < b := by rw [Int64.lt_iff_toInt_lt, toInt_lZ h1 h2, toInt_lZ h3 h4]
theorem lZ_div {a b : Int} (h1 : 0 ≤ a) (h2 : a < 9223372036854775808) (h3 : 0 < b) (h4 : b < 9223372036854775808) : lZ a / lZ b = lZ (a / b) := by
  have e1 : a = ((a.toNat : Nat) : Int) := by omega
  have e2 : b = ((b.toNat : Nat) : Int) := by omega
  have k := pk_lDiv (a := a.toNat) (b := b.toNat) (by omega) (by omega) (by omega)
  have f : ∀ n : Nat, lN n = lZ (n : Int) := fun n => by unfold lN lZ; exact (Int64.ofInt_eq_ofNat).symm
  rw [f, f, f] at k
  rw [e1, e2]
  rw [k]
  congr 1
theorem lZ_rem {a b : Int} (h1 : 0 ≤ a) (h2 : a < 9223372036854775808) (h3 : 0 < b) (h4 : b < 9223372036854775808) : lZ a - lZ a / lZ b * lZ b = lZ (a % b) := by
  rw [lZ_div h1 h2 h3 h4, lZ_mul, lZ_sub]
  congr 1
  have := Int.emod_add_mul_ediv a b
  have e : a / b * b = b * (a / b) := Int.mul_comm _ _
  omega
theorem vi {z : Int} {n : Nat} (h1 : -2147483648 ≤ z) (h2 : z < 2147483648) : vp_in (iZ z) n ↔ 0 ≤ z ∧ z < n := by rw [vp_in_iff, toInt_iZ h1 h2]
theorem vi_of {z : Int} {n : Nat} (h1 : 0 ≤ z) (h2 : z < n) (h3 : n < 2147483648) : vp_in (iZ z) n := (vi (by omega) (by omega)).mpr ⟨h1, h2⟩
theorem cl_iZ {z : Int} (h1 : -2147483648 ≤ z) (h2 : z < 2147483648) : (iZ z).toNatClampNeg = z.toNat := by
  show (iZ z).toInt.toNat = z.toNat
  rw [toInt_iZ h1 h2]
theorem cl_n {n : Nat} (h2 : n < 2147483648) : (iZ (n : Int)).toNatClampNeg = n := by rw [cl_iZ (by omega) (by omega)]; omega
theorem cl_x (x : Int32) : x.toNatClampNeg = x.toInt.toNat := rfl
theorem iZ_0 : (0 : Int32) = iZ 0 := rfl
theorem iZ_1 : (1 : Int32) = iZ 1 := rfl
theorem lZ_0 : (0 : Int64) = lZ 0 := rfl
theorem zb_0 : zb 0 := rfl
theorem zb_1 : zb 1 := rfl
theorem zb_if (c : Prop) [Decidable c] : zb (if c then 1 else 0) := by split <;> rfl
/-- a loop whose states are known -/
theorem lpw_f {S : Type} {body : (S → Prop) → S → Prop} (f : Nat → S) (N : Nat) {s0 : S} (h0 : s0 = f 0) (step : ∀ (i : Nat) (rec : S → Prop), i ≤ N → (i < N → ∀ s', s' = f (i + 1) → rec s') → body rec (f i)) : ∃ n : Nat, lpw body n s0 := by
  subst h0
  refine ⟨N + 1, ?_⟩
  have hk : ∀ (k i : Nat), i + k = N → lpw body (k + 1) (f i) := by
    intro k
    induction k with
    | zero => intro i hi; exact step i _ (by omega) (fun h => absurd h (by omega))
    | succ k ih => intro i hi; exact step i _ (by omega) (fun _ s' e => by rw [e]; exact ih (i + 1) (by omega))
  exact hk N 0 (by omega)
/-- a loop with an invariant -/
theorem lpw_inv {S : Type} {body : (S → Prop) → S → Prop} (I : Nat → S → Prop) (N : Nat) {s0 : S} (h0 : I 0 s0) (step : ∀ (i : Nat) (s : S) (rec : S → Prop), i ≤ N → I i s → (i < N → ∀ s', I (i + 1) s' → rec s') → body rec s) : ∃ n : Nat, lpw body n s0 := by
  refine ⟨N + 1, ?_⟩
  have hk : ∀ (k i : Nat) (s : S), i + k = N → I i s → lpw body (k + 1) s := by
    intro k
    induction k with
    | zero => intro i s hi hs; exact step i s _ (by omega) hs (fun h => absurd h (by omega))
    | succ k ih => intro i s hi hs; exact step i s _ (by omega) hs (fun _ s' e => ih (i + 1) s' (by omega) e)
  exact hk N 0 s0 (by omega) h0
/-- joins -/
theorem jn0 {A : Prop → Prop} {r : Prop} (h : A r) : ∃ J : Prop, (J → r) ∧ A J := ⟨r, fun h => h, h⟩
theorem jn1 {X : Type} {A : (X → Prop) → Prop} {r : X → Prop} (h : A r) : ∃ J : X → Prop, (∀ x, J x → r x) ∧ A J := ⟨r, fun _ h => h, h⟩
theorem jn2 {X Y : Type} {A : (X → Y → Prop) → Prop} {r : X → Y → Prop} (h : A r) : ∃ J : X → Y → Prop, (∀ x y, J x y → r x y) ∧ A J := ⟨r, fun _ _ h => h, h⟩
theorem jn3 {X Y Z : Type} {A : (X → Y → Z → Prop) → Prop} {r : X → Y → Z → Prop} (h : A r) : ∃ J : X → Y → Z → Prop, (∀ x y z, J x y z → r x y z) ∧ A J := ⟨r, fun _ _ _ h => h, h⟩
/-- branches -/
theorem br_if {c : Prop} [Decidable c] {X : Type} {J : X → Prop} {a b : X} (h : J (if c then a else b)) : (c → J a) ∧ (¬ c → J b) := ⟨fun q => by rwa [if_pos q] at h, fun q => by rwa [if_neg q] at h⟩
theorem br_ifn {c : Prop} [Decidable c] {X : Type} {J : X → Prop} {a b : X} (h : J (if c then a else b)) : (¬ c → J b) ∧ (¬ ¬ c → J a) := ⟨fun q => by rwa [if_neg q] at h, fun q => by rwa [if_pos (Decidable.not_not.mp q)] at h⟩
theorem br_y {c A B : Prop} (hc : c) (h : A) : (c → A) ∧ (¬ c → B) := ⟨fun _ => h, fun q => absurd hc q⟩
theorem br_n {c A B : Prop} (hc : ¬ c) (h : B) : (c → A) ∧ (¬ c → B) := ⟨fun q => absurd q hc, fun _ => h⟩
/-- sums -/
def sm (f : Nat → Int) : Nat → Int
  | 0 => 0
  | n + 1 => sm f n + f n
theorem sm_0 (f : Nat → Int) : sm f 0 = 0 := rfl
theorem sm_s (f : Nat → Int) (n : Nat) : sm f (n + 1) = sm f n + f n := rfl
theorem sm_cong {f g : Nat → Int} : ∀ {n : Nat}, (∀ k, k < n → f k = g k) → sm f n = sm g n
  | 0, _ => rfl
  | n + 1, h => by rw [sm_s, sm_s, sm_cong (fun k hk => h k (by omega)), h n (by omega)]
theorem sm_add (f g : Nat → Int) : ∀ n, sm (fun k => f k + g k) n = sm f n + sm g n
  | 0 => rfl
  | n + 1 => by rw [sm_s, sm_s, sm_s, sm_add f g n]; omega
theorem sm_sub (f g : Nat → Int) : ∀ n, sm (fun k => f k - g k) n = sm f n - sm g n
  | 0 => rfl
  | n + 1 => by rw [sm_s, sm_s, sm_s, sm_sub f g n]; omega
theorem sm_mul (c : Int) (f : Nat → Int) : ∀ n, sm (fun k => c * f k) n = c * sm f n
  | 0 => by rw [sm_0, sm_0, Int.mul_zero]
  | n + 1 => by rw [sm_s, sm_s, sm_mul c f n, Int.mul_add]
theorem sm_zero {f : Nat → Int} : ∀ {n : Nat}, (∀ k, k < n → f k = 0) → sm f n = 0
  | 0, _ => rfl
  | n + 1, h => by rw [sm_s, sm_zero (fun k hk => h k (by omega)), h n (by omega)]; rfl
theorem sm_nn {f : Nat → Int} : ∀ {n : Nat}, (∀ k, k < n → 0 ≤ f k) → 0 ≤ sm f n
  | 0, _ => Int.le_refl 0
  | n + 1, h => by
    have h1 := sm_nn (f := f) (n := n) (fun k hk => h k (by omega))
    have h2 := h n (by omega)
    rw [sm_s]; omega
theorem sm_le {f g : Nat → Int} : ∀ {n : Nat}, (∀ k, k < n → f k ≤ g k) → sm f n ≤ sm g n
  | 0, _ => Int.le_refl 0
  | n + 1, h => by
    have h1 := sm_le (f := f) (g := g) (n := n) (fun k hk => h k (by omega))
    have h2 := h n (by omega)
    rw [sm_s, sm_s]; omega
theorem sm_const (c : Int) : ∀ n, sm (fun _ => c) n = n * c
  | 0 => by simp [sm]
  | n + 1 => by rw [sm_s, sm_const c n]; simp [Int.add_mul]
theorem sm_part {f : Nat → Int} {n : Nat} (h : ∀ k, k < n → 0 ≤ f k) {i : Nat} (hi : i < n) : f i ≤ sm f n := by
  induction n with
  | zero => omega
  | succ n ih =>
    rw [sm_s]
    by_cases e : i = n
    · subst e
      have := sm_nn (f := f) (n := i) (fun k hk => h k (by omega))
      omega
    · have h1 := ih (fun k hk => h k (by omega)) (by omega)
      have h2 := h n (by omega)
      omega
theorem sm_one {a : Nat} {x : Int} : ∀ {n : Nat}, sm (fun k => if k = a then x else 0) n = if a < n then x else 0
  | 0 => by simp [sm]
  | n + 1 => by
    rw [sm_s, sm_one]
    by_cases h : n = a
    · subst h; simp
    · by_cases h2 : a < n
      · simp [h, h2, show a < n + 1 by omega]
      · simp [h, h2, show ¬ a < n + 1 by omega]
theorem sm_swap (f : Nat → Nat → Int) (n : Nat) : ∀ m, sm (fun i => sm (fun j => f i j) n) m = sm (fun j => sm (fun i => f i j) m) n
  | 0 => by rw [sm_0]; exact (sm_zero (fun k _ => sm_0 _)).symm
  | m + 1 => by
    rw [sm_s, sm_swap f n m, ← sm_add]
    rfl
theorem sm_pos {f : Nat → Int} {n : Nat} (h : ∀ k, k < n → 0 ≤ f k) {i : Nat} (hi : i < n) (hp : 0 < f i) : 0 < sm f n := by
  have := sm_part h hi
  omega
