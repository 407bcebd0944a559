/-! PURE: bits -/
def bt (a : Int32) (t : Nat) : Bool := a.toBitVec.getLsbD t
theorem sh_ix {t : Nat} (h : t < 32) : (iZ (t : Int) &&& 31).toBitVec.smod 32 = BitVec.ofNat 32 t := by
  have : ∀ t : Fin 32, (iZ (t.1 : Int) &&& 31).toBitVec.smod 32 = BitVec.ofNat 32 t.1 := by decide
  exact this ⟨t, h⟩
theorem sh_bv (a : Int32) {t : Nat} (h : t < 32) : (a >>> (iZ (t : Int) &&& 31)).toBitVec = a.toBitVec.sshiftRight t := by
  rw [Int32.toBitVec_shiftRight, sh_ix h]
  show a.toBitVec.sshiftRight (BitVec.ofNat 32 t).toNat = _
  rw [BitVec.toNat_ofNat, Nat.mod_eq_of_lt (by omega)]
theorem sh_T (a : Int32) {t : Nat} (h : t < 32) : (a >>> (iZ (t : Int) &&& 31)).toInt = a.toInt / (2 ^ t : Nat) := by
  show (a >>> (iZ (t : Int) &&& 31)).toBitVec.toInt = _
  rw [sh_bv a h, BitVec.toInt_sshiftRight, Int.shiftRight_eq_div_pow]
  rfl
theorem hb_1 (a : Int32) {t : Nat} (h : t < 32) : ((a >>> (iZ (t : Int) &&& 31)) &&& 1) = if bt a t then 1 else 0 := by
  apply Int32.toBitVec_inj.mp
  rw [Int32.toBitVec_and, sh_bv a h]
  apply BitVec.eq_of_getLsbD_eq
  intro i hi
  rw [BitVec.getLsbD_and, BitVec.getLsbD_sshiftRight]
  by_cases q : bt a t
  · rw [if_pos q]
    unfold bt at q
    by_cases e : i = 0
    · subst e
      simp [h, q]
    · have z : ((1 : Int32).toBitVec).getLsbD i = false := by
        show (1#32).getLsbD i = false
        simp [e]
      rw [z, Bool.and_false]
  · rw [if_neg q]
    unfold bt at q
    by_cases e : i = 0
    · subst e
      simp [h]
      simpa [BitVec.getLsbD_eq_getElem h] using q
    · have z : ((1 : Int32).toBitVec).getLsbD i = false := by
        show (1#32).getLsbD i = false
        simp [e]
      rw [z, Bool.and_false]
      simp
theorem sl_bv (a : Int32) {t : Nat} (h : t < 32) : (a <<< (iZ (t : Int) &&& 31)).toBitVec = a.toBitVec <<< t := by
  rw [Int32.toBitVec_shiftLeft, sh_ix h]
  show a.toBitVec <<< (BitVec.ofNat 32 t).toNat = _
  rw [BitVec.toNat_ofNat, Nat.mod_eq_of_lt (by omega)]
theorem one_bit {t i : Nat} (h : t < 32) : (((1 : Int32).toBitVec) <<< t).getLsbD i = decide (i = t) := by
  rw [BitVec.getLsbD_shiftLeft]
  show (decide (i < 32) && !decide (i < t) && (1#32).getLsbD (i - t)) = _
  by_cases e : i = t
  · subst e; simp [h]
  · by_cases k : i < t
    · simp [k, e]
    · have : i - t ≠ 0 := by omega
      simp [k, e, this]
theorem wb_1 (a : Int32) {t : Nat} (h : t < 32) (i : Nat) : bt (a ||| ((1 : Int32) <<< (iZ (t : Int) &&& 31))) i = (bt a i || decide (i = t)) := by
  unfold bt
  rw [Int32.toBitVec_or, BitVec.getLsbD_or, sl_bv 1 h, one_bit h]
theorem wb_0 (a : Int32) {t : Nat} (h : t < 32) {i : Nat} (hi : i < 32) : bt (a &&& (((1 : Int32) <<< (iZ (t : Int) &&& 31)) ^^^ (-1))) i = (bt a i && !decide (i = t)) := by
  unfold bt
  rw [Int32.toBitVec_and, BitVec.getLsbD_and, Int32.toBitVec_xor, BitVec.getLsbD_xor, sl_bv 1 h, one_bit h]
  have z : ((-1 : Int32).toBitVec).getLsbD i = true := by
    have : ∀ i : Fin 32, ((-1 : Int32).toBitVec).getLsbD i.1 = true := by decide
    exact this ⟨i, hi⟩
  rw [z]
  simp
theorem ush_0 (a : Int32) {t : Nat} (h : t < 32) : ((a.toUInt32 >>> ((iZ (t : Int)).toUInt32 &&& Int32.toUInt32 31)).toInt32 = 0) ↔ a.toUInt32.toNat < 2 ^ t := by
  have e : ((iZ (t : Int)).toUInt32 &&& Int32.toUInt32 31) = UInt32.ofNat t := by
    have : ∀ t : Fin 32, ((iZ (t.1 : Int)).toUInt32 &&& Int32.toUInt32 31) = UInt32.ofNat t.1 := by decide
    exact this ⟨t, h⟩
  rw [e]
  have e2 : (a.toUInt32 >>> UInt32.ofNat t).toNat = a.toUInt32.toNat / 2 ^ t := by
    rw [UInt32.toNat_shiftRight, show (UInt32.ofNat t).toNat = t from Nat.mod_eq_of_lt (Nat.lt_trans h (by decide)), Nat.mod_eq_of_lt h, Nat.shiftRight_eq_div_pow]
  constructor
  · intro q
    have q2 : (a.toUInt32 >>> UInt32.ofNat t).toNat = 0 := by
      have := congrArg (fun x : Int32 => x.toUInt32.toNat) q
      exact this
    rw [e2] at q2
    exact (Nat.div_eq_zero_iff_lt (by exact Nat.two_pow_pos t)).mp q2
  · intro q
    have q2 : (a.toUInt32 >>> UInt32.ofNat t).toNat = 0 := by rw [e2]; exact Nat.div_eq_of_lt q
    have q3 : a.toUInt32 >>> UInt32.ofNat t = 0 := UInt32.toNat_inj.mp q2
    rw [q3]; rfl
/-- a set of tracts: the same for both shifts -/
theorem set_ok (a : Int32) {t : Nat} (h : t ≤ 8) : (¬ a = 0 ∧ a.toUInt32.toNat < 2 ^ t) ↔ (1 ≤ a.toInt ∧ a.toInt < (2 ^ t : Nat)) := by
  have ht : (2 ^ t : Nat) ≤ 256 := by
    have : ∀ t : Fin 9, (2 ^ t.1 : Nat) ≤ 256 := by decide
    exact this ⟨t, by omega⟩
  have e1 : a.toInt = if a.toUInt32.toNat < 2147483648 then (a.toUInt32.toNat : Int) else (a.toUInt32.toNat : Int) - 4294967296 := by
    show a.toBitVec.toInt = _
    rw [BitVec.toInt_eq_toNat_cond]
    show (if 2 * a.toBitVec.toNat < 2 ^ 32 then _ else _) = _
    have : a.toUInt32.toNat = a.toBitVec.toNat := rfl
    rw [this]
    split <;> split <;> omega
  have e2 : a = 0 ↔ a.toUInt32.toNat = 0 := by
    rw [← Int32.toInt_inj, e1]
    have := a.toUInt32.toNat_lt
    show _ = (0 : Int) ↔ _
    split <;> omega
  have := a.toUInt32.toNat_lt
  rw [e2, e1]
  split <;> omega
theorem bt_hi {a : Int32} {t : Nat} (h1 : 1 ≤ a.toInt) (h2 : a.toInt < (2 ^ t : Nat)) (ht : t ≤ 8) {i : Nat} (hi : t ≤ i) : bt a i = false := by
  have e := (set_ok a ht).mpr ⟨h1, h2⟩
  unfold bt
  have e3 : a.toBitVec.toNat < 2 ^ i := Nat.lt_of_lt_of_le e.2 (Nat.pow_le_pow_right (by decide) hi)
  exact Nat.testBit_lt_two_pow e3
theorem bt_some {a : Int32} {t : Nat} (h1 : 1 ≤ a.toInt) (h2 : a.toInt < (2 ^ t : Nat)) (ht : t ≤ 8) : ∃ i, i < t ∧ bt a i = true := by
  apply Classical.byContradiction
  intro hn
  have z : a.toBitVec = 0#32 := by
    apply BitVec.eq_of_getLsbD_eq
    intro i hi
    rw [BitVec.getLsbD_zero]
    by_cases q : i < t
    · cases e : a.toBitVec.getLsbD i with
      | false => rfl
      | true => exact absurd ⟨i, q, e⟩ hn
    · exact bt_hi h1 h2 ht (by omega)
  have e0 : a = 0 := Int32.toBitVec_inj.mp z
  rw [e0] at h1
  exact absurd h1 (by decide)
