/-! THE PURE MEMORY: numbered slots; ints gI, longs gJ, references gR (to slots)-/
abbrev Mm : Type := (Nat → Nat → Int32) × (Nat → Nat → Int64) × (Nat → Nat → Option Nat)
def gI (σ : Mm) (k i : Nat) : Int32 := σ.1 k i
def gJ (σ : Mm) (k i : Nat) : Int64 := σ.2.1 k i
def gR (σ : Mm) (k i : Nat) : Option Nat := σ.2.2 k i
def sI (σ : Mm) (k i : Nat) (v : Int32) : Mm := (fun a b => if a = k ∧ b = i then v else σ.1 a b, σ.2)
def sJ (σ : Mm) (k i : Nat) (v : Int64) : Mm := (σ.1, fun a b => if a = k ∧ b = i then v else σ.2.1 a b, σ.2.2)
def sR (σ : Mm) (k i : Nat) (v : Option Nat) : Mm := (σ.1, σ.2.1, fun a b => if a = k ∧ b = i then v else σ.2.2 a b)
theorem gI_sI (σ : Mm) (k i : Nat) (v) (a b : Nat) : gI (sI σ k i v) a b = if a = k ∧ b = i then v else gI σ a b := rfl
theorem gI_sJ (σ : Mm) (k i : Nat) (v) : gI (sJ σ k i v) = gI σ := rfl
theorem gI_sR (σ : Mm) (k i : Nat) (v) : gI (sR σ k i v) = gI σ := rfl
theorem gJ_sI (σ : Mm) (k i : Nat) (v) : gJ (sI σ k i v) = gJ σ := rfl
theorem gJ_sJ (σ : Mm) (k i : Nat) (v) (a b : Nat) : gJ (sJ σ k i v) a b = if a = k ∧ b = i then v else gJ σ a b := rfl
theorem gJ_sR (σ : Mm) (k i : Nat) (v) : gJ (sR σ k i v) = gJ σ := rfl
theorem gR_sI (σ : Mm) (k i : Nat) (v) : gR (sI σ k i v) = gR σ := rfl
theorem gR_sJ (σ : Mm) (k i : Nat) (v) : gR (sJ σ k i v) = gR σ := rfl
theorem gR_sR (σ : Mm) (k i : Nat) (v) (a b : Nat) : gR (sR σ k i v) a b = if a = k ∧ b = i then v else gR σ a b := rfl
theorem gI_ne {σ : Mm} {k i : Nat} {v} {a : Nat} (h : a ≠ k) : gI (sI σ k i v) a = gI σ a := by funext b; rw [gI_sI, if_neg (fun q => h q.1)]
theorem gI_eq {σ : Mm} {k i : Nat} {v} : gI (sI σ k i v) k = fun b => if b = i then v else gI σ k b := by funext b; rw [gI_sI]; by_cases q : b = i <;> simp [q]
theorem gJ_ne {σ : Mm} {k i : Nat} {v} {a : Nat} (h : a ≠ k) : gJ (sJ σ k i v) a = gJ σ a := by funext b; rw [gJ_sJ, if_neg (fun q => h q.1)]
theorem gJ_eq {σ : Mm} {k i : Nat} {v} : gJ (sJ σ k i v) k = fun b => if b = i then v else gJ σ k b := by funext b; rw [gJ_sJ]; by_cases q : b = i <;> simp [q]
theorem gR_ne {σ : Mm} {k i : Nat} {v} {a : Nat} (h : a ≠ k) : gR (sR σ k i v) a = gR σ a := by funext b; rw [gR_sR, if_neg (fun q => h q.1)]
theorem gR_eq {σ : Mm} {k i : Nat} {v} : gR (sR σ k i v) k = fun b => if b = i then v else gR σ k b := by funext b; rw [gR_sR]; by_cases q : b = i <;> simp [q]
def fO (α : Nat → Nat) (o : Option Nat) : Value := va_rf (o.map α)
def kd (k : Nat) : Nat := if k < 200 then (if k < 20 then (match k with | 0 => 6 | 1 => 13 | 2 => 11 | 3 => 12 | 4 => 14 | 5 => 15 | 6 => 8 | 7 => 9 | 8 => 8 | 9 => 2 | 10 => 9 | 11 => 9 | 12 => 9 | 13 => 2 | 14 => 9 | 15 => 9 | 16 => 9 | _ => 99) else if k < 30 then 3 else if k < 70 then 0 else if k < 100 then 1 else if k < 124 then (match (k - 100) % 8 with | 0 => 4 | 5 => 9 | 6 => 9 | 7 => 99 | _ => 8) else if k < 130 then 99 else if k < 154 then (match (k - 130) % 4 with | 0 => 5 | _ => 8) else 99) else (match k - 200 with | 0 => 7 | 1 => 8 | 2 => 8 | 3 => 8 | 4 => 8 | 5 => 8 | 6 => 8 | 7 => 8 | 8 => 8 | 9 => 8 | 10 => 8 | 11 => 8 | 12 => 8 | 13 => 8 | 14 => 8 | 15 => 8 | 16 => 8 | 17 => 8 | 18 => 8 | 19 => 8 | 20 => 8 | 21 => 8 | 22 => 10 | 23 => 9 | 24 => 9 | 25 => 9 | 26 => 9 | 27 => 9 | 28 => 10 | 29 => 9 | 30 => 9 | 31 => 9 | _ => 99)
def ln (k : Nat) : Nat := if k < 200 then (if k < 20 then (match k with | 0 => 0 | 1 => 8 | 2 => 40 | 3 => 16 | 4 => 3 | 5 => 6 | 6 => 61 | 7 => 10 | 8 => 10 | 9 => 0 | 10 => 20 | 11 => 20 | 12 => 20 | 13 => 0 | 14 => 10 | 15 => 10 | 16 => 10 | _ => 99) else if k < 100 then 0 else if k < 124 then (match (k - 100) % 8 with | 0 => 0 | 5 => 610 | 6 => 610 | _ => 61) else if k < 130 then 0 else (match (k - 130) % 4 with | 0 => 0 | _ => 61)) else (match k - 200 with | 0 => 0 | 1 => 8 | 2 => 8 | 3 => 8 | 4 => 40 | 5 => 40 | 6 => 40 | 7 => 40 | 8 => 40 | 9 => 16 | 10 => 16 | 11 => 16 | 12 => 16 | 13 => 16 | 14 => 16 | 15 => 3 | 16 => 6 | 17 => 366 | 18 => 366 | 19 => 366 | 20 => 61 | 21 => 1830 | 22 => 10 | 23 => 10 | 24 => 20 | 25 => 20 | 26 => 20 | 27 => 20 | 28 => 10 | 29 => 10 | 30 => 10 | 31 => 10 | _ => 99)
def Fc : List Nat := [0, 1, 2, 3, 4, 5, 6, 7, 8, 9, 10, 11, 12, 13, 14, 15, 16]
def Fm : List Nat := [200, 201, 202, 203, 204, 205, 206, 207, 208, 209, 210, 211, 212, 213, 214, 215, 216, 217, 218, 219, 220, 221, 222, 223, 224, 225, 226, 227, 228, 229, 230, 231]
def ct (dA : Nat → ClassId) (α : Nat → Nat) (σ : Mm) (k : Nat) : va_E := match kd k with
  | 0 => .inr (0, [fO α (gR σ k 0), .int (gI σ k 1), .int (gI σ k 2), .int (gI σ k 3), .int (gI σ k 4)])
  | 1 => .inr (1, [fO α (gR σ k 0), .int (gI σ k 1), .int (gI σ k 2), .int (gI σ k 3), .int (gI σ k 4), .int (gI σ k 5)])
  | 2 => .inr (2, [fO α (some (k + 1)), fO α (some (k + 2)), fO α (some (k + 3))])
  | 3 => .inr (3, [.int (gI σ k 0), .int (gI σ k 1), fO α (gR σ k 2)])
  | 4 => .inr (4, [.int (gI σ k 0), fO α (some (k + 1)), fO α (some (k + 2)), fO α (some (k + 3)), fO α (some (k + 4)), fO α (some (k + 5)), fO α (some (k + 6))])
  | 5 => .inr (5, [fO α (gR σ k 0), fO α (some (k + 1)), fO α (some (k + 2)), fO α (some (k + 3))])
  | 6 => .inr (6, [.int (gI σ k 0), fO α (some 1), .int (gI σ k 2), fO α (some 2), .int (gI σ k 4), fO α (some 3), .int (gI σ k 6), fO α (some 4), .int (gI σ k 8), fO α (some 5), .int (gI σ k 10), fO α (some 6), .int (gI σ k 12), .int (gI σ k 13), .int (gI σ k 14), fO α (some 7), .int (gI σ k 16), fO α (some 8), fO α (some 9), fO α (some 13)])
  | 7 => .inr (7, [.int (gI σ k 0), .int (gI σ k 1), fO α (some 201), fO α (some 202), fO α (some 203), .int (gI σ k 5), fO α (some 204), fO α (some 205), fO α (some 206), fO α (some 207), fO α (some 208), .int (gI σ k 11), fO α (some 209), fO α (some 210), fO α (some 211), fO α (some 212), fO α (some 213), fO α (some 214), .int (gI σ k 18), fO α (some 215), .int (gI σ k 20), fO α (some 216), fO α (some 217), fO α (some 218), fO α (some 219), fO α (some 220), fO α (some 221), .int (gI σ k 27), .int (gI σ k 28), fO α (some 222), fO α (some 223), fO α (some 224), fO α (some 225), fO α (some 226), fO α (some 227), fO α (some 228), fO α (some 229), fO α (some 230), fO α (some 231), .int (gI σ k 39)])
  | 8 => .inl (dA 8, ln k, .inl (gI σ k))
  | 9 => .inl (dA 9, ln k, .inr (.inl (gJ σ k)))
  | 10 => .inl (dA 10, ln k, .inl (gI σ k))
  | n => .inl (dA n, ln k, .inr (.inr (.inr (.inr (fun i => (gR σ k i).map α)))))
theorem ct_0 {dA : Nat → ClassId} {α : Nat → Nat} {σ : Mm} {k : Nat} (h : kd k = 0) : ct dA α σ k = .inr (0, [fO α (gR σ k 0), .int (gI σ k 1), .int (gI σ k 2), .int (gI σ k 3), .int (gI σ k 4)]) := by unfold ct; simp only [h]
theorem ct_1 {dA : Nat → ClassId} {α : Nat → Nat} {σ : Mm} {k : Nat} (h : kd k = 1) : ct dA α σ k = .inr (1, [fO α (gR σ k 0), .int (gI σ k 1), .int (gI σ k 2), .int (gI σ k 3), .int (gI σ k 4), .int (gI σ k 5)]) := by unfold ct; simp only [h]
theorem ct_2 {dA : Nat → ClassId} {α : Nat → Nat} {σ : Mm} {k : Nat} (h : kd k = 2) : ct dA α σ k = .inr (2, [fO α (some (k + 1)), fO α (some (k + 2)), fO α (some (k + 3))]) := by unfold ct; simp only [h]
theorem ct_3 {dA : Nat → ClassId} {α : Nat → Nat} {σ : Mm} {k : Nat} (h : kd k = 3) : ct dA α σ k = .inr (3, [.int (gI σ k 0), .int (gI σ k 1), fO α (gR σ k 2)]) := by unfold ct; simp only [h]
theorem ct_4 {dA : Nat → ClassId} {α : Nat → Nat} {σ : Mm} {k : Nat} (h : kd k = 4) : ct dA α σ k = .inr (4, [.int (gI σ k 0), fO α (some (k + 1)), fO α (some (k + 2)), fO α (some (k + 3)), fO α (some (k + 4)), fO α (some (k + 5)), fO α (some (k + 6))]) := by unfold ct; simp only [h]
theorem ct_5 {dA : Nat → ClassId} {α : Nat → Nat} {σ : Mm} {k : Nat} (h : kd k = 5) : ct dA α σ k = .inr (5, [fO α (gR σ k 0), fO α (some (k + 1)), fO α (some (k + 2)), fO α (some (k + 3))]) := by unfold ct; simp only [h]
theorem ct_6 {dA : Nat → ClassId} {α : Nat → Nat} {σ : Mm} {k : Nat} (h : kd k = 6) : ct dA α σ k = .inr (6, [.int (gI σ k 0), fO α (some 1), .int (gI σ k 2), fO α (some 2), .int (gI σ k 4), fO α (some 3), .int (gI σ k 6), fO α (some 4), .int (gI σ k 8), fO α (some 5), .int (gI σ k 10), fO α (some 6), .int (gI σ k 12), .int (gI σ k 13), .int (gI σ k 14), fO α (some 7), .int (gI σ k 16), fO α (some 8), fO α (some 9), fO α (some 13)]) := by unfold ct; simp only [h]
theorem ct_7 {dA : Nat → ClassId} {α : Nat → Nat} {σ : Mm} {k : Nat} (h : kd k = 7) : ct dA α σ k = .inr (7, [.int (gI σ k 0), .int (gI σ k 1), fO α (some 201), fO α (some 202), fO α (some 203), .int (gI σ k 5), fO α (some 204), fO α (some 205), fO α (some 206), fO α (some 207), fO α (some 208), .int (gI σ k 11), fO α (some 209), fO α (some 210), fO α (some 211), fO α (some 212), fO α (some 213), fO α (some 214), .int (gI σ k 18), fO α (some 215), .int (gI σ k 20), fO α (some 216), fO α (some 217), fO α (some 218), fO α (some 219), fO α (some 220), fO α (some 221), .int (gI σ k 27), .int (gI σ k 28), fO α (some 222), fO α (some 223), fO α (some 224), fO α (some 225), fO α (some 226), fO α (some 227), fO α (some 228), fO α (some 229), fO α (some 230), fO α (some 231), .int (gI σ k 39)]) := by unfold ct; simp only [h]
theorem ct_8 {dA : Nat → ClassId} {α : Nat → Nat} {σ : Mm} {k : Nat} (h : kd k = 8) : ct dA α σ k = .inl (dA 8, ln k, .inl (gI σ k)) := by unfold ct; simp only [h]
theorem ct_9 {dA : Nat → ClassId} {α : Nat → Nat} {σ : Mm} {k : Nat} (h : kd k = 9) : ct dA α σ k = .inl (dA 9, ln k, .inr (.inl (gJ σ k))) := by unfold ct; simp only [h]
theorem ct_10 {dA : Nat → ClassId} {α : Nat → Nat} {σ : Mm} {k : Nat} (h : kd k = 10) : ct dA α σ k = .inl (dA 10, ln k, .inl (gI σ k)) := by unfold ct; simp only [h]
theorem ct_11 {dA : Nat → ClassId} {α : Nat → Nat} {σ : Mm} {k : Nat} (h : kd k = 11) : ct dA α σ k = .inl (dA 11, ln k, .inr (.inr (.inr (.inr (fun i => (gR σ k i).map α))))) := by unfold ct; simp only [h]
theorem ct_12 {dA : Nat → ClassId} {α : Nat → Nat} {σ : Mm} {k : Nat} (h : kd k = 12) : ct dA α σ k = .inl (dA 12, ln k, .inr (.inr (.inr (.inr (fun i => (gR σ k i).map α))))) := by unfold ct; simp only [h]
theorem ct_13 {dA : Nat → ClassId} {α : Nat → Nat} {σ : Mm} {k : Nat} (h : kd k = 13) : ct dA α σ k = .inl (dA 13, ln k, .inr (.inr (.inr (.inr (fun i => (gR σ k i).map α))))) := by unfold ct; simp only [h]
theorem ct_14 {dA : Nat → ClassId} {α : Nat → Nat} {σ : Mm} {k : Nat} (h : kd k = 14) : ct dA α σ k = .inl (dA 14, ln k, .inr (.inr (.inr (.inr (fun i => (gR σ k i).map α))))) := by unfold ct; simp only [h]
theorem ct_15 {dA : Nat → ClassId} {α : Nat → Nat} {σ : Mm} {k : Nat} (h : kd k = 15) : ct dA α σ k = .inl (dA 15, ln k, .inr (.inr (.inr (.inr (fun i => (gR σ k i).map α))))) := by unfold ct; simp only [h]
theorem ct_congr {dA : Nat → ClassId} {α α' : Nat → Nat} {σ σ' : Mm} {k : Nat} (hI : gI σ' k = gI σ k) (hJ : gJ σ' k = gJ σ k) (hR : gR σ' k = gR σ k) (hα : α' = α) : ct dA α' σ' k = ct dA α σ k := by subst hα; unfold ct; rw [hI, hJ, hR]
def wl (dA : Nat → ClassId) (F : List Nat) (α : Nat → Nat) (σ : Mm) : va_W := F.map (fun k => (α k, ct dA α σ k))
def tysL (dA : Nat → ClassId) : List (ClassId × FieldType) := [(dA 8, .int), (dA 9, .long), (dA 10, .byte), (dA 11, .object "Divisionorder$Deed"), (dA 12, .object "Divisionorder$Lease"), (dA 13, .object "Divisionorder$Tract"), (dA 14, .object "Divisionorder$Unit"), (dA 15, .object "Divisionorder$Well")]
theorem wl_at {dA : Nat → ClassId} {F : List Nat} {α : Nat → Nat} {σ : Mm} {q k : Nat} (h : F[q]? = some k) : (wl dA F α σ)[q]? = some (α k, ct dA α σ k) := by
  unfold wl; rw [List.getElem?_map, h]; rfl
theorem wl_mem {F : List Nat} {k : Nat} (h : k ∈ F) : ∃ q : Nat, F[q]? = some k := List.getElem?_of_mem h
theorem wl_set {dA : Nat → ClassId} {F : List Nat} {α : Nat → Nat} {σ σ' : Mm} {A : Nat → Prop} {q k : Nat} {e : va_E} (hD : va_D A (wl dA F α σ)) (h : F[q]? = some k) (he : ct dA α σ' k = e) (ho : ∀ j, j ≠ k → ct dA α σ' j = ct dA α σ j) : (wl dA F α σ).set q (α k, e) = wl dA F α σ' := by
  apply List.ext_getElem?
  intro i
  rw [List.getElem?_set]
  by_cases hi : q = i
  · subst hi
    have hlt : q < (wl dA F α σ).length := (List.getElem?_eq_some_iff.mp (wl_at (dA := dA) (α := α) h)).1
    have h2 : F[q]? = some k := h
    rw [if_pos rfl, if_pos hlt, wl_at h2, he]
  · rw [if_neg hi]
    cases hj : F[i]? with
    | none =>
      unfold wl
      rw [List.getElem?_map, List.getElem?_map, hj]; rfl
    | some j =>
      rw [wl_at hj, wl_at hj]
      have hne : j ≠ k := by
        intro e; subst e
        exact hi (hD.1 q i _ _ (wl_at h) (wl_at hj) rfl)
      rw [ho j hne]
theorem wl_len {dA : Nat → ClassId} {F : List Nat} {α : Nat → Nat} {σ : Mm} : (wl dA F α σ).length = F.length := by unfold wl; rw [List.length_map]
theorem ct_sI {dA : Nat → ClassId} {α : Nat → Nat} {σ : Mm} {k i : Nat} {v : Int32} : ∀ j, j ≠ k → ct dA α (sI σ k i v) j = ct dA α σ j := fun j h => ct_congr (gI_ne h) rfl rfl rfl
theorem ct_sJ {dA : Nat → ClassId} {α : Nat → Nat} {σ : Mm} {k i : Nat} {v : Int64} : ∀ j, j ≠ k → ct dA α (sJ σ k i v) j = ct dA α σ j := fun j h => ct_congr rfl (gJ_ne h) rfl rfl
theorem ct_sR {dA : Nat → ClassId} {α : Nat → Nat} {σ : Mm} {k i : Nat} {v : Option Nat} : ∀ j, j ≠ k → ct dA α (sR σ k i v) j = ct dA α σ j := fun j h => ct_congr rfl rfl (gR_ne h) rfl
theorem fx_0 {L : List Nat} : 0 ∈ Fc ++ L := List.mem_append_left _ (by decide)
theorem fx_1 {L : List Nat} : 1 ∈ Fc ++ L := List.mem_append_left _ (by decide)
theorem fx_2 {L : List Nat} : 2 ∈ Fc ++ L := List.mem_append_left _ (by decide)
theorem fx_3 {L : List Nat} : 3 ∈ Fc ++ L := List.mem_append_left _ (by decide)
theorem fx_4 {L : List Nat} : 4 ∈ Fc ++ L := List.mem_append_left _ (by decide)
theorem fx_5 {L : List Nat} : 5 ∈ Fc ++ L := List.mem_append_left _ (by decide)
theorem fx_6 {L : List Nat} : 6 ∈ Fc ++ L := List.mem_append_left _ (by decide)
theorem fx_7 {L : List Nat} : 7 ∈ Fc ++ L := List.mem_append_left _ (by decide)
theorem fx_8 {L : List Nat} : 8 ∈ Fc ++ L := List.mem_append_left _ (by decide)
theorem fx_9 {L : List Nat} : 9 ∈ Fc ++ L := List.mem_append_left _ (by decide)
theorem fx_10 {L : List Nat} : 10 ∈ Fc ++ L := List.mem_append_left _ (by decide)
theorem fx_11 {L : List Nat} : 11 ∈ Fc ++ L := List.mem_append_left _ (by decide)
theorem fx_12 {L : List Nat} : 12 ∈ Fc ++ L := List.mem_append_left _ (by decide)
theorem fx_13 {L : List Nat} : 13 ∈ Fc ++ L := List.mem_append_left _ (by decide)
theorem fx_14 {L : List Nat} : 14 ∈ Fc ++ L := List.mem_append_left _ (by decide)
theorem fx_15 {L : List Nat} : 15 ∈ Fc ++ L := List.mem_append_left _ (by decide)
theorem fx_16 {L : List Nat} : 16 ∈ Fc ++ L := List.mem_append_left _ (by decide)
theorem fx_200 : 200 ∈ Fm := by decide
theorem fx_201 : 201 ∈ Fm := by decide
theorem fx_202 : 202 ∈ Fm := by decide
theorem fx_203 : 203 ∈ Fm := by decide
theorem fx_204 : 204 ∈ Fm := by decide
theorem fx_205 : 205 ∈ Fm := by decide
theorem fx_206 : 206 ∈ Fm := by decide
theorem fx_207 : 207 ∈ Fm := by decide
theorem fx_208 : 208 ∈ Fm := by decide
theorem fx_209 : 209 ∈ Fm := by decide
theorem fx_210 : 210 ∈ Fm := by decide
theorem fx_211 : 211 ∈ Fm := by decide
theorem fx_212 : 212 ∈ Fm := by decide
theorem fx_213 : 213 ∈ Fm := by decide
theorem fx_214 : 214 ∈ Fm := by decide
theorem fx_215 : 215 ∈ Fm := by decide
theorem fx_216 : 216 ∈ Fm := by decide
theorem fx_217 : 217 ∈ Fm := by decide
theorem fx_218 : 218 ∈ Fm := by decide
theorem fx_219 : 219 ∈ Fm := by decide
theorem fx_220 : 220 ∈ Fm := by decide
theorem fx_221 : 221 ∈ Fm := by decide
theorem fx_222 : 222 ∈ Fm := by decide
theorem fx_223 : 223 ∈ Fm := by decide
theorem fx_224 : 224 ∈ Fm := by decide
theorem fx_225 : 225 ∈ Fm := by decide
theorem fx_226 : 226 ∈ Fm := by decide
theorem fx_227 : 227 ∈ Fm := by decide
theorem fx_228 : 228 ∈ Fm := by decide
theorem fx_229 : 229 ∈ Fm := by decide
theorem fx_230 : 230 ∈ Fm := by decide
theorem fx_231 : 231 ∈ Fm := by decide
theorem pt_6_0 {dA : Nat → ClassId} {α : Nat → Nat} {σ : Mm} {k : Nat} {v : Int32} (h : kd k = 6) : ct dA α (sI σ k 0 v) k = .inr (6, ([.int (gI σ k 0), fO α (some 1), .int (gI σ k 2), fO α (some 2), .int (gI σ k 4), fO α (some 3), .int (gI σ k 6), fO α (some 4), .int (gI σ k 8), fO α (some 5), .int (gI σ k 10), fO α (some 6), .int (gI σ k 12), .int (gI σ k 13), .int (gI σ k 14), fO α (some 7), .int (gI σ k 16), fO α (some 8), fO α (some 9), fO α (some 13)]).set 0 (.int v)) := by rw [ct_6 h]; simp [gI, gR, sI, sR]
theorem pt_6_2 {dA : Nat → ClassId} {α : Nat → Nat} {σ : Mm} {k : Nat} {v : Int32} (h : kd k = 6) : ct dA α (sI σ k 2 v) k = .inr (6, ([.int (gI σ k 0), fO α (some 1), .int (gI σ k 2), fO α (some 2), .int (gI σ k 4), fO α (some 3), .int (gI σ k 6), fO α (some 4), .int (gI σ k 8), fO α (some 5), .int (gI σ k 10), fO α (some 6), .int (gI σ k 12), .int (gI σ k 13), .int (gI σ k 14), fO α (some 7), .int (gI σ k 16), fO α (some 8), fO α (some 9), fO α (some 13)]).set 2 (.int v)) := by rw [ct_6 h]; simp [gI, gR, sI, sR]
theorem pt_6_4 {dA : Nat → ClassId} {α : Nat → Nat} {σ : Mm} {k : Nat} {v : Int32} (h : kd k = 6) : ct dA α (sI σ k 4 v) k = .inr (6, ([.int (gI σ k 0), fO α (some 1), .int (gI σ k 2), fO α (some 2), .int (gI σ k 4), fO α (some 3), .int (gI σ k 6), fO α (some 4), .int (gI σ k 8), fO α (some 5), .int (gI σ k 10), fO α (some 6), .int (gI σ k 12), .int (gI σ k 13), .int (gI σ k 14), fO α (some 7), .int (gI σ k 16), fO α (some 8), fO α (some 9), fO α (some 13)]).set 4 (.int v)) := by rw [ct_6 h]; simp [gI, gR, sI, sR]
theorem pt_6_6 {dA : Nat → ClassId} {α : Nat → Nat} {σ : Mm} {k : Nat} {v : Int32} (h : kd k = 6) : ct dA α (sI σ k 6 v) k = .inr (6, ([.int (gI σ k 0), fO α (some 1), .int (gI σ k 2), fO α (some 2), .int (gI σ k 4), fO α (some 3), .int (gI σ k 6), fO α (some 4), .int (gI σ k 8), fO α (some 5), .int (gI σ k 10), fO α (some 6), .int (gI σ k 12), .int (gI σ k 13), .int (gI σ k 14), fO α (some 7), .int (gI σ k 16), fO α (some 8), fO α (some 9), fO α (some 13)]).set 6 (.int v)) := by rw [ct_6 h]; simp [gI, gR, sI, sR]
theorem pt_6_8 {dA : Nat → ClassId} {α : Nat → Nat} {σ : Mm} {k : Nat} {v : Int32} (h : kd k = 6) : ct dA α (sI σ k 8 v) k = .inr (6, ([.int (gI σ k 0), fO α (some 1), .int (gI σ k 2), fO α (some 2), .int (gI σ k 4), fO α (some 3), .int (gI σ k 6), fO α (some 4), .int (gI σ k 8), fO α (some 5), .int (gI σ k 10), fO α (some 6), .int (gI σ k 12), .int (gI σ k 13), .int (gI σ k 14), fO α (some 7), .int (gI σ k 16), fO α (some 8), fO α (some 9), fO α (some 13)]).set 8 (.int v)) := by rw [ct_6 h]; simp [gI, gR, sI, sR]
theorem pt_6_10 {dA : Nat → ClassId} {α : Nat → Nat} {σ : Mm} {k : Nat} {v : Int32} (h : kd k = 6) : ct dA α (sI σ k 10 v) k = .inr (6, ([.int (gI σ k 0), fO α (some 1), .int (gI σ k 2), fO α (some 2), .int (gI σ k 4), fO α (some 3), .int (gI σ k 6), fO α (some 4), .int (gI σ k 8), fO α (some 5), .int (gI σ k 10), fO α (some 6), .int (gI σ k 12), .int (gI σ k 13), .int (gI σ k 14), fO α (some 7), .int (gI σ k 16), fO α (some 8), fO α (some 9), fO α (some 13)]).set 10 (.int v)) := by rw [ct_6 h]; simp [gI, gR, sI, sR]
theorem pt_6_12 {dA : Nat → ClassId} {α : Nat → Nat} {σ : Mm} {k : Nat} {v : Int32} (h : kd k = 6) : ct dA α (sI σ k 12 v) k = .inr (6, ([.int (gI σ k 0), fO α (some 1), .int (gI σ k 2), fO α (some 2), .int (gI σ k 4), fO α (some 3), .int (gI σ k 6), fO α (some 4), .int (gI σ k 8), fO α (some 5), .int (gI σ k 10), fO α (some 6), .int (gI σ k 12), .int (gI σ k 13), .int (gI σ k 14), fO α (some 7), .int (gI σ k 16), fO α (some 8), fO α (some 9), fO α (some 13)]).set 12 (.int v)) := by rw [ct_6 h]; simp [gI, gR, sI, sR]
theorem pt_6_13 {dA : Nat → ClassId} {α : Nat → Nat} {σ : Mm} {k : Nat} {v : Int32} (h : kd k = 6) : ct dA α (sI σ k 13 v) k = .inr (6, ([.int (gI σ k 0), fO α (some 1), .int (gI σ k 2), fO α (some 2), .int (gI σ k 4), fO α (some 3), .int (gI σ k 6), fO α (some 4), .int (gI σ k 8), fO α (some 5), .int (gI σ k 10), fO α (some 6), .int (gI σ k 12), .int (gI σ k 13), .int (gI σ k 14), fO α (some 7), .int (gI σ k 16), fO α (some 8), fO α (some 9), fO α (some 13)]).set 13 (.int v)) := by rw [ct_6 h]; simp [gI, gR, sI, sR]
theorem pt_6_14 {dA : Nat → ClassId} {α : Nat → Nat} {σ : Mm} {k : Nat} {v : Int32} (h : kd k = 6) : ct dA α (sI σ k 14 v) k = .inr (6, ([.int (gI σ k 0), fO α (some 1), .int (gI σ k 2), fO α (some 2), .int (gI σ k 4), fO α (some 3), .int (gI σ k 6), fO α (some 4), .int (gI σ k 8), fO α (some 5), .int (gI σ k 10), fO α (some 6), .int (gI σ k 12), .int (gI σ k 13), .int (gI σ k 14), fO α (some 7), .int (gI σ k 16), fO α (some 8), fO α (some 9), fO α (some 13)]).set 14 (.int v)) := by rw [ct_6 h]; simp [gI, gR, sI, sR]
theorem pt_6_16 {dA : Nat → ClassId} {α : Nat → Nat} {σ : Mm} {k : Nat} {v : Int32} (h : kd k = 6) : ct dA α (sI σ k 16 v) k = .inr (6, ([.int (gI σ k 0), fO α (some 1), .int (gI σ k 2), fO α (some 2), .int (gI σ k 4), fO α (some 3), .int (gI σ k 6), fO α (some 4), .int (gI σ k 8), fO α (some 5), .int (gI σ k 10), fO α (some 6), .int (gI σ k 12), .int (gI σ k 13), .int (gI σ k 14), fO α (some 7), .int (gI σ k 16), fO α (some 8), fO α (some 9), fO α (some 13)]).set 16 (.int v)) := by rw [ct_6 h]; simp [gI, gR, sI, sR]
theorem pt_0_0 {dA : Nat → ClassId} {α : Nat → Nat} {σ : Mm} {k : Nat} {v : Option Nat} (h : kd k = 0) : ct dA α (sR σ k 0 v) k = .inr (0, ([fO α (gR σ k 0), .int (gI σ k 1), .int (gI σ k 2), .int (gI σ k 3), .int (gI σ k 4)]).set 0 (fO α v)) := by rw [ct_0 h]; simp [gI, gR, sI, sR]
theorem pt_0_1 {dA : Nat → ClassId} {α : Nat → Nat} {σ : Mm} {k : Nat} {v : Int32} (h : kd k = 0) : ct dA α (sI σ k 1 v) k = .inr (0, ([fO α (gR σ k 0), .int (gI σ k 1), .int (gI σ k 2), .int (gI σ k 3), .int (gI σ k 4)]).set 1 (.int v)) := by rw [ct_0 h]; simp [gI, gR, sI, sR]
theorem pt_0_2 {dA : Nat → ClassId} {α : Nat → Nat} {σ : Mm} {k : Nat} {v : Int32} (h : kd k = 0) : ct dA α (sI σ k 2 v) k = .inr (0, ([fO α (gR σ k 0), .int (gI σ k 1), .int (gI σ k 2), .int (gI σ k 3), .int (gI σ k 4)]).set 2 (.int v)) := by rw [ct_0 h]; simp [gI, gR, sI, sR]
theorem pt_0_3 {dA : Nat → ClassId} {α : Nat → Nat} {σ : Mm} {k : Nat} {v : Int32} (h : kd k = 0) : ct dA α (sI σ k 3 v) k = .inr (0, ([fO α (gR σ k 0), .int (gI σ k 1), .int (gI σ k 2), .int (gI σ k 3), .int (gI σ k 4)]).set 3 (.int v)) := by rw [ct_0 h]; simp [gI, gR, sI, sR]
theorem pt_0_4 {dA : Nat → ClassId} {α : Nat → Nat} {σ : Mm} {k : Nat} {v : Int32} (h : kd k = 0) : ct dA α (sI σ k 4 v) k = .inr (0, ([fO α (gR σ k 0), .int (gI σ k 1), .int (gI σ k 2), .int (gI σ k 3), .int (gI σ k 4)]).set 4 (.int v)) := by rw [ct_0 h]; simp [gI, gR, sI, sR]
theorem pt_3_0 {dA : Nat → ClassId} {α : Nat → Nat} {σ : Mm} {k : Nat} {v : Int32} (h : kd k = 3) : ct dA α (sI σ k 0 v) k = .inr (3, ([.int (gI σ k 0), .int (gI σ k 1), fO α (gR σ k 2)]).set 0 (.int v)) := by rw [ct_3 h]; simp [gI, gR, sI, sR]
theorem pt_3_1 {dA : Nat → ClassId} {α : Nat → Nat} {σ : Mm} {k : Nat} {v : Int32} (h : kd k = 3) : ct dA α (sI σ k 1 v) k = .inr (3, ([.int (gI σ k 0), .int (gI σ k 1), fO α (gR σ k 2)]).set 1 (.int v)) := by rw [ct_3 h]; simp [gI, gR, sI, sR]
theorem pt_3_2 {dA : Nat → ClassId} {α : Nat → Nat} {σ : Mm} {k : Nat} {v : Option Nat} (h : kd k = 3) : ct dA α (sR σ k 2 v) k = .inr (3, ([.int (gI σ k 0), .int (gI σ k 1), fO α (gR σ k 2)]).set 2 (fO α v)) := by rw [ct_3 h]; simp [gI, gR, sI, sR]
theorem pt_1_0 {dA : Nat → ClassId} {α : Nat → Nat} {σ : Mm} {k : Nat} {v : Option Nat} (h : kd k = 1) : ct dA α (sR σ k 0 v) k = .inr (1, ([fO α (gR σ k 0), .int (gI σ k 1), .int (gI σ k 2), .int (gI σ k 3), .int (gI σ k 4), .int (gI σ k 5)]).set 0 (fO α v)) := by rw [ct_1 h]; simp [gI, gR, sI, sR]
theorem pt_1_1 {dA : Nat → ClassId} {α : Nat → Nat} {σ : Mm} {k : Nat} {v : Int32} (h : kd k = 1) : ct dA α (sI σ k 1 v) k = .inr (1, ([fO α (gR σ k 0), .int (gI σ k 1), .int (gI σ k 2), .int (gI σ k 3), .int (gI σ k 4), .int (gI σ k 5)]).set 1 (.int v)) := by rw [ct_1 h]; simp [gI, gR, sI, sR]
theorem pt_1_2 {dA : Nat → ClassId} {α : Nat → Nat} {σ : Mm} {k : Nat} {v : Int32} (h : kd k = 1) : ct dA α (sI σ k 2 v) k = .inr (1, ([fO α (gR σ k 0), .int (gI σ k 1), .int (gI σ k 2), .int (gI σ k 3), .int (gI σ k 4), .int (gI σ k 5)]).set 2 (.int v)) := by rw [ct_1 h]; simp [gI, gR, sI, sR]
theorem pt_1_3 {dA : Nat → ClassId} {α : Nat → Nat} {σ : Mm} {k : Nat} {v : Int32} (h : kd k = 1) : ct dA α (sI σ k 3 v) k = .inr (1, ([fO α (gR σ k 0), .int (gI σ k 1), .int (gI σ k 2), .int (gI σ k 3), .int (gI σ k 4), .int (gI σ k 5)]).set 3 (.int v)) := by rw [ct_1 h]; simp [gI, gR, sI, sR]
theorem pt_1_4 {dA : Nat → ClassId} {α : Nat → Nat} {σ : Mm} {k : Nat} {v : Int32} (h : kd k = 1) : ct dA α (sI σ k 4 v) k = .inr (1, ([fO α (gR σ k 0), .int (gI σ k 1), .int (gI σ k 2), .int (gI σ k 3), .int (gI σ k 4), .int (gI σ k 5)]).set 4 (.int v)) := by rw [ct_1 h]; simp [gI, gR, sI, sR]
theorem pt_1_5 {dA : Nat → ClassId} {α : Nat → Nat} {σ : Mm} {k : Nat} {v : Int32} (h : kd k = 1) : ct dA α (sI σ k 5 v) k = .inr (1, ([fO α (gR σ k 0), .int (gI σ k 1), .int (gI σ k 2), .int (gI σ k 3), .int (gI σ k 4), .int (gI σ k 5)]).set 5 (.int v)) := by rw [ct_1 h]; simp [gI, gR, sI, sR]
def mC (p : Program) (s : State) (m : MethodId) (args : Array Value) (c : Code) (cc : ByteArray) (own : String) (nL : Nat) (Ts : List Cond) (dC : Nat → ClassId) (dI : Nat → Nat → Nat) (dA : Nat → ClassId) (A : Nat → Prop) : Prop :=
  p.tables.exec = Jvm.exec ∧ c.code = cc ∧ c.maxLocals = nL ∧ s.vm.findClass own = some m.cls ∧ (∀ w ∈ Ts, w.before args s = true) ∧ va_K (dC, dI) vwCl (tysL dA) s ∧ ∀ q, s.heap.size ≤ q → A q
def mW (s : State) (dC : Nat → ClassId) (dI : Nat → Nat → Nat) (dA : Nat → ClassId) (F : List Nat) (α : Nat → Nat) (A : Nat → Prop) (σ : Mm) (H : Heap) (locs : List Loc) : Prop :=
  va_P (dC, dI) vwCl (wl dA F α σ) H ∧ va_D A (wl dA F α σ) ∧ va_S A s.heap H locs
def G (p : Program) (l : Launch) (e : Env) (R : Room) (s : State) (m : MethodId) (args : Array Value) (below : List Frame) (meth : Method) (c : Code) (cells slots : Nat) (Q : State → Prop) (dC : Nat → ClassId) (dI : Nat → Nat → Nat) (dA : Nat → ClassId) (F : List Nat) (α : Nat → Nat) (A : Nat → Prop) (nL : Nat) (σ : Mm) (pc : Nat) (lv : List (Nat × Value)) (st : List Value) : Prop :=
  ∀ (H : Heap) (locs : List Loc) (ls : Array Slot), mW s dC dI dA F α A σ H locs → lv_has ls nL lv → W p l e R s m args below meth c H locs cells slots Q (F0 m pc ls st)
section MEMROWS
variable {p : Program} {l : Launch} {e : Env} {R : Room} {s : State} {m : MethodId} {args : Array Value} {below : List Frame} {meth : Method} {c : Code} {cells slots : Nat} {Q : State → Prop} {dC : Nat → ClassId} {dI : Nat → Nat → Nat} {dA : Nat → ClassId} {F : List Nat} {α : Nat → Nat} {A : Nat → Prop} {nL : Nat} {σ : Mm} {pc : Nat} {lv lv' : List (Nat × Value)} {st : List Value} {cc : ByteArray} {own : String} {Ts : List Cond}
theorem r_iload_n (hC : mC p s m args c cc own nL Ts dC dI dA A) {k : Fin 4} {i : Nat} {x : Int32} (d : decode cc pc = .ok (.iload_n k, 1)) (hi : (k : Nat) = i) (j : Nat) (hj : lv[j]? = some (i, .int x)) (kk : G p l e R s m args below meth c cells slots Q dC dI dA F α A nL σ (pc + 1) lv (.int x :: st)) : G p l e R s m args below meth c cells slots Q dC dI dA F α A nL σ pc lv (st) := fun H locs ls hW hl => lv_iload_n hC.1 hC.2.1 d hi (lv_at hl j hj) (kk H locs ls hW hl)
theorem r_iload (hC : mC p s m args c cc own nL Ts dC dI dA A) {i : Nat} {x : Int32} (d : decode cc pc = .ok (.iload i, 2)) (j : Nat) (hj : lv[j]? = some (i, .int x)) (kk : G p l e R s m args below meth c cells slots Q dC dI dA F α A nL σ (pc + 2) lv (.int x :: st)) : G p l e R s m args below meth c cells slots Q dC dI dA F α A nL σ pc lv (st) := fun H locs ls hW hl => lv_iload hC.1 hC.2.1 d (lv_at hl j hj) (kk H locs ls hW hl)
theorem r_lload_n (hC : mC p s m args c cc own nL Ts dC dI dA A) {k : Fin 4} {i : Nat} {x : Int64} (d : decode cc pc = .ok (.lload_n k, 1)) (hi : (k : Nat) = i) (j : Nat) (hj : lv[j]? = some (i, .long x)) (kk : G p l e R s m args below meth c cells slots Q dC dI dA F α A nL σ (pc + 1) lv (.long x :: st)) : G p l e R s m args below meth c cells slots Q dC dI dA F α A nL σ pc lv (st) := fun H locs ls hW hl => lv_lload_n hC.1 hC.2.1 d hi (lv_at hl j hj) (kk H locs ls hW hl)
theorem r_lload (hC : mC p s m args c cc own nL Ts dC dI dA A) {i : Nat} {x : Int64} (d : decode cc pc = .ok (.lload i, 2)) (j : Nat) (hj : lv[j]? = some (i, .long x)) (kk : G p l e R s m args below meth c cells slots Q dC dI dA F α A nL σ (pc + 2) lv (.long x :: st)) : G p l e R s m args below meth c cells slots Q dC dI dA F α A nL σ pc lv (st) := fun H locs ls hW hl => lv_lload hC.1 hC.2.1 d (lv_at hl j hj) (kk H locs ls hW hl)
theorem r_aload_n (hC : mC p s m args c cc own nL Ts dC dI dA A) {k : Fin 4} {i : Nat} {o : Option Nat} (d : decode cc pc = .ok (.aload_n k, 1)) (hi : (k : Nat) = i) (j : Nat) (hj : lv[j]? = some (i, fO α o)) (kk : G p l e R s m args below meth c cells slots Q dC dI dA F α A nL σ (pc + 1) lv (fO α o :: st)) : G p l e R s m args below meth c cells slots Q dC dI dA F α A nL σ pc lv st := by
  intro H locs ls hW hl
  cases o with
  | none => exact lv_aload_nN hC.1 hC.2.1 d hi (lv_at hl j hj) (kk H locs ls hW hl)
  | some a => exact lv_aload_n hC.1 hC.2.1 d hi (lv_at hl j hj) (kk H locs ls hW hl)
theorem r_aload (hC : mC p s m args c cc own nL Ts dC dI dA A) {i : Nat} {o : Option Nat} (d : decode cc pc = .ok (.aload i, 2)) (j : Nat) (hj : lv[j]? = some (i, fO α o)) (kk : G p l e R s m args below meth c cells slots Q dC dI dA F α A nL σ (pc + 2) lv (fO α o :: st)) : G p l e R s m args below meth c cells slots Q dC dI dA F α A nL σ pc lv st := by
  intro H locs ls hW hl
  cases o with
  | none => exact lv_aloadN hC.1 hC.2.1 d (lv_at hl j hj) (kk H locs ls hW hl)
  | some a => exact lv_aload hC.1 hC.2.1 d (lv_at hl j hj) (kk H locs ls hW hl)
theorem r_istore_n (hC : mC p s m args c cc own nL Ts dC dI dA A) {k : Fin 4} {i : Nat} {x : Int32} (d : decode cc pc = .ok (.istore_n k, 1)) (hi : (k : Nat) = i) (hn : i < nL) (h2 : (i, Value.int x) :: lv.filter (fun q => !(q.1 == i) && !(q.1 + 1 == i && q.2.category == 2)) = lv') (kk : G p l e R s m args below meth c cells slots Q dC dI dA F α A nL σ (pc + 1) lv' (st)) : G p l e R s m args below meth c cells slots Q dC dI dA F α A nL σ pc lv (.int x :: st) := fun H locs ls hW hl => lv_istore_n hC.1 hC.2.1 d hi hl hn h2 (fun ls hl => kk H locs ls hW hl)
theorem r_istore (hC : mC p s m args c cc own nL Ts dC dI dA A) {i : Nat} {x : Int32} (d : decode cc pc = .ok (.istore i, 2)) (hn : i < nL) (h2 : (i, Value.int x) :: lv.filter (fun q => !(q.1 == i) && !(q.1 + 1 == i && q.2.category == 2)) = lv') (kk : G p l e R s m args below meth c cells slots Q dC dI dA F α A nL σ (pc + 2) lv' (st)) : G p l e R s m args below meth c cells slots Q dC dI dA F α A nL σ pc lv (.int x :: st) := fun H locs ls hW hl => lv_istore hC.1 hC.2.1 d hl hn h2 (fun ls hl => kk H locs ls hW hl)
theorem r_lstore_n (hC : mC p s m args c cc own nL Ts dC dI dA A) {k : Fin 4} {i : Nat} {x : Int64} (d : decode cc pc = .ok (.lstore_n k, 1)) (hi : (k : Nat) = i) (hn : i + 1 < nL) (h2 : (i, Value.long x) :: lv.filter (fun q => !(q.1 == i) && (!(q.1 == i + 1) && !(q.1 + 1 == i && q.2.category == 2))) = lv') (kk : G p l e R s m args below meth c cells slots Q dC dI dA F α A nL σ (pc + 1) lv' (st)) : G p l e R s m args below meth c cells slots Q dC dI dA F α A nL σ pc lv (.long x :: st) := fun H locs ls hW hl => lv_lstore_n hC.1 hC.2.1 d hi hl hn h2 (fun ls hl => kk H locs ls hW hl)
theorem r_lstore (hC : mC p s m args c cc own nL Ts dC dI dA A) {i : Nat} {x : Int64} (d : decode cc pc = .ok (.lstore i, 2)) (hn : i + 1 < nL) (h2 : (i, Value.long x) :: lv.filter (fun q => !(q.1 == i) && (!(q.1 == i + 1) && !(q.1 + 1 == i && q.2.category == 2))) = lv') (kk : G p l e R s m args below meth c cells slots Q dC dI dA F α A nL σ (pc + 2) lv' (st)) : G p l e R s m args below meth c cells slots Q dC dI dA F α A nL σ pc lv (.long x :: st) := fun H locs ls hW hl => lv_lstore hC.1 hC.2.1 d hl hn h2 (fun ls hl => kk H locs ls hW hl)
theorem r_astore_n (hC : mC p s m args c cc own nL Ts dC dI dA A) {k : Fin 4} {i : Nat} {o : Option Nat} (d : decode cc pc = .ok (.astore_n k, 1)) (hi : (k : Nat) = i) (hn : i < nL) (h2 : (i, fO α o) :: lv.filter (fun q => !(q.1 == i) && !(q.1 + 1 == i && q.2.category == 2)) = lv') (kk : G p l e R s m args below meth c cells slots Q dC dI dA F α A nL σ (pc + 1) lv' st) : G p l e R s m args below meth c cells slots Q dC dI dA F α A nL σ pc lv (fO α o :: st) := by
  intro H locs ls hW hl
  cases o with
  | none => exact lv_astore_nN hC.1 hC.2.1 d hi hl hn h2 (fun ls hl => kk H locs ls hW hl)
  | some a => exact lv_astore_n hC.1 hC.2.1 d hi hl hn h2 (fun ls hl => kk H locs ls hW hl)
theorem r_astore (hC : mC p s m args c cc own nL Ts dC dI dA A) {i : Nat} {o : Option Nat} (d : decode cc pc = .ok (.astore i, 2)) (hn : i < nL) (h2 : (i, fO α o) :: lv.filter (fun q => !(q.1 == i) && !(q.1 + 1 == i && q.2.category == 2)) = lv') (kk : G p l e R s m args below meth c cells slots Q dC dI dA F α A nL σ (pc + 2) lv' st) : G p l e R s m args below meth c cells slots Q dC dI dA F α A nL σ pc lv (fO α o :: st) := by
  intro H locs ls hW hl
  cases o with
  | none => exact lv_astoreN hC.1 hC.2.1 d hl hn h2 (fun ls hl => kk H locs ls hW hl)
  | some a => exact lv_astore hC.1 hC.2.1 d hl hn h2 (fun ls hl => kk H locs ls hW hl)
theorem r_iinc (hC : mC p s m args c cc own nL Ts dC dI dA A) {i k : Nat} {n : Int} {x v : Int32} (d : decode cc pc = .ok (.iinc i n, 3)) (hk : lv[k]? = some (i, .int x)) (hv : x + Int32.ofInt n = v) (hn : i < nL) (h2 : (i, Value.int v) :: lv.filter (fun q => !(q.1 == i) && !(q.1 + 1 == i && q.2.category == 2)) = lv') (kk : G p l e R s m args below meth c cells slots Q dC dI dA F α A nL σ (pc + 3) lv' (st)) : G p l e R s m args below meth c cells slots Q dC dI dA F α A nL σ pc lv (st) := fun H locs ls hW hl => lv_iinc hC.1 hC.2.1 d hl hk hv hn h2 (fun ls hl => kk H locs ls hW hl)
theorem r_iconst (hC : mC p s m args c cc own nL Ts dC dI dA A) {n : Int} {v : Int32} (d : decode cc pc = .ok (.iconst n, 1)) (hv : Int32.ofInt n = v) (kk : G p l e R s m args below meth c cells slots Q dC dI dA F α A nL σ (pc + 1) lv (.int v :: st)) : G p l e R s m args below meth c cells slots Q dC dI dA F α A nL σ pc lv (st) := fun H locs ls hW hl => lv_iconst hC.1 hC.2.1 d hv (kk H locs ls hW hl)
theorem r_bipush (hC : mC p s m args c cc own nL Ts dC dI dA A) {n : Int} {v : Int32} (d : decode cc pc = .ok (.bipush n, 2)) (hv : (Int8.ofInt n).toInt32 = v) (kk : G p l e R s m args below meth c cells slots Q dC dI dA F α A nL σ (pc + 2) lv (.int v :: st)) : G p l e R s m args below meth c cells slots Q dC dI dA F α A nL σ pc lv (st) := fun H locs ls hW hl => lv_bipush hC.1 hC.2.1 d hv (kk H locs ls hW hl)
theorem r_sipush (hC : mC p s m args c cc own nL Ts dC dI dA A) {n : Int} {v : Int32} (d : decode cc pc = .ok (.sipush n, 3)) (hv : (Int16.ofInt n).toInt32 = v) (kk : G p l e R s m args below meth c cells slots Q dC dI dA F α A nL σ (pc + 3) lv (.int v :: st)) : G p l e R s m args below meth c cells slots Q dC dI dA F α A nL σ pc lv (st) := fun H locs ls hW hl => lv_sipush hC.1 hC.2.1 d hv (kk H locs ls hW hl)
theorem r_lconst (hC : mC p s m args c cc own nL Ts dC dI dA A) {n : Fin 2} {v : Int64} (d : decode cc pc = .ok (.lconst n, 1)) (hv : Int64.ofNat (n : Nat) = v) (kk : G p l e R s m args below meth c cells slots Q dC dI dA F α A nL σ (pc + 1) lv (.long v :: st)) : G p l e R s m args below meth c cells slots Q dC dI dA F α A nL σ pc lv (st) := fun H locs ls hW hl => lv_lconst hC.1 hC.2.1 d hv (kk H locs ls hW hl)
theorem r_null (hC : mC p s m args c cc own nL Ts dC dI dA A) (d : decode cc pc = .ok (.aconst_null, 1)) (kk : G p l e R s m args below meth c cells slots Q dC dI dA F α A nL σ (pc + 1) lv (fO α none :: st)) : G p l e R s m args below meth c cells slots Q dC dI dA F α A nL σ pc lv (st) := fun H locs ls hW hl => lv_null hC.1 hC.2.1 d (kk H locs ls hW hl)
theorem r_ldc (hC : mC p s m args c cc own nL Ts dC dI dA A) {index : Nat} {v : Int32} (hw : Jvm.Cond.constant own index v ∈ Ts) (d : decode cc pc = .ok (.ldc index, 2)) (kk : G p l e R s m args below meth c cells slots Q dC dI dA F α A nL σ (pc + 2) lv (.int v :: st)) : G p l e R s m args below meth c cells slots Q dC dI dA F α A nL σ pc lv (st) := fun H locs ls hW hl => lv_ldc hC.1 hC.2.1 hC.2.2.2.1 (hC.2.2.2.2.1 _ hw) d (kk H locs ls hW hl)
theorem r_ldcw (hC : mC p s m args c cc own nL Ts dC dI dA A) {index : Nat} {v : Int32} (hw : Jvm.Cond.constant own index v ∈ Ts) (d : decode cc pc = .ok (.ldc_w index, 3)) (kk : G p l e R s m args below meth c cells slots Q dC dI dA F α A nL σ (pc + 3) lv (.int v :: st)) : G p l e R s m args below meth c cells slots Q dC dI dA F α A nL σ pc lv (st) := fun H locs ls hW hl => lv_ldcw hC.1 hC.2.1 hC.2.2.2.1 (hC.2.2.2.2.1 _ hw) d (kk H locs ls hW hl)
theorem r_ldc2 (hC : mC p s m args c cc own nL Ts dC dI dA A) {index : Nat} {v : Int64} (hw : Jvm.Cond.constantLong own index v ∈ Ts) (d : decode cc pc = .ok (.ldc2_w index, 3)) (kk : G p l e R s m args below meth c cells slots Q dC dI dA F α A nL σ (pc + 3) lv (.long v :: st)) : G p l e R s m args below meth c cells slots Q dC dI dA F α A nL σ pc lv (st) := fun H locs ls hW hl => lv_ldc2 hC.1 hC.2.1 hC.2.2.2.1 (hC.2.2.2.2.1 _ hw) d (kk H locs ls hW hl)
theorem r_iadd (hC : mC p s m args c cc own nL Ts dC dI dA A) {x y : Int32} (d : decode cc pc = .ok (.iadd, 1)) (kk : G p l e R s m args below meth c cells slots Q dC dI dA F α A nL σ (pc + 1) lv (.int (x + y) :: st)) : G p l e R s m args below meth c cells slots Q dC dI dA F α A nL σ pc lv (.int y :: .int x :: st) := fun H locs ls hW hl => lv_iadd hC.1 hC.2.1 d (kk H locs ls hW hl)
theorem r_isub (hC : mC p s m args c cc own nL Ts dC dI dA A) {x y : Int32} (d : decode cc pc = .ok (.isub, 1)) (kk : G p l e R s m args below meth c cells slots Q dC dI dA F α A nL σ (pc + 1) lv (.int (x - y) :: st)) : G p l e R s m args below meth c cells slots Q dC dI dA F α A nL σ pc lv (.int y :: .int x :: st) := fun H locs ls hW hl => lv_isub hC.1 hC.2.1 d (kk H locs ls hW hl)
theorem r_imul (hC : mC p s m args c cc own nL Ts dC dI dA A) {x y : Int32} (d : decode cc pc = .ok (.imul, 1)) (kk : G p l e R s m args below meth c cells slots Q dC dI dA F α A nL σ (pc + 1) lv (.int (x * y) :: st)) : G p l e R s m args below meth c cells slots Q dC dI dA F α A nL σ pc lv (.int y :: .int x :: st) := fun H locs ls hW hl => lv_imul hC.1 hC.2.1 d (kk H locs ls hW hl)
theorem r_iand (hC : mC p s m args c cc own nL Ts dC dI dA A) {x y : Int32} (d : decode cc pc = .ok (.iand, 1)) (kk : G p l e R s m args below meth c cells slots Q dC dI dA F α A nL σ (pc + 1) lv (.int (x &&& y) :: st)) : G p l e R s m args below meth c cells slots Q dC dI dA F α A nL σ pc lv (.int y :: .int x :: st) := fun H locs ls hW hl => lv_iand hC.1 hC.2.1 d (kk H locs ls hW hl)
theorem r_ior (hC : mC p s m args c cc own nL Ts dC dI dA A) {x y : Int32} (d : decode cc pc = .ok (.ior, 1)) (kk : G p l e R s m args below meth c cells slots Q dC dI dA F α A nL σ (pc + 1) lv (.int (x ||| y) :: st)) : G p l e R s m args below meth c cells slots Q dC dI dA F α A nL σ pc lv (.int y :: .int x :: st) := fun H locs ls hW hl => lv_ior hC.1 hC.2.1 d (kk H locs ls hW hl)
theorem r_ixor (hC : mC p s m args c cc own nL Ts dC dI dA A) {x y : Int32} (d : decode cc pc = .ok (.ixor, 1)) (kk : G p l e R s m args below meth c cells slots Q dC dI dA F α A nL σ (pc + 1) lv (.int (x ^^^ y) :: st)) : G p l e R s m args below meth c cells slots Q dC dI dA F α A nL σ pc lv (.int y :: .int x :: st) := fun H locs ls hW hl => lv_ixor hC.1 hC.2.1 d (kk H locs ls hW hl)
theorem r_ishl (hC : mC p s m args c cc own nL Ts dC dI dA A) {x y : Int32} (d : decode cc pc = .ok (.ishl, 1)) (kk : G p l e R s m args below meth c cells slots Q dC dI dA F α A nL σ (pc + 1) lv (.int (x <<< (y &&& 31)) :: st)) : G p l e R s m args below meth c cells slots Q dC dI dA F α A nL σ pc lv (.int y :: .int x :: st) := fun H locs ls hW hl => lv_ishl hC.1 hC.2.1 d (kk H locs ls hW hl)
theorem r_ishr (hC : mC p s m args c cc own nL Ts dC dI dA A) {x y : Int32} (d : decode cc pc = .ok (.ishr, 1)) (kk : G p l e R s m args below meth c cells slots Q dC dI dA F α A nL σ (pc + 1) lv (.int (x >>> (y &&& 31)) :: st)) : G p l e R s m args below meth c cells slots Q dC dI dA F α A nL σ pc lv (.int y :: .int x :: st) := fun H locs ls hW hl => lv_ishr hC.1 hC.2.1 d (kk H locs ls hW hl)
theorem r_iushr (hC : mC p s m args c cc own nL Ts dC dI dA A) {x y : Int32} (d : decode cc pc = .ok (.iushr, 1)) (kk : G p l e R s m args below meth c cells slots Q dC dI dA F α A nL σ (pc + 1) lv (.int ((x.toUInt32 >>> (y.toUInt32 &&& Int32.toUInt32 31)).toInt32) :: st)) : G p l e R s m args below meth c cells slots Q dC dI dA F α A nL σ pc lv (.int y :: .int x :: st) := fun H locs ls hW hl => lv_iushr hC.1 hC.2.1 d rfl (kk H locs ls hW hl)
theorem r_ineg (hC : mC p s m args c cc own nL Ts dC dI dA A) {x : Int32} (d : decode cc pc = .ok (.ineg, 1)) (kk : G p l e R s m args below meth c cells slots Q dC dI dA F α A nL σ (pc + 1) lv (.int (-x) :: st)) : G p l e R s m args below meth c cells slots Q dC dI dA F α A nL σ pc lv (.int x :: st) := fun H locs ls hW hl => lv_ineg hC.1 hC.2.1 d (kk H locs ls hW hl)
theorem r_ladd (hC : mC p s m args c cc own nL Ts dC dI dA A) {x y : Int64} (d : decode cc pc = .ok (.ladd, 1)) (kk : G p l e R s m args below meth c cells slots Q dC dI dA F α A nL σ (pc + 1) lv (.long (x + y) :: st)) : G p l e R s m args below meth c cells slots Q dC dI dA F α A nL σ pc lv (.long y :: .long x :: st) := fun H locs ls hW hl => lv_ladd hC.1 hC.2.1 d (kk H locs ls hW hl)
theorem r_lsub (hC : mC p s m args c cc own nL Ts dC dI dA A) {x y : Int64} (d : decode cc pc = .ok (.lsub, 1)) (kk : G p l e R s m args below meth c cells slots Q dC dI dA F α A nL σ (pc + 1) lv (.long (x - y) :: st)) : G p l e R s m args below meth c cells slots Q dC dI dA F α A nL σ pc lv (.long y :: .long x :: st) := fun H locs ls hW hl => lv_lsub hC.1 hC.2.1 d (kk H locs ls hW hl)
theorem r_lmul (hC : mC p s m args c cc own nL Ts dC dI dA A) {x y : Int64} (d : decode cc pc = .ok (.lmul, 1)) (kk : G p l e R s m args below meth c cells slots Q dC dI dA F α A nL σ (pc + 1) lv (.long (x * y) :: st)) : G p l e R s m args below meth c cells slots Q dC dI dA F α A nL σ pc lv (.long y :: .long x :: st) := fun H locs ls hW hl => lv_lmul hC.1 hC.2.1 d (kk H locs ls hW hl)
theorem r_lneg (hC : mC p s m args c cc own nL Ts dC dI dA A) {x : Int64} (d : decode cc pc = .ok (.lneg, 1)) (kk : G p l e R s m args below meth c cells slots Q dC dI dA F α A nL σ (pc + 1) lv (.long (-x) :: st)) : G p l e R s m args below meth c cells slots Q dC dI dA F α A nL σ pc lv (.long x :: st) := fun H locs ls hW hl => lv_lneg hC.1 hC.2.1 d (kk H locs ls hW hl)
theorem r_ldiv (hC : mC p s m args c cc own nL Ts dC dI dA A) {x y : Int64} (hne : ¬ y = 0) (d : decode cc pc = .ok (.ldiv, 1)) (kk : G p l e R s m args below meth c cells slots Q dC dI dA F α A nL σ (pc + 1) lv (.long (x / y) :: st)) : G p l e R s m args below meth c cells slots Q dC dI dA F α A nL σ pc lv (.long y :: .long x :: st) := fun H locs ls hW hl => lv_ldiv hC.1 hC.2.1 d hne (kk H locs ls hW hl)
theorem r_lrem (hC : mC p s m args c cc own nL Ts dC dI dA A) {x y : Int64} (hne : ¬ y = 0) (d : decode cc pc = .ok (.lrem, 1)) (kk : G p l e R s m args below meth c cells slots Q dC dI dA F α A nL σ (pc + 1) lv (.long (x - x / y * y) :: st)) : G p l e R s m args below meth c cells slots Q dC dI dA F α A nL σ pc lv (.long y :: .long x :: st) := fun H locs ls hW hl => lv_lrem hC.1 hC.2.1 d hne (kk H locs ls hW hl)
theorem r_i2l (hC : mC p s m args c cc own nL Ts dC dI dA A) {x : Int32} (d : decode cc pc = .ok (.i2l, 1)) (kk : G p l e R s m args below meth c cells slots Q dC dI dA F α A nL σ (pc + 1) lv (.long x.toInt64 :: st)) : G p l e R s m args below meth c cells slots Q dC dI dA F α A nL σ pc lv (.int x :: st) := fun H locs ls hW hl => lv_i2l hC.1 hC.2.1 d rfl (kk H locs ls hW hl)
theorem r_l2i (hC : mC p s m args c cc own nL Ts dC dI dA A) {x : Int64} (d : decode cc pc = .ok (.l2i, 1)) (kk : G p l e R s m args below meth c cells slots Q dC dI dA F α A nL σ (pc + 1) lv (.int x.toInt32 :: st)) : G p l e R s m args below meth c cells slots Q dC dI dA F α A nL σ pc lv (.long x :: st) := fun H locs ls hW hl => lv_l2i hC.1 hC.2.1 d rfl (kk H locs ls hW hl)
theorem r_dup (hC : mC p s m args c cc own nL Ts dC dI dA A) {va : Value} (hva : va.category = 1) (d : decode cc pc = .ok (.dup, 1)) (kk : G p l e R s m args below meth c cells slots Q dC dI dA F α A nL σ (pc + 1) lv (va :: va :: st)) : G p l e R s m args below meth c cells slots Q dC dI dA F α A nL σ pc lv (va :: st) := fun H locs ls hW hl => lv_dup hC.1 hC.2.1 d hva (kk H locs ls hW hl)
theorem r_pop (hC : mC p s m args c cc own nL Ts dC dI dA A) {va : Value} (hva : va.category = 1) (d : decode cc pc = .ok (.pop, 1)) (kk : G p l e R s m args below meth c cells slots Q dC dI dA F α A nL σ (pc + 1) lv (st)) : G p l e R s m args below meth c cells slots Q dC dI dA F α A nL σ pc lv (va :: st) := fun H locs ls hW hl => lv_pop hC.1 hC.2.1 d hva (kk H locs ls hW hl)
theorem r_dup2 (hC : mC p s m args c cc own nL Ts dC dI dA A) {va vb : Value} (hva : va.category = 1) (hvb : vb.category = 1) (d : decode cc pc = .ok (.dup2, 1)) (kk : G p l e R s m args below meth c cells slots Q dC dI dA F α A nL σ (pc + 1) lv (va :: vb :: va :: vb :: st)) : G p l e R s m args below meth c cells slots Q dC dI dA F α A nL σ pc lv (va :: vb :: st) := fun H locs ls hW hl => lv_dup2_11 hC.1 hC.2.1 d hva hvb (kk H locs ls hW hl)
theorem r_dup_x1 (hC : mC p s m args c cc own nL Ts dC dI dA A) {va vb : Value} (hva : va.category = 1) (hvb : vb.category = 1) (d : decode cc pc = .ok (.dup_x1, 1)) (kk : G p l e R s m args below meth c cells slots Q dC dI dA F α A nL σ (pc + 1) lv (va :: vb :: va :: st)) : G p l e R s m args below meth c cells slots Q dC dI dA F α A nL σ pc lv (va :: vb :: st) := fun H locs ls hW hl => lv_dup_x1 hC.1 hC.2.1 d hva hvb (kk H locs ls hW hl)
theorem r_goto (hC : mC p s m args c cc own nL Ts dC dI dA A) {off : Int} {tgt : Nat} (d : decode cc pc = .ok (.goto off, 3)) (ht : (pc : Int) + off = (tgt : Int)) (kk : G p l e R s m args below meth c cells slots Q dC dI dA F α A nL σ (tgt) lv (st)) : G p l e R s m args below meth c cells slots Q dC dI dA F α A nL σ pc lv (st) := fun H locs ls hW hl => lv_goto hC.1 hC.2.1 d ht (kk H locs ls hW hl)
theorem r_if_eq (hC : mC p s m args c cc own nL Ts dC dI dA A) {x : Int32} {off : Int} {tgt : Nat} (d : decode cc pc = .ok (.ifCond .eq off, 3)) (ht : (pc : Int) + off = (tgt : Int)) (kt : x = 0 → G p l e R s m args below meth c cells slots Q dC dI dA F α A nL σ tgt lv st) (kf : ¬ (x = 0) → G p l e R s m args below meth c cells slots Q dC dI dA F α A nL σ (pc + 3) lv st) : G p l e R s m args below meth c cells slots Q dC dI dA F α A nL σ pc lv (.int x :: st) := fun H locs ls hW hl => lv_if_eq hC.1 hC.2.1 d ht (fun q => kt q H locs ls hW hl) (fun q => kf q H locs ls hW hl)
theorem r_if_ne (hC : mC p s m args c cc own nL Ts dC dI dA A) {x : Int32} {off : Int} {tgt : Nat} (d : decode cc pc = .ok (.ifCond .ne off, 3)) (ht : (pc : Int) + off = (tgt : Int)) (kt : ¬ x = 0 → G p l e R s m args below meth c cells slots Q dC dI dA F α A nL σ tgt lv st) (kf : ¬ (¬ x = 0) → G p l e R s m args below meth c cells slots Q dC dI dA F α A nL σ (pc + 3) lv st) : G p l e R s m args below meth c cells slots Q dC dI dA F α A nL σ pc lv (.int x :: st) := fun H locs ls hW hl => lv_if_ne hC.1 hC.2.1 d ht (fun q => kt q H locs ls hW hl) (fun q => kf (fun z => z q) H locs ls hW hl)
theorem r_if_lt (hC : mC p s m args c cc own nL Ts dC dI dA A) {x : Int32} {off : Int} {tgt : Nat} (d : decode cc pc = .ok (.ifCond .lt off, 3)) (ht : (pc : Int) + off = (tgt : Int)) (kt : x < 0 → G p l e R s m args below meth c cells slots Q dC dI dA F α A nL σ tgt lv st) (kf : ¬ (x < 0) → G p l e R s m args below meth c cells slots Q dC dI dA F α A nL σ (pc + 3) lv st) : G p l e R s m args below meth c cells slots Q dC dI dA F α A nL σ pc lv (.int x :: st) := fun H locs ls hW hl => lv_if_lt hC.1 hC.2.1 d ht (fun q => kt q H locs ls hW hl) (fun q => kf q H locs ls hW hl)
theorem r_if_ge (hC : mC p s m args c cc own nL Ts dC dI dA A) {x : Int32} {off : Int} {tgt : Nat} (d : decode cc pc = .ok (.ifCond .ge off, 3)) (ht : (pc : Int) + off = (tgt : Int)) (kt : 0 ≤ x → G p l e R s m args below meth c cells slots Q dC dI dA F α A nL σ tgt lv st) (kf : ¬ (0 ≤ x) → G p l e R s m args below meth c cells slots Q dC dI dA F α A nL σ (pc + 3) lv st) : G p l e R s m args below meth c cells slots Q dC dI dA F α A nL σ pc lv (.int x :: st) := fun H locs ls hW hl => lv_if_ge hC.1 hC.2.1 d ht (fun q => kt q H locs ls hW hl) (fun q => kf q H locs ls hW hl)
theorem r_if_gt (hC : mC p s m args c cc own nL Ts dC dI dA A) {x : Int32} {off : Int} {tgt : Nat} (d : decode cc pc = .ok (.ifCond .gt off, 3)) (ht : (pc : Int) + off = (tgt : Int)) (kt : 0 < x → G p l e R s m args below meth c cells slots Q dC dI dA F α A nL σ tgt lv st) (kf : ¬ (0 < x) → G p l e R s m args below meth c cells slots Q dC dI dA F α A nL σ (pc + 3) lv st) : G p l e R s m args below meth c cells slots Q dC dI dA F α A nL σ pc lv (.int x :: st) := fun H locs ls hW hl => lv_if_gt hC.1 hC.2.1 d ht (fun q => kt q H locs ls hW hl) (fun q => kf q H locs ls hW hl)
theorem r_if_le (hC : mC p s m args c cc own nL Ts dC dI dA A) {x : Int32} {off : Int} {tgt : Nat} (d : decode cc pc = .ok (.ifCond .le off, 3)) (ht : (pc : Int) + off = (tgt : Int)) (kt : x ≤ 0 → G p l e R s m args below meth c cells slots Q dC dI dA F α A nL σ tgt lv st) (kf : ¬ (x ≤ 0) → G p l e R s m args below meth c cells slots Q dC dI dA F α A nL σ (pc + 3) lv st) : G p l e R s m args below meth c cells slots Q dC dI dA F α A nL σ pc lv (.int x :: st) := fun H locs ls hW hl => lv_if_le hC.1 hC.2.1 d ht (fun q => kt q H locs ls hW hl) (fun q => kf q H locs ls hW hl)
theorem r_icmp_eq (hC : mC p s m args c cc own nL Ts dC dI dA A) {x y : Int32} {off : Int} {tgt : Nat} (d : decode cc pc = .ok (.if_icmp .eq off, 3)) (ht : (pc : Int) + off = (tgt : Int)) (kt : x = y → G p l e R s m args below meth c cells slots Q dC dI dA F α A nL σ tgt lv st) (kf : ¬ (x = y) → G p l e R s m args below meth c cells slots Q dC dI dA F α A nL σ (pc + 3) lv st) : G p l e R s m args below meth c cells slots Q dC dI dA F α A nL σ pc lv (.int y :: .int x :: st) := fun H locs ls hW hl => lv_icmp_eq hC.1 hC.2.1 d ht (fun q => kt q H locs ls hW hl) (fun q => kf q H locs ls hW hl)
theorem r_icmp_ne (hC : mC p s m args c cc own nL Ts dC dI dA A) {x y : Int32} {off : Int} {tgt : Nat} (d : decode cc pc = .ok (.if_icmp .ne off, 3)) (ht : (pc : Int) + off = (tgt : Int)) (kt : ¬ x = y → G p l e R s m args below meth c cells slots Q dC dI dA F α A nL σ tgt lv st) (kf : ¬ (¬ x = y) → G p l e R s m args below meth c cells slots Q dC dI dA F α A nL σ (pc + 3) lv st) : G p l e R s m args below meth c cells slots Q dC dI dA F α A nL σ pc lv (.int y :: .int x :: st) := fun H locs ls hW hl => lv_icmp_ne hC.1 hC.2.1 d ht (fun q => kt q H locs ls hW hl) (fun q => kf (fun z => z q) H locs ls hW hl)
theorem r_icmp_lt (hC : mC p s m args c cc own nL Ts dC dI dA A) {x y : Int32} {off : Int} {tgt : Nat} (d : decode cc pc = .ok (.if_icmp .lt off, 3)) (ht : (pc : Int) + off = (tgt : Int)) (kt : x < y → G p l e R s m args below meth c cells slots Q dC dI dA F α A nL σ tgt lv st) (kf : ¬ (x < y) → G p l e R s m args below meth c cells slots Q dC dI dA F α A nL σ (pc + 3) lv st) : G p l e R s m args below meth c cells slots Q dC dI dA F α A nL σ pc lv (.int y :: .int x :: st) := fun H locs ls hW hl => lv_icmp_lt hC.1 hC.2.1 d ht (fun q => kt q H locs ls hW hl) (fun q => kf q H locs ls hW hl)
theorem r_icmp_ge (hC : mC p s m args c cc own nL Ts dC dI dA A) {x y : Int32} {off : Int} {tgt : Nat} (d : decode cc pc = .ok (.if_icmp .ge off, 3)) (ht : (pc : Int) + off = (tgt : Int)) (kt : y ≤ x → G p l e R s m args below meth c cells slots Q dC dI dA F α A nL σ tgt lv st) (kf : ¬ (y ≤ x) → G p l e R s m args below meth c cells slots Q dC dI dA F α A nL σ (pc + 3) lv st) : G p l e R s m args below meth c cells slots Q dC dI dA F α A nL σ pc lv (.int y :: .int x :: st) := fun H locs ls hW hl => lv_icmp_ge hC.1 hC.2.1 d ht (fun q => kt q H locs ls hW hl) (fun q => kf q H locs ls hW hl)
theorem r_icmp_gt (hC : mC p s m args c cc own nL Ts dC dI dA A) {x y : Int32} {off : Int} {tgt : Nat} (d : decode cc pc = .ok (.if_icmp .gt off, 3)) (ht : (pc : Int) + off = (tgt : Int)) (kt : y < x → G p l e R s m args below meth c cells slots Q dC dI dA F α A nL σ tgt lv st) (kf : ¬ (y < x) → G p l e R s m args below meth c cells slots Q dC dI dA F α A nL σ (pc + 3) lv st) : G p l e R s m args below meth c cells slots Q dC dI dA F α A nL σ pc lv (.int y :: .int x :: st) := fun H locs ls hW hl => lv_icmp_gt hC.1 hC.2.1 d ht (fun q => kt q H locs ls hW hl) (fun q => kf q H locs ls hW hl)
theorem r_icmp_le (hC : mC p s m args c cc own nL Ts dC dI dA A) {x y : Int32} {off : Int} {tgt : Nat} (d : decode cc pc = .ok (.if_icmp .le off, 3)) (ht : (pc : Int) + off = (tgt : Int)) (kt : x ≤ y → G p l e R s m args below meth c cells slots Q dC dI dA F α A nL σ tgt lv st) (kf : ¬ (x ≤ y) → G p l e R s m args below meth c cells slots Q dC dI dA F α A nL σ (pc + 3) lv st) : G p l e R s m args below meth c cells slots Q dC dI dA F α A nL σ pc lv (.int y :: .int x :: st) := fun H locs ls hW hl => lv_icmp_le hC.1 hC.2.1 d ht (fun q => kt q H locs ls hW hl) (fun q => kf q H locs ls hW hl)
theorem r_lcmp_le (hC : mC p s m args c cc own nL Ts dC dI dA A) {x y : Int64} {off : Int} {tgt : Nat} (d0 : decode cc pc = .ok (.lcmp, 1)) (d : decode cc (pc + 1) = .ok (.ifCond .le off, 3)) (ht : ((pc + 1 : Nat) : Int) + off = (tgt : Int)) (kt : x ≤ y → G p l e R s m args below meth c cells slots Q dC dI dA F α A nL σ tgt lv st) (kf : ¬ (x ≤ y) → G p l e R s m args below meth c cells slots Q dC dI dA F α A nL σ (pc + 4) lv st) : G p l e R s m args below meth c cells slots Q dC dI dA F α A nL σ pc lv (.long y :: .long x :: st) := fun H locs ls hW hl => W.lcmp hC.1 hC.2.1 d0 (lv_if_le hC.1 hC.2.1 d ht (fun q => kt ((lg_cmp_le x y).mp q) H locs ls hW hl) (fun q => kf (fun z => q ((lg_cmp_le x y).mpr z)) H locs ls hW hl))
theorem r_lcmp_lt (hC : mC p s m args c cc own nL Ts dC dI dA A) {x y : Int64} {off : Int} {tgt : Nat} (d0 : decode cc pc = .ok (.lcmp, 1)) (d : decode cc (pc + 1) = .ok (.ifCond .lt off, 3)) (ht : ((pc + 1 : Nat) : Int) + off = (tgt : Int)) (kt : x < y → G p l e R s m args below meth c cells slots Q dC dI dA F α A nL σ tgt lv st) (kf : ¬ (x < y) → G p l e R s m args below meth c cells slots Q dC dI dA F α A nL σ (pc + 4) lv st) : G p l e R s m args below meth c cells slots Q dC dI dA F α A nL σ pc lv (.long y :: .long x :: st) := fun H locs ls hW hl => W.lcmp hC.1 hC.2.1 d0 (lv_if_lt hC.1 hC.2.1 d ht (fun q => kt ((lg_cmp_lt x y).mp q) H locs ls hW hl) (fun q => kf (fun z => q ((lg_cmp_lt x y).mpr z)) H locs ls hW hl))
theorem r_lcmp_gt (hC : mC p s m args c cc own nL Ts dC dI dA A) {x y : Int64} {off : Int} {tgt : Nat} (d0 : decode cc pc = .ok (.lcmp, 1)) (d : decode cc (pc + 1) = .ok (.ifCond .gt off, 3)) (ht : ((pc + 1 : Nat) : Int) + off = (tgt : Int)) (kt : y < x → G p l e R s m args below meth c cells slots Q dC dI dA F α A nL σ tgt lv st) (kf : ¬ (y < x) → G p l e R s m args below meth c cells slots Q dC dI dA F α A nL σ (pc + 4) lv st) : G p l e R s m args below meth c cells slots Q dC dI dA F α A nL σ pc lv (.long y :: .long x :: st) := fun H locs ls hW hl => W.lcmp hC.1 hC.2.1 d0 (lv_if_gt hC.1 hC.2.1 d ht (fun q => kt ((lg_cmp_gt x y).mp q) H locs ls hW hl) (fun q => kf (fun z => q ((lg_cmp_gt x y).mpr z)) H locs ls hW hl))
theorem r_lcmp_ge (hC : mC p s m args c cc own nL Ts dC dI dA A) {x y : Int64} {off : Int} {tgt : Nat} (d0 : decode cc pc = .ok (.lcmp, 1)) (d : decode cc (pc + 1) = .ok (.ifCond .ge off, 3)) (ht : ((pc + 1 : Nat) : Int) + off = (tgt : Int)) (kt : y ≤ x → G p l e R s m args below meth c cells slots Q dC dI dA F α A nL σ tgt lv st) (kf : ¬ (y ≤ x) → G p l e R s m args below meth c cells slots Q dC dI dA F α A nL σ (pc + 4) lv st) : G p l e R s m args below meth c cells slots Q dC dI dA F α A nL σ pc lv (.long y :: .long x :: st) := fun H locs ls hW hl => W.lcmp hC.1 hC.2.1 d0 (lv_if_ge hC.1 hC.2.1 d ht (fun q => kt ((lg_cmp_ge x y).mp q) H locs ls hW hl) (fun q => kf (fun z => q ((lg_cmp_ge x y).mpr z)) H locs ls hW hl))
theorem r_lcmp_eq (hC : mC p s m args c cc own nL Ts dC dI dA A) {x y : Int64} {off : Int} {tgt : Nat} (d0 : decode cc pc = .ok (.lcmp, 1)) (d : decode cc (pc + 1) = .ok (.ifCond .eq off, 3)) (ht : ((pc + 1 : Nat) : Int) + off = (tgt : Int)) (kt : x = y → G p l e R s m args below meth c cells slots Q dC dI dA F α A nL σ tgt lv st) (kf : ¬ (x = y) → G p l e R s m args below meth c cells slots Q dC dI dA F α A nL σ (pc + 4) lv st) : G p l e R s m args below meth c cells slots Q dC dI dA F α A nL σ pc lv (.long y :: .long x :: st) := fun H locs ls hW hl => W.lcmp hC.1 hC.2.1 d0 (lv_if_eq hC.1 hC.2.1 d ht (fun q => kt ((lg_cmp_eq x y).mp q) H locs ls hW hl) (fun q => kf (fun z => q ((lg_cmp_eq x y).mpr z)) H locs ls hW hl))
theorem r_lcmp_ne (hC : mC p s m args c cc own nL Ts dC dI dA A) {x y : Int64} {off : Int} {tgt : Nat} (d0 : decode cc pc = .ok (.lcmp, 1)) (d : decode cc (pc + 1) = .ok (.ifCond .ne off, 3)) (ht : ((pc + 1 : Nat) : Int) + off = (tgt : Int)) (kt : ¬ x = y → G p l e R s m args below meth c cells slots Q dC dI dA F α A nL σ tgt lv st) (kf : ¬ (¬ x = y) → G p l e R s m args below meth c cells slots Q dC dI dA F α A nL σ (pc + 4) lv st) : G p l e R s m args below meth c cells slots Q dC dI dA F α A nL σ pc lv (.long y :: .long x :: st) := fun H locs ls hW hl => W.lcmp hC.1 hC.2.1 d0 (lv_if_ne hC.1 hC.2.1 d ht (fun q => kt (fun z => q ((lg_cmp_eq x y).mpr z)) H locs ls hW hl) (fun q => kf (fun z => z ((lg_cmp_eq x y).mp q)) H locs ls hW hl))
theorem fO_nar {α : Nat → Nat} {o : Option Nat} (C : String) : narrow (.object C) (fO α o) = fO α o := by cases o <;> rfl
theorem fO_fit {α : Nat → Nat} {o : Option Nat} (C : String) : fits (.object C) (fO α o) = true := by cases o <;> rfl
theorem fO_cat {α : Nat → Nat} {o : Option Nat} : (fO α o).category = 1 := by cases o <;> rfl
theorem r_ifnull (hC : mC p s m args c cc own nL Ts dC dI dA A) {o : Option Nat} {off : Int} {tgt : Nat} (d : decode cc pc = .ok (.ifnull off, 3)) (ht : (pc : Int) + off = (tgt : Int)) (kt : o = none → G p l e R s m args below meth c cells slots Q dC dI dA F α A nL σ tgt lv st) (kf : ∀ k, o = some k → G p l e R s m args below meth c cells slots Q dC dI dA F α A nL σ (pc + 3) lv st) : G p l e R s m args below meth c cells slots Q dC dI dA F α A nL σ pc lv (fO α o :: st) := by
  intro H locs ls hW hl
  cases o with
  | none => exact lv_ifnullN hC.1 hC.2.1 d ht (kt rfl H locs ls hW hl)
  | some a => exact lv_ifnull hC.1 hC.2.1 d (kf a rfl H locs ls hW hl)
theorem r_ifnonnull (hC : mC p s m args c cc own nL Ts dC dI dA A) {o : Option Nat} {off : Int} {tgt : Nat} (d : decode cc pc = .ok (.ifnonnull off, 3)) (ht : (pc : Int) + off = (tgt : Int)) (kt : ∀ k, o = some k → G p l e R s m args below meth c cells slots Q dC dI dA F α A nL σ tgt lv st) (kf : o = none → G p l e R s m args below meth c cells slots Q dC dI dA F α A nL σ (pc + 3) lv st) : G p l e R s m args below meth c cells slots Q dC dI dA F α A nL σ pc lv (fO α o :: st) := by
  intro H locs ls hW hl
  cases o with
  | none => exact lv_ifnonnullN hC.1 hC.2.1 d (kf rfl H locs ls hW hl)
  | some a => exact lv_ifnonnull hC.1 hC.2.1 d ht (kt a rfl H locs ls hW hl)
def lO (F : List Nat) (o : Option Nat) : Prop := ∀ k, o = some k → k ∈ F
theorem fO_inj {σ : Mm} {H : Heap} {locs : List Loc} (hW : mW s dC dI dA F α A σ H locs) {x y : Option Nat} (hx : lO F x) (hy : lO F y) : x.map α = y.map α ↔ x = y := by
  constructor
  · intro h
    cases x with
    | none => cases y with
      | none => rfl
      | some b => simp at h
    | some a => cases y with
      | none => simp at h
      | some b =>
        have he : α a = α b := by simpa using h
        obtain ⟨q, hq⟩ := wl_mem (hx a rfl)
        obtain ⟨r, hr⟩ := wl_mem (hy b rfl)
        have := hW.2.1.1 q r _ _ (wl_at hq) (wl_at hr) he
        subst this
        rw [hq] at hr
        exact hr
  · intro h; rw [h]
theorem r_acmp_eq (hC : mC p s m args c cc own nL Ts dC dI dA A) {x y : Option Nat} {off : Int} {tgt : Nat} (hx : lO F x) (hy : lO F y) (d : decode cc pc = .ok (.if_acmp .eq off, 3)) (ht : (pc : Int) + off = (tgt : Int)) (kt : x = y → G p l e R s m args below meth c cells slots Q dC dI dA F α A nL σ tgt lv st) (kf : ¬ (x = y) → G p l e R s m args below meth c cells slots Q dC dI dA F α A nL σ (pc + 3) lv st) : G p l e R s m args below meth c cells slots Q dC dI dA F α A nL σ pc lv (fO α y :: fO α x :: st) := fun H locs ls hW hl => lv_acmp_eq hC.1 hC.2.1 d ht (fun q => kt ((fO_inj hW hx hy).mp q) H locs ls hW hl) (fun q => kf (fun z => q ((fO_inj hW hx hy).mpr z)) H locs ls hW hl)
theorem r_acmp_ne (hC : mC p s m args c cc own nL Ts dC dI dA A) {x y : Option Nat} {off : Int} {tgt : Nat} (hx : lO F x) (hy : lO F y) (d : decode cc pc = .ok (.if_acmp .ne off, 3)) (ht : (pc : Int) + off = (tgt : Int)) (kt : ¬ x = y → G p l e R s m args below meth c cells slots Q dC dI dA F α A nL σ tgt lv st) (kf : ¬ (¬ x = y) → G p l e R s m args below meth c cells slots Q dC dI dA F α A nL σ (pc + 3) lv st) : G p l e R s m args below meth c cells slots Q dC dI dA F α A nL σ pc lv (fO α y :: fO α x :: st) := fun H locs ls hW hl => lv_acmp_ne hC.1 hC.2.1 d ht (fun q => kt (fun z => q ((fO_inj hW hx hy).mpr z)) H locs ls hW hl) (fun q => kf (fun z => z ((fO_inj hW hx hy).mp q)) H locs ls hW hl)
theorem r_get (hC : mC p s m args c cc own nL Ts dC dI dA A) {ci f N idx k : Nat} {C : String} {T : u_T} (hin : ∀ w ∈ u_ws C T N, w ∈ Ts) (hc : vwCl[ci]? = some (C, T, N)) (hf : f < N) {nm ds : String} (hTf : T f = (C, nm, ds, (T f).2.2.2)) (hlink : Cond.fieldLink own idx C nm ds ∈ Ts) (hk : k ∈ F) {fs : List Value} (hct : ct dA α σ k = .inr (ci, fs)) {v : Value} (hv : fs[f]? = some v) (d : decode cc pc = .ok (.getfield idx, 3)) (kk : G p l e R s m args below meth c cells slots Q dC dI dA F α A nL σ (pc + 3) lv (v :: st)) : G p l e R s m args below meth c cells slots Q dC dI dA F α A nL σ pc lv (fO α (some k) :: st) := by
  intro H locs ls hW hl
  obtain ⟨q, hq⟩ := wl_mem hk
  have hq2 := wl_at (dA := dA) (α := α) (σ := σ) hq
  rw [hct] at hq2
  have h1 : (T f).1 = C := by rw [hTf]
  have h2 : (T f).2.1 = nm := by rw [hTf]
  have h3 : (T f).2.2.1 = ds := by rw [hTf]
  exact va_get (D := (dC, dI)) hC.1 hC.2.1 hC.2.2.2.2.1 hin hC.2.2.2.1 hC.2.2.2.2.2.1 hW.1 q hq2 hc f hf (by rw [h2, h3]; exact hC.2.2.2.2.1 _ hlink) (fun x h => by rw [h1] at h; exact h) hv d (kk H locs ls hW hl)
theorem r_put (hC : mC p s m args c cc own nL Ts dC dI dA A) {ci f N idx k : Nat} {C : String} {T : u_T} (hin : ∀ w ∈ u_ws C T N, w ∈ Ts) (ty0 : Nat → FieldType) (hty : ∀ k, k < N → parseFieldDescriptor (T k).2.2.1 = some (ty0 k)) (hnm : ∀ a, a < N → ∀ b, b < N → a ≠ b → (T a).2.1 ≠ (T b).2.1) (hc : vwCl[ci]? = some (C, T, N)) (hf : f < N) {nm ds : String} (hTf : T f = (C, nm, ds, false)) (hlink : Cond.fieldLink own idx C nm ds ∈ Ts) (hk : k ∈ F) {σ' : Mm} {fs : List Value} (hct : ct dA α σ k = .inr (ci, fs)) {v : Value} (hn : narrow (ty0 f) v = v) (hfit : fits (ty0 f) v = true) (hl0 : f < fs.length) (hset : ct dA α σ' k = .inr (ci, fs.set f v)) (ho : ∀ j, j ≠ k → ct dA α σ' j = ct dA α σ j) (d : decode cc pc = .ok (.putfield idx, 3)) (kk : G p l e R s m args below meth c cells slots Q dC dI dA F α A nL σ' (pc + 3) lv st) : G p l e R s m args below meth c cells slots Q dC dI dA F α A nL σ pc lv (v :: fO α (some k) :: st) := by
  intro H locs ls hW hl
  obtain ⟨q, hq⟩ := wl_mem hk
  have hq2 := wl_at (dA := dA) (α := α) (σ := σ) hq
  rw [hct] at hq2
  have h1 : (T f).1 = C := by rw [hTf]
  have h2 : (T f).2.1 = nm := by rw [hTf]
  have h3 : (T f).2.2.1 = ds := by rw [hTf]
  refine va_put (D := (dC, dI)) (ty := ty0 f) hC.1 hC.2.1 hC.2.2.2.2.1 hin ty0 hty hnm hC.2.2.2.1 hC.2.2.2.2.2.1 hW.1 hW.2.1 hW.2.2 q hq2 hc f hf (by rw [h2, h3]; exact hC.2.2.2.2.1 _ hlink) (fun x h => by rw [h1] at h; exact h) (by rw [hTf]) (hty f hf) hn hfit hl0 d (fun H1 locs1 hP hD hS => kk H1 locs1 ls ?_ hl)
  rw [wl_set hW.2.1 hq hset ho] at hP hD
  exact ⟨hP, hD, hS⟩
theorem r_putF (hC : mC p s m args c cc own nL Ts dC dI dA A) {ci f N idx k : Nat} {C : String} {T : u_T} (hin : ∀ w ∈ u_ws C T N, w ∈ Ts) (ty0 : Nat → FieldType) (hty : ∀ k, k < N → parseFieldDescriptor (T k).2.2.1 = some (ty0 k)) (hnm : ∀ a, a < N → ∀ b, b < N → a ≠ b → (T a).2.1 ≠ (T b).2.1) (hc : vwCl[ci]? = some (C, T, N)) (hf : f < N) {nm ds : String} (hTf : T f = (C, nm, ds, true)) (hmn : meth.name = "<init>") (hCo : C = own) (hlink : Cond.fieldLink own idx C nm ds ∈ Ts) (hk : k ∈ F) {σ' : Mm} {fs : List Value} (hct : ct dA α σ k = .inr (ci, fs)) {v : Value} (hn : narrow (ty0 f) v = v) (hfit : fits (ty0 f) v = true) (hl0 : f < fs.length) (hset : ct dA α σ' k = .inr (ci, fs.set f v)) (ho : ∀ j, j ≠ k → ct dA α σ' j = ct dA α σ j) (d : decode cc pc = .ok (.putfield idx, 3)) (kk : G p l e R s m args below meth c cells slots Q dC dI dA F α A nL σ' (pc + 3) lv st) : G p l e R s m args below meth c cells slots Q dC dI dA F α A nL σ pc lv (v :: fO α (some k) :: st) := by
  intro H locs ls hW hl
  obtain ⟨q, hq⟩ := wl_mem hk
  have hq2 := wl_at (dA := dA) (α := α) (σ := σ) hq
  rw [hct] at hq2
  have h1 : (T f).1 = C := by rw [hTf]
  have h2 : (T f).2.1 = nm := by rw [hTf]
  have h3 : (T f).2.2.1 = ds := by rw [hTf]
  refine va_putF (D := (dC, dI)) (ty := ty0 f) hC.1 hC.2.1 hC.2.2.2.2.1 hin ty0 hty hnm hC.2.2.2.1 hC.2.2.2.2.2.1 hW.1 hW.2.1 hW.2.2 q hq2 hc f hf (by rw [h2, h3]; exact hC.2.2.2.2.1 _ hlink) (fun x h => by rw [h1] at h; exact h) (by rw [hTf]) hmn (h1.trans hCo) (hty f hf) hn hfit hl0 d (fun H1 locs1 hP hD hS => kk H1 locs1 ls ?_ hl)
  rw [wl_set hW.2.1 hq hset ho] at hP hD
  exact ⟨hP, hD, hS⟩
theorem r_iald (hC : mC p s m args c cc own nL Ts dC dI dA A) {k : Nat} (hk : k ∈ F) (hkd : kd k = 8) {i : Int32} (hin : vp_in i (ln k)) (d : decode cc pc = .ok (.iaload, 1)) (kk : G p l e R s m args below meth c cells slots Q dC dI dA F α A nL σ (pc + 1) lv (.int (gI σ k i.toNatClampNeg) :: st)) : G p l e R s m args below meth c cells slots Q dC dI dA F α A nL σ pc lv (.int i :: fO α (some k) :: st) := by
  intro H locs ls hW hl
  obtain ⟨q, hq⟩ := wl_mem hk
  have hq2 := wl_at (dA := dA) (α := α) (σ := σ) hq
  rw [ct_8 hkd] at hq2
  exact va_iald (D := (dC, dI)) hC.1 hC.2.1 hC.2.2.2.2.2.1 hW.1 q 0 hq2 rfl hin d (kk H locs ls hW hl)
theorem r_lald (hC : mC p s m args c cc own nL Ts dC dI dA A) {k : Nat} (hk : k ∈ F) (hkd : kd k = 9) {i : Int32} (hin : vp_in i (ln k)) (d : decode cc pc = .ok (.laload, 1)) (kk : G p l e R s m args below meth c cells slots Q dC dI dA F α A nL σ (pc + 1) lv (.long (gJ σ k i.toNatClampNeg) :: st)) : G p l e R s m args below meth c cells slots Q dC dI dA F α A nL σ pc lv (.int i :: fO α (some k) :: st) := by
  intro H locs ls hW hl
  obtain ⟨q, hq⟩ := wl_mem hk
  have hq2 := wl_at (dA := dA) (α := α) (σ := σ) hq
  rw [ct_9 hkd] at hq2
  exact va_lald (D := (dC, dI)) hC.1 hC.2.1 hC.2.2.2.2.2.1 hW.1 q 1 hq2 rfl hin d (kk H locs ls hW hl)
theorem r_aald_11 (hC : mC p s m args c cc own nL Ts dC dI dA A) {k : Nat} (hk : k ∈ F) (hkd : kd k = 11) {i : Int32} (hin : vp_in i (ln k)) (d : decode cc pc = .ok (.aaload, 1)) (kk : G p l e R s m args below meth c cells slots Q dC dI dA F α A nL σ (pc + 1) lv (fO α (gR σ k i.toNatClampNeg) :: st)) : G p l e R s m args below meth c cells slots Q dC dI dA F α A nL σ pc lv (.int i :: fO α (some k) :: st) := by
  intro H locs ls hW hl
  obtain ⟨q, hq⟩ := wl_mem hk
  have hq2 := wl_at (dA := dA) (α := α) (σ := σ) hq
  rw [ct_11 hkd] at hq2
  exact va_aldq (D := (dC, dI)) hC.1 hC.2.1 hC.2.2.2.2.2.1 hW.1 q 3 hq2 rfl hin d (kk H locs ls hW hl)
theorem r_aald_12 (hC : mC p s m args c cc own nL Ts dC dI dA A) {k : Nat} (hk : k ∈ F) (hkd : kd k = 12) {i : Int32} (hin : vp_in i (ln k)) (d : decode cc pc = .ok (.aaload, 1)) (kk : G p l e R s m args below meth c cells slots Q dC dI dA F α A nL σ (pc + 1) lv (fO α (gR σ k i.toNatClampNeg) :: st)) : G p l e R s m args below meth c cells slots Q dC dI dA F α A nL σ pc lv (.int i :: fO α (some k) :: st) := by
  intro H locs ls hW hl
  obtain ⟨q, hq⟩ := wl_mem hk
  have hq2 := wl_at (dA := dA) (α := α) (σ := σ) hq
  rw [ct_12 hkd] at hq2
  exact va_aldq (D := (dC, dI)) hC.1 hC.2.1 hC.2.2.2.2.2.1 hW.1 q 4 hq2 rfl hin d (kk H locs ls hW hl)
theorem r_aald_13 (hC : mC p s m args c cc own nL Ts dC dI dA A) {k : Nat} (hk : k ∈ F) (hkd : kd k = 13) {i : Int32} (hin : vp_in i (ln k)) (d : decode cc pc = .ok (.aaload, 1)) (kk : G p l e R s m args below meth c cells slots Q dC dI dA F α A nL σ (pc + 1) lv (fO α (gR σ k i.toNatClampNeg) :: st)) : G p l e R s m args below meth c cells slots Q dC dI dA F α A nL σ pc lv (.int i :: fO α (some k) :: st) := by
  intro H locs ls hW hl
  obtain ⟨q, hq⟩ := wl_mem hk
  have hq2 := wl_at (dA := dA) (α := α) (σ := σ) hq
  rw [ct_13 hkd] at hq2
  exact va_aldq (D := (dC, dI)) hC.1 hC.2.1 hC.2.2.2.2.2.1 hW.1 q 5 hq2 rfl hin d (kk H locs ls hW hl)
theorem r_aald_14 (hC : mC p s m args c cc own nL Ts dC dI dA A) {k : Nat} (hk : k ∈ F) (hkd : kd k = 14) {i : Int32} (hin : vp_in i (ln k)) (d : decode cc pc = .ok (.aaload, 1)) (kk : G p l e R s m args below meth c cells slots Q dC dI dA F α A nL σ (pc + 1) lv (fO α (gR σ k i.toNatClampNeg) :: st)) : G p l e R s m args below meth c cells slots Q dC dI dA F α A nL σ pc lv (.int i :: fO α (some k) :: st) := by
  intro H locs ls hW hl
  obtain ⟨q, hq⟩ := wl_mem hk
  have hq2 := wl_at (dA := dA) (α := α) (σ := σ) hq
  rw [ct_14 hkd] at hq2
  exact va_aldq (D := (dC, dI)) hC.1 hC.2.1 hC.2.2.2.2.2.1 hW.1 q 6 hq2 rfl hin d (kk H locs ls hW hl)
theorem r_aald_15 (hC : mC p s m args c cc own nL Ts dC dI dA A) {k : Nat} (hk : k ∈ F) (hkd : kd k = 15) {i : Int32} (hin : vp_in i (ln k)) (d : decode cc pc = .ok (.aaload, 1)) (kk : G p l e R s m args below meth c cells slots Q dC dI dA F α A nL σ (pc + 1) lv (fO α (gR σ k i.toNatClampNeg) :: st)) : G p l e R s m args below meth c cells slots Q dC dI dA F α A nL σ pc lv (.int i :: fO α (some k) :: st) := by
  intro H locs ls hW hl
  obtain ⟨q, hq⟩ := wl_mem hk
  have hq2 := wl_at (dA := dA) (α := α) (σ := σ) hq
  rw [ct_15 hkd] at hq2
  exact va_aldq (D := (dC, dI)) hC.1 hC.2.1 hC.2.2.2.2.2.1 hW.1 q 7 hq2 rfl hin d (kk H locs ls hW hl)
theorem r_iast (hC : mC p s m args c cc own nL Ts dC dI dA A) {k : Nat} (hk : k ∈ F) (hkd : kd k = 8) {i : Int32} {x : Int32} (hin : vp_in i (ln k)) (d : decode cc pc = .ok (.iastore, 1)) (kk : G p l e R s m args below meth c cells slots Q dC dI dA F α A nL (sI σ k i.toNatClampNeg x) (pc + 1) lv st) : G p l e R s m args below meth c cells slots Q dC dI dA F α A nL σ pc lv (.int x :: .int i :: fO α (some k) :: st) := by
  intro H locs ls hW hl
  obtain ⟨q, hq⟩ := wl_mem hk
  have hq2 := wl_at (dA := dA) (α := α) (σ := σ) hq
  rw [ct_8 hkd] at hq2
  refine va_iast (D := (dC, dI)) hC.1 hC.2.1 hC.2.2.2.2.2.1 hW.1 hW.2.1 hW.2.2 q 0 hq2 rfl hin d (fun H1 locs1 hP hD hS => kk H1 locs1 ls ?_ hl)
  rw [wl_set (σ' := sI σ k i.toNatClampNeg x) hW.2.1 hq (by rw [ct_8 hkd, gI_eq]; rfl) (ct_sI)] at hP hD
  exact ⟨hP, hD, hS⟩
theorem r_last (hC : mC p s m args c cc own nL Ts dC dI dA A) {k : Nat} (hk : k ∈ F) (hkd : kd k = 9) {i : Int32} {x : Int64} (hin : vp_in i (ln k)) (d : decode cc pc = .ok (.lastore, 1)) (kk : G p l e R s m args below meth c cells slots Q dC dI dA F α A nL (sJ σ k i.toNatClampNeg x) (pc + 1) lv st) : G p l e R s m args below meth c cells slots Q dC dI dA F α A nL σ pc lv (.long x :: .int i :: fO α (some k) :: st) := by
  intro H locs ls hW hl
  obtain ⟨q, hq⟩ := wl_mem hk
  have hq2 := wl_at (dA := dA) (α := α) (σ := σ) hq
  rw [ct_9 hkd] at hq2
  refine va_last (D := (dC, dI)) hC.1 hC.2.1 hC.2.2.2.2.2.1 hW.1 hW.2.1 hW.2.2 q 1 hq2 rfl hin d (fun H1 locs1 hP hD hS => kk H1 locs1 ls ?_ hl)
  rw [wl_set (σ' := sJ σ k i.toNatClampNeg x) hW.2.1 hq (by rw [ct_9 hkd, gJ_eq]; rfl) (ct_sJ)] at hP hD
  exact ⟨hP, hD, hS⟩
theorem r_aast_11 (hC : mC p s m args c cc own nL Ts dC dI dA A) {k v : Nat} (hk : k ∈ F) (hkd : kd k = 11) (hv : v ∈ F) (hvd : kd v = 0) {i : Int32} (hin : vp_in i (ln k)) (d : decode cc pc = .ok (.aastore, 1)) (kk : G p l e R s m args below meth c cells slots Q dC dI dA F α A nL (sR σ k i.toNatClampNeg (some v)) (pc + 1) lv st) : G p l e R s m args below meth c cells slots Q dC dI dA F α A nL σ pc lv (fO α (some v) :: .int i :: fO α (some k) :: st) := by
  intro H locs ls hW hl
  obtain ⟨q, hq⟩ := wl_mem hk
  have hq2 := wl_at (dA := dA) (α := α) (σ := σ) hq
  rw [ct_11 hkd] at hq2
  obtain ⟨qv, hqv⟩ := wl_mem hv
  have hqv2 := wl_at (dA := dA) (α := α) (σ := σ) hqv
  rw [ct_0 hvd] at hqv2
  refine va_astq (D := (dC, dI)) hC.1 hC.2.1 hC.2.2.2.2.2.1 hW.1 hW.2.1 hW.2.2 q 3 qv 0 hq2 rfl hqv2 rfl hin d (fun H1 locs1 hP hD hS => kk H1 locs1 ls ?_ hl)
  rw [wl_set (σ' := sR σ k i.toNatClampNeg (some v)) hW.2.1 hq (by rw [ct_11 hkd, gR_eq]; refine congrArg (fun z => Sum.inl (dA 11, ln k, Sum.inr (Sum.inr (Sum.inr (Sum.inr z))))) ?_; funext j; by_cases z : j = i.toNatClampNeg <;> simp [z, va_up]) (ct_sR)] at hP hD
  exact ⟨hP, hD, hS⟩
theorem r_aast_12 (hC : mC p s m args c cc own nL Ts dC dI dA A) {k v : Nat} (hk : k ∈ F) (hkd : kd k = 12) (hv : v ∈ F) (hvd : kd v = 1) {i : Int32} (hin : vp_in i (ln k)) (d : decode cc pc = .ok (.aastore, 1)) (kk : G p l e R s m args below meth c cells slots Q dC dI dA F α A nL (sR σ k i.toNatClampNeg (some v)) (pc + 1) lv st) : G p l e R s m args below meth c cells slots Q dC dI dA F α A nL σ pc lv (fO α (some v) :: .int i :: fO α (some k) :: st) := by
  intro H locs ls hW hl
  obtain ⟨q, hq⟩ := wl_mem hk
  have hq2 := wl_at (dA := dA) (α := α) (σ := σ) hq
  rw [ct_12 hkd] at hq2
  obtain ⟨qv, hqv⟩ := wl_mem hv
  have hqv2 := wl_at (dA := dA) (α := α) (σ := σ) hqv
  rw [ct_1 hvd] at hqv2
  refine va_astq (D := (dC, dI)) hC.1 hC.2.1 hC.2.2.2.2.2.1 hW.1 hW.2.1 hW.2.2 q 4 qv 1 hq2 rfl hqv2 rfl hin d (fun H1 locs1 hP hD hS => kk H1 locs1 ls ?_ hl)
  rw [wl_set (σ' := sR σ k i.toNatClampNeg (some v)) hW.2.1 hq (by rw [ct_12 hkd, gR_eq]; refine congrArg (fun z => Sum.inl (dA 12, ln k, Sum.inr (Sum.inr (Sum.inr (Sum.inr z))))) ?_; funext j; by_cases z : j = i.toNatClampNeg <;> simp [z, va_up]) (ct_sR)] at hP hD
  exact ⟨hP, hD, hS⟩
theorem r_aast_13 (hC : mC p s m args c cc own nL Ts dC dI dA A) {k v : Nat} (hk : k ∈ F) (hkd : kd k = 13) (hv : v ∈ F) (hvd : kd v = 3) {i : Int32} (hin : vp_in i (ln k)) (d : decode cc pc = .ok (.aastore, 1)) (kk : G p l e R s m args below meth c cells slots Q dC dI dA F α A nL (sR σ k i.toNatClampNeg (some v)) (pc + 1) lv st) : G p l e R s m args below meth c cells slots Q dC dI dA F α A nL σ pc lv (fO α (some v) :: .int i :: fO α (some k) :: st) := by
  intro H locs ls hW hl
  obtain ⟨q, hq⟩ := wl_mem hk
  have hq2 := wl_at (dA := dA) (α := α) (σ := σ) hq
  rw [ct_13 hkd] at hq2
  obtain ⟨qv, hqv⟩ := wl_mem hv
  have hqv2 := wl_at (dA := dA) (α := α) (σ := σ) hqv
  rw [ct_3 hvd] at hqv2
  refine va_astq (D := (dC, dI)) hC.1 hC.2.1 hC.2.2.2.2.2.1 hW.1 hW.2.1 hW.2.2 q 5 qv 3 hq2 rfl hqv2 rfl hin d (fun H1 locs1 hP hD hS => kk H1 locs1 ls ?_ hl)
  rw [wl_set (σ' := sR σ k i.toNatClampNeg (some v)) hW.2.1 hq (by rw [ct_13 hkd, gR_eq]; refine congrArg (fun z => Sum.inl (dA 13, ln k, Sum.inr (Sum.inr (Sum.inr (Sum.inr z))))) ?_; funext j; by_cases z : j = i.toNatClampNeg <;> simp [z, va_up]) (ct_sR)] at hP hD
  exact ⟨hP, hD, hS⟩
theorem r_aast_14 (hC : mC p s m args c cc own nL Ts dC dI dA A) {k v : Nat} (hk : k ∈ F) (hkd : kd k = 14) (hv : v ∈ F) (hvd : kd v = 4) {i : Int32} (hin : vp_in i (ln k)) (d : decode cc pc = .ok (.aastore, 1)) (kk : G p l e R s m args below meth c cells slots Q dC dI dA F α A nL (sR σ k i.toNatClampNeg (some v)) (pc + 1) lv st) : G p l e R s m args below meth c cells slots Q dC dI dA F α A nL σ pc lv (fO α (some v) :: .int i :: fO α (some k) :: st) := by
  intro H locs ls hW hl
  obtain ⟨q, hq⟩ := wl_mem hk
  have hq2 := wl_at (dA := dA) (α := α) (σ := σ) hq
  rw [ct_14 hkd] at hq2
  obtain ⟨qv, hqv⟩ := wl_mem hv
  have hqv2 := wl_at (dA := dA) (α := α) (σ := σ) hqv
  rw [ct_4 hvd] at hqv2
  refine va_astq (D := (dC, dI)) hC.1 hC.2.1 hC.2.2.2.2.2.1 hW.1 hW.2.1 hW.2.2 q 6 qv 4 hq2 rfl hqv2 rfl hin d (fun H1 locs1 hP hD hS => kk H1 locs1 ls ?_ hl)
  rw [wl_set (σ' := sR σ k i.toNatClampNeg (some v)) hW.2.1 hq (by rw [ct_14 hkd, gR_eq]; refine congrArg (fun z => Sum.inl (dA 14, ln k, Sum.inr (Sum.inr (Sum.inr (Sum.inr z))))) ?_; funext j; by_cases z : j = i.toNatClampNeg <;> simp [z, va_up]) (ct_sR)] at hP hD
  exact ⟨hP, hD, hS⟩
theorem r_aast_15 (hC : mC p s m args c cc own nL Ts dC dI dA A) {k v : Nat} (hk : k ∈ F) (hkd : kd k = 15) (hv : v ∈ F) (hvd : kd v = 5) {i : Int32} (hin : vp_in i (ln k)) (d : decode cc pc = .ok (.aastore, 1)) (kk : G p l e R s m args below meth c cells slots Q dC dI dA F α A nL (sR σ k i.toNatClampNeg (some v)) (pc + 1) lv st) : G p l e R s m args below meth c cells slots Q dC dI dA F α A nL σ pc lv (fO α (some v) :: .int i :: fO α (some k) :: st) := by
  intro H locs ls hW hl
  obtain ⟨q, hq⟩ := wl_mem hk
  have hq2 := wl_at (dA := dA) (α := α) (σ := σ) hq
  rw [ct_15 hkd] at hq2
  obtain ⟨qv, hqv⟩ := wl_mem hv
  have hqv2 := wl_at (dA := dA) (α := α) (σ := σ) hqv
  rw [ct_5 hvd] at hqv2
  refine va_astq (D := (dC, dI)) hC.1 hC.2.1 hC.2.2.2.2.2.1 hW.1 hW.2.1 hW.2.2 q 7 qv 5 hq2 rfl hqv2 rfl hin d (fun H1 locs1 hP hD hS => kk H1 locs1 ls ?_ hl)
  rw [wl_set (σ' := sR σ k i.toNatClampNeg (some v)) hW.2.1 hq (by rw [ct_15 hkd, gR_eq]; refine congrArg (fun z => Sum.inl (dA 15, ln k, Sum.inr (Sum.inr (Sum.inr (Sum.inr z))))) ?_; funext j; by_cases z : j = i.toNatClampNeg <;> simp [z, va_up]) (ct_sR)] at hP hD
  exact ⟨hP, hD, hS⟩
theorem r_alen_8 (hC : mC p s m args c cc own nL Ts dC dI dA A) {k : Nat} (hk : k ∈ F) (hkd : kd k = 8) {v : Int32} (hv : Int32.ofNat (ln k) = v) (d : decode cc pc = .ok (.arraylength, 1)) (kk : G p l e R s m args below meth c cells slots Q dC dI dA F α A nL σ (pc + 1) lv (.int v :: st)) : G p l e R s m args below meth c cells slots Q dC dI dA F α A nL σ pc lv (fO α (some k) :: st) := by
  intro H locs ls hW hl
  obtain ⟨q, hq⟩ := wl_mem hk
  have hq2 := wl_at (dA := dA) (α := α) (σ := σ) hq
  rw [ct_8 hkd] at hq2
  exact va_alen (D := (dC, dI)) hC.1 hC.2.1 hC.2.2.2.2.2.1 hW.1 q hq2 (t0 := 0) rfl hv d (kk H locs ls hW hl)
theorem r_alen_9 (hC : mC p s m args c cc own nL Ts dC dI dA A) {k : Nat} (hk : k ∈ F) (hkd : kd k = 9) {v : Int32} (hv : Int32.ofNat (ln k) = v) (d : decode cc pc = .ok (.arraylength, 1)) (kk : G p l e R s m args below meth c cells slots Q dC dI dA F α A nL σ (pc + 1) lv (.int v :: st)) : G p l e R s m args below meth c cells slots Q dC dI dA F α A nL σ pc lv (fO α (some k) :: st) := by
  intro H locs ls hW hl
  obtain ⟨q, hq⟩ := wl_mem hk
  have hq2 := wl_at (dA := dA) (α := α) (σ := σ) hq
  rw [ct_9 hkd] at hq2
  exact va_alen (D := (dC, dI)) hC.1 hC.2.1 hC.2.2.2.2.2.1 hW.1 q hq2 (t0 := 1) rfl hv d (kk H locs ls hW hl)
theorem r_alen_10 (hC : mC p s m args c cc own nL Ts dC dI dA A) {k : Nat} (hk : k ∈ F) (hkd : kd k = 10) {v : Int32} (hv : Int32.ofNat (ln k) = v) (d : decode cc pc = .ok (.arraylength, 1)) (kk : G p l e R s m args below meth c cells slots Q dC dI dA F α A nL σ (pc + 1) lv (.int v :: st)) : G p l e R s m args below meth c cells slots Q dC dI dA F α A nL σ pc lv (fO α (some k) :: st) := by
  intro H locs ls hW hl
  obtain ⟨q, hq⟩ := wl_mem hk
  have hq2 := wl_at (dA := dA) (α := α) (σ := σ) hq
  rw [ct_10 hkd] at hq2
  exact va_alen (D := (dC, dI)) hC.1 hC.2.1 hC.2.2.2.2.2.1 hW.1 q hq2 (t0 := 2) rfl hv d (kk H locs ls hW hl)
theorem r_alen_11 (hC : mC p s m args c cc own nL Ts dC dI dA A) {k : Nat} (hk : k ∈ F) (hkd : kd k = 11) {v : Int32} (hv : Int32.ofNat (ln k) = v) (d : decode cc pc = .ok (.arraylength, 1)) (kk : G p l e R s m args below meth c cells slots Q dC dI dA F α A nL σ (pc + 1) lv (.int v :: st)) : G p l e R s m args below meth c cells slots Q dC dI dA F α A nL σ pc lv (fO α (some k) :: st) := by
  intro H locs ls hW hl
  obtain ⟨q, hq⟩ := wl_mem hk
  have hq2 := wl_at (dA := dA) (α := α) (σ := σ) hq
  rw [ct_11 hkd] at hq2
  exact va_alen (D := (dC, dI)) hC.1 hC.2.1 hC.2.2.2.2.2.1 hW.1 q hq2 (t0 := 3) rfl hv d (kk H locs ls hW hl)
theorem r_alen_12 (hC : mC p s m args c cc own nL Ts dC dI dA A) {k : Nat} (hk : k ∈ F) (hkd : kd k = 12) {v : Int32} (hv : Int32.ofNat (ln k) = v) (d : decode cc pc = .ok (.arraylength, 1)) (kk : G p l e R s m args below meth c cells slots Q dC dI dA F α A nL σ (pc + 1) lv (.int v :: st)) : G p l e R s m args below meth c cells slots Q dC dI dA F α A nL σ pc lv (fO α (some k) :: st) := by
  intro H locs ls hW hl
  obtain ⟨q, hq⟩ := wl_mem hk
  have hq2 := wl_at (dA := dA) (α := α) (σ := σ) hq
  rw [ct_12 hkd] at hq2
  exact va_alen (D := (dC, dI)) hC.1 hC.2.1 hC.2.2.2.2.2.1 hW.1 q hq2 (t0 := 4) rfl hv d (kk H locs ls hW hl)
theorem r_alen_13 (hC : mC p s m args c cc own nL Ts dC dI dA A) {k : Nat} (hk : k ∈ F) (hkd : kd k = 13) {v : Int32} (hv : Int32.ofNat (ln k) = v) (d : decode cc pc = .ok (.arraylength, 1)) (kk : G p l e R s m args below meth c cells slots Q dC dI dA F α A nL σ (pc + 1) lv (.int v :: st)) : G p l e R s m args below meth c cells slots Q dC dI dA F α A nL σ pc lv (fO α (some k) :: st) := by
  intro H locs ls hW hl
  obtain ⟨q, hq⟩ := wl_mem hk
  have hq2 := wl_at (dA := dA) (α := α) (σ := σ) hq
  rw [ct_13 hkd] at hq2
  exact va_alen (D := (dC, dI)) hC.1 hC.2.1 hC.2.2.2.2.2.1 hW.1 q hq2 (t0 := 5) rfl hv d (kk H locs ls hW hl)
theorem r_alen_14 (hC : mC p s m args c cc own nL Ts dC dI dA A) {k : Nat} (hk : k ∈ F) (hkd : kd k = 14) {v : Int32} (hv : Int32.ofNat (ln k) = v) (d : decode cc pc = .ok (.arraylength, 1)) (kk : G p l e R s m args below meth c cells slots Q dC dI dA F α A nL σ (pc + 1) lv (.int v :: st)) : G p l e R s m args below meth c cells slots Q dC dI dA F α A nL σ pc lv (fO α (some k) :: st) := by
  intro H locs ls hW hl
  obtain ⟨q, hq⟩ := wl_mem hk
  have hq2 := wl_at (dA := dA) (α := α) (σ := σ) hq
  rw [ct_14 hkd] at hq2
  exact va_alen (D := (dC, dI)) hC.1 hC.2.1 hC.2.2.2.2.2.1 hW.1 q hq2 (t0 := 6) rfl hv d (kk H locs ls hW hl)
theorem r_alen_15 (hC : mC p s m args c cc own nL Ts dC dI dA A) {k : Nat} (hk : k ∈ F) (hkd : kd k = 15) {v : Int32} (hv : Int32.ofNat (ln k) = v) (d : decode cc pc = .ok (.arraylength, 1)) (kk : G p l e R s m args below meth c cells slots Q dC dI dA F α A nL σ (pc + 1) lv (.int v :: st)) : G p l e R s m args below meth c cells slots Q dC dI dA F α A nL σ pc lv (fO α (some k) :: st) := by
  intro H locs ls hW hl
  obtain ⟨q, hq⟩ := wl_mem hk
  have hq2 := wl_at (dA := dA) (α := α) (σ := σ) hq
  rw [ct_15 hkd] at hq2
  exact va_alen (D := (dC, dI)) hC.1 hC.2.1 hC.2.2.2.2.2.1 hW.1 q hq2 (t0 := 7) rfl hv d (kk H locs ls hW hl)
end MEMROWS
